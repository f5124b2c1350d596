theorem cN_lt {x : Int32} {n : Nat} (h0 : 0 ≤ x.toInt) (h : x.toInt < (n : Int)) : x.toNatClampNeg < n := by
  show x.toInt.toNat < n
  omega
section WF
variable {d d2 nu bi : Nat → Int32} {ss tx kd : Nat → Nat} {T : Nat → Nat → Int32} {len nc nt nw nb tn q : Nat} {c w v s k m x a u im : Int32} {w6 : Int64} {nm : Nat → Int32}
theorem lnO_c (e : d2 1 = d 1) : lnO d2 = lnO d := by unfold lnO; rw [e]
theorem lnOk_c (h : lnOk d) (e : d2 1 = d 1) : lnOk d2 := by
  unfold lnOk
  rw [lnO_c e, e]
  exact h
theorem off_set (h : q < 4 ∨ 10 ≤ q) : dSet d w v q = d q := by
  unfold dSet
  split
  · rfl
  · rename_i hm
    have hm := Decidable.not_not.mp hm
    unfold mayB at hm
    have : w.toNatClampNeg < 6 := cN_lt (by omega) (by omega)
    exact pk_un (by omega)
theorem off_shape (hl : len ≤ 40) (h : q < 100 ∨ 180 ≤ q) : dShape d len c w v q = d q := by
  unfold dShape
  split
  · rfl
  · rename_i hm
    have hm := Decidable.not_not.mp hm
    have hc : c.toNatClampNeg < 40 := cN_lt hm.1 (by omega)
    split
    · exact pk_un (by omega)
    · exact pk_un (by omega)
theorem off_turn (h : q ≠ 10) : dTurn d nc c w q = d q := by
  unfold dTurn
  split
  · rfl
  · exact pk_un h
theorem off_tell (hn : nw ≤ 20) (h : q ≠ 15 ∧ (q < 70 ∨ 90 ≤ q)) : dTell d nw v q = d q := by
  unfold dTell
  split
  · rfl
  · exact (pk_un (by omega)).trans (pk_un (by omega))
theorem off_box (hn : nb ≤ 5) (h : q ≠ 12 ∧ (q < 40 ∨ 55 ≤ q)) : dBox d nb c w s q = d q := by
  unfold dBox
  split
  · rfl
  · split
    · rfl
    · exact (pk_un (by omega)).trans ((pk_un (by omega)).trans ((pk_un (by omega)).trans (pk_un (by omega))))
theorem off_fd (h : q ≠ 14) : ∀ k : Nat, nt + k ≤ 50 → (q < 280 ∨ 330 ≤ q) → dFd d nt w6 k q = d q := by
  intro k
  induction k with
  | zero => intro _ _; rfl
  | succ k ih =>
    intro h1 h2
    exact (pk_un h).trans ((pk_un (by omega)).trans (ih (by omega) h2))
theorem off_feed (h : q ≠ 14 ∧ (q < 280 ∨ 330 ≤ q)) : dFeed d nt w6 v q = d q := by
  unfold dFeed
  split
  · rfl
  · split
    · rfl
    · exact off_fd h.1 _ (by omega) h.2
theorem off_ticks (hOk : lnOk d) (h : 4 ≤ q ∧ q < 100 ∨ 180 ≤ q) : dTicks T tx d v q = d q := by
  unfold dTicks
  split
  · rfl
  · split
    · rfl
    · exact gbyN_off hOk h _
theorem off_gusts (hOk : lnOk d) (h : (4 ≤ q ∧ q < 100 ∨ 180 ≤ q) ∧ q ≠ 13) : dGusts T tx d v q = d q := by
  unfold dGusts
  split
  · rfl
  · split
    · rfl
    · by_cases h7 : q = 7
      · rw [h7]
        exact pk_us
      · exact (pk_un h7).trans (gsN_off hOk ⟨h.1, h.2, h7⟩ _)
theorem off_cause (hn : nc ≤ 6) (h : q ≠ 10 ∧ q ≠ 11 ∧ (q < 20 ∨ 32 ≤ q)) : dCause d nc k m q = d q := by
  unfold dCause
  split
  · rfl
  · split
    · rfl
    · exact (pk_un (by omega)).trans ((pk_un (by omega)).trans ((pk_un (by omega)).trans (pk_un (by omega))))
theorem off_text (hn : nt ≤ 50) (h : q ≠ 14 ∧ q ≠ 60 ∧ q ≠ 61 ∧ (q < 180 ∨ 280 ≤ q)) : dText d nt nm u q = d q := by
  unfold dText
  split
  · rfl
  · rename_i hm
    have hm := Decidable.not_not.mp hm
    have hu : u.toNatClampNeg < 2 := cN_lt hm.1 (by omega)
    cases hz : (wkE (sh d 280) nt nm).2 with
    | none =>
      show dTxt d nt u.toNatClampNeg q = d q
      unfold dTxt
      rw [if_neg (by omega)]
      exact (pk_un (by omega)).trans (pk_un (by omega))
    | some z => exact pk_un h.1
theorem ctk_in {a b : Nat} : ∀ (f i : Nat), i ≤ ctk nu nc a b f i ∧ ∀ j, i ≤ j → j < ctk nu nc a b f i → j < a ∧ j < b ∧ 0 ≤ (nu (40 * nc + j)).toInt ∧ (nu (40 * nc + j)).toInt ≤ 99999 := by
  intro f
  induction f with
  | zero => intro i; exact ⟨Nat.le_refl _, fun j h1 h2 => absurd (show j < i from h2) (by omega)⟩
  | succ f ih =>
    intro i
    unfold ctk
    split
    · rename_i h
      obtain ⟨g1, g2⟩ := ih (i + 1)
      refine ⟨by omega, fun j h1 h2 => ?_⟩
      by_cases e : j = i
      · rw [e]; exact h
      · exact g2 j (by omega) h2
    · exact ⟨Nat.le_refl _, fun j h1 h2 => absurd h2 (by omega)⟩
theorem off_cells (hl : len ≤ 40) (h : q < 100 ∨ 140 ≤ q) : dCells d bi nu ss len s q = d q := by
  unfold dCells
  split
  · rfl
  · split
    · rfl
    · unfold dTake
      rw [if_neg]
      intro hq
      have := (ctk_in (nu := nu) (nc := s.toNatClampNeg) (a := ss s.toNatClampNeg) (b := len) 40 0).2 (q - 100) (by omega) (by omega)
      omega
theorem wfC_cells (hC : wfC d) (hl : len ≤ 40) : wfC (dCells d bi nu ss len s) := by
  intro c hc
  refine ⟨?_, ?_, ?_⟩
  · unfold dCells
    split
    · exact (hC c hc).1
    · split
      · exact (hC c hc).1
      · unfold dTake
        split
        · rename_i hq
          rw [show 100 + c - 100 = c by omega]
          exact ((ctk_in (nu := nu) (nc := s.toNatClampNeg) (a := ss s.toNatClampNeg) (b := len) 40 0).2 c (by omega) (by omega)).2.2.1
        · exact (hC c hc).1
  · unfold dCells
    split
    · exact (hC c hc).2.1
    · split
      · exact (hC c hc).2.1
      · unfold dTake
        split
        · rename_i hq
          rw [show 100 + c - 100 = c by omega]
          exact ((ctk_in (nu := nu) (nc := s.toNatClampNeg) (a := ss s.toNatClampNeg) (b := len) 40 0).2 c (by omega) (by omega)).2.2.2
        · exact (hC c hc).2.1
  · rw [off_cells hl (by omega)]
    exact (hC c hc).2.2
theorem wfC_shape (hC : wfC d) (hl : len ≤ 40) : wfC (dShape d len c w v) := by
  intro j hj
  unfold dShape
  split
  · exact hC j hj
  · rename_i hm
    have hm := Decidable.not_not.mp hm
    split
    · rw [pk_un (show 140 + j ≠ 100 + c.toNatClampNeg by have := cN_lt (n := 40) hm.1 (by omega); omega)]
      by_cases e : j = c.toNatClampNeg
      · rw [e, pk_us]
        have := (hC _ (show c.toNatClampNeg < 40 by omega)).2.2
        exact ⟨by omega, by omega, this.1, this.2⟩
      · rw [pk_un (by omega)]
        exact hC j hj
    · rw [pk_un (show 100 + j ≠ 140 + c.toNatClampNeg by omega)]
      by_cases e : j = c.toNatClampNeg
      · rw [e, pk_us]
        have := hC _ (show c.toNatClampNeg < 40 by omega)
        exact ⟨this.1, this.2.1, by omega, by omega⟩
      · rw [pk_un (by omega)]
        exact hC j hj
theorem wfS_set (hS : wfS d) : wfS (dSet d w v) := by
  unfold dSet
  split
  · exact hS
  · rename_i hm
    have hm := Decidable.not_not.mp hm
    unfold mayB at hm
    unfold wfS at hS ⊢
    have hz : w.toInt = 0 ∨ w.toInt = 1 ∨ w.toInt = 2 ∨ w.toInt = 3 ∨ w.toInt = 4 ∨ w.toInt = 5 := by omega
    have hw : w.toNatClampNeg = w.toInt.toNat := rfl
    simp only [i_le, show (0 : Int32).toInt = 0 by decide, show (9999 : Int32).toInt = 9999 by decide, show (99 : Int32).toInt = 99 by decide, show (-50 : Int32).toInt = -50 by decide] at hS ⊢
    rcases hz with e | e | e | e | e | e
    · rw [show w.toNatClampNeg = 0 by omega, pk_us, pk_un (by omega), pk_un (by omega)]; omega
    · rw [show w.toNatClampNeg = 1 by omega, pk_us, pk_un (by omega), pk_un (by omega)]; omega
    · rw [show w.toNatClampNeg = 2 by omega, pk_us, pk_un (by omega), pk_un (by omega)]; omega
    · rw [show w.toNatClampNeg = 3 by omega, pk_un (by omega), pk_un (by omega), pk_un (by omega)]; omega
    · rw [show w.toNatClampNeg = 4 by omega, pk_un (by omega), pk_un (by omega), pk_un (by omega)]; omega
    · rw [show w.toNatClampNeg = 5 by omega, pk_un (by omega), pk_un (by omega), pk_un (by omega)]; omega
theorem wf_ticks (hOk : lnOk d) (hS : wfS d) (hC : wfC d) : lnOk (dTicks T tx d v) ∧ wfC (dTicks T tx d v) := by
  unfold dTicks
  split
  · exact ⟨hOk, hC⟩
  · split
    · exact ⟨hOk, hC⟩
    · exact ⟨gbyN_ok hOk _, (wf_gbyN hOk hS hC _).2⟩
theorem wf_gusts (hOk : lnOk d) (hS : wfS d) (hC : wfC d) : lnOk (dGusts T tx d v) ∧ wfC (dGusts T tx d v) := by
  unfold dGusts
  split
  · exact ⟨hOk, hC⟩
  · split
    · exact ⟨hOk, hC⟩
    · exact ⟨lnOk_upd (gsN_ok hOk _) (by omega), wfC_upd (wf_gsN hOk hS hC _).2 (by omega)⟩
theorem tell_15 (h : d 15 = nI nw) : dTell d nw v 15 = nI (if nw = 20 then nw else nw + 1) := by
  unfold dTell
  split
  · exact h
  · exact pk_us
theorem wfB_box (hn : nb ≤ 5) (h12 : d 12 = nI nb) (H : ∀ b, b < nb → -50 ≤ d (40 + 3 * b) ∧ d (40 + 3 * b) ≤ 99 ∧ 0 ≤ d (40 + 3 * b + 2) ∧ d (40 + 3 * b + 2) ≤ 99) : ∀ b, b < cN (dBox d nb c w s 12) → -50 ≤ dBox d nb c w s (40 + 3 * b) ∧ dBox d nb c w s (40 + 3 * b) ≤ 99 ∧ 0 ≤ dBox d nb c w s (40 + 3 * b + 2) ∧ dBox d nb c w s (40 + 3 * b + 2) ≤ 99 := by
  intro b hb
  unfold dBox at hb ⊢
  split
  · rename_i hq
    rw [if_pos hq, h12, show cN (nI nb) = nb from nI_clamp (by omega)] at hb
    exact H b hb
  · rename_i hq
    rw [if_neg hq] at hb
    have hq := Decidable.not_not.mp hq
    split
    · rename_i h5
      rw [if_pos h5, h12, show cN (nI nb) = nb from nI_clamp (by omega)] at hb
      exact H b hb
    · rename_i h5
      rw [if_neg h5, pk_us, show cN (nI (nb + 1)) = nb + 1 from nI_clamp (by omega)] at hb
      by_cases e : b = nb
      · subst e
        rw [pk_un (show 40 + 3 * b + 2 ≠ 12 by omega), pk_us, pk_un (show 40 + 3 * b ≠ 12 by omega), pk_un (show 40 + 3 * b ≠ 40 + 3 * b + 2 by omega), pk_un (show 40 + 3 * b ≠ 40 + 3 * b + 1 by omega), pk_us]
        simp only [i_le, show (0 : Int32).toInt = 0 by decide, show (99 : Int32).toInt = 99 by decide, show (-50 : Int32).toInt = -50 by decide]
        omega
      · rw [pk_un (by omega), pk_un (by omega), pk_un (by omega), pk_un (by omega), pk_un (by omega), pk_un (by omega), pk_un (by omega), pk_un (by omega)]
        exact H b (by omega)
theorem tnVoice_le (hk : ∀ c, c < nc → kd c ≤ 6) (h6 : nc ≤ 6) (hn : tn ≤ 40) : tnVoice kd nc tn c a ≤ 40 := by
  unfold tnVoice
  split
  · exact hn
  · rename_i hv
    have hv := Decidable.not_not.mp hv
    unfold voiP at hv
    have h1 : c.toNatClampNeg < nc := cN_lt hv.1 (by omega)
    have h2 := hk _ h1
    have h3 : kd c.toNatClampNeg = 0 ∨ kd c.toNatClampNeg = 1 ∨ kd c.toNatClampNeg = 2 ∨ kd c.toNatClampNeg = 3 ∨ kd c.toNatClampNeg = 4 ∨ kd c.toNatClampNeg = 5 ∨ kd c.toNatClampNeg = 6 := by omega
    unfold bVoice
    rcases h3 with e | e | e | e | e | e | e <;> rw [e] <;> (repeat' split) <;> decide
end WF
theorem k_seed {κ : Wc} {l : Launch} {o n : Nat} {d : Nat → Int32} {kp : Nat → Int32} {im : Int32} {fo : Nat → Int32} {tr : Nat → Int32} {tn : Nat} {bi : Nat → Int32} {ss : Nat → Nat} {nu : Nat → Int32} {v : Int32} {h : Mm} (H : CI κ o h d kp im fo tr tn bi ss nu) : Con κ l yX11_seed cX11_seed 3 (some .int) 1 0 0 [.ref o, .int v] h n (fun q h' n' => q = some (.int (d 13)) ∧ n ≤ n' ∧ CI κ o h' (upd d 13 v) kp im fo tr tn bi ss nu ∧ ∀ zq, o + 62 ≤ zq → zq < o + 76 → h' zq = h zq) := by
  obtain ⟨k0, HK, ⟨zkq, HQ, hkq⟩, HA, k33, HS, k42, HG, HR, ⟨zbt, k59⟩, k60, k61, htn⟩ := H
  have HK0 := HK
  have HA0 := HA
  have HR0 := HR
  obtain ⟨zcold, zwind, zcs, zts, ztp, zwt, zbx, m0, m1, m2, m3, m4, m5, m6, m7, m8, m9, m10, m11, m12, hCs, hCA, hTs, hTp, hWt, hBx, hwd⟩ := HK0
  have hwd0 := hwd
  obtain ⟨hln, h11, h12, h14, h15, h60, hkd, hS, hC, hbr⟩ := hwd0
  obtain ⟨zx1, zx2, zx3, zx4, zx5, zx6, zx7, zx8, zf1, zf2, zf3, zc1, zt1, a0, a1, a2, a3, a4, a5⟩ := HA0
  obtain ⟨zr1, zb1, zg1, zr2, zb2, zg2, n0, n1, n2, n3⟩ := HR0
  refine Con.imp (p_seed (κ := κ) (n := n) (o := o) (im := im) (d := d) (v := v) k0 m0 ) (fun q h' n' hp => ?_)
  obtain ⟨rfl, hn, fr, zr, w0⟩ := hp
  have off : ∀ q : Nat, q ≠ 13 → (upd d 13 v) q = d q := fun q hq => pk_un hq
  exact ⟨rfl, by omega, ⟨(fr o (by omega) (by omega)).trans k0, ⟨zcold, zwind, zcs, zts, ztp, zwt, zbx, w0, (by rw [lnO_c (off 1 (by omega)), off 0 (by omega), off 2 (by omega), off 3 (by omega), off 11 (by omega), off 10 (by omega)]; exact (fr (o + 2) (by omega) (by omega)).trans m1), (by rw [win_ext (fun j hj => off (100 + j) (by omega))]; exact (fr (o + 3) (by omega) (by omega)).trans m2), (by rw [win_ext (fun j hj => off (140 + j) (by omega))]; exact (fr (o + 4) (by omega) (by omega)).trans m3), (by rw [win_ext (fun j hj => off (4 + j) (by omega))]; exact (fr (o + 5) (by omega) (by omega)).trans m4), (fr (o + 6) (by omega) (by omega)).trans m5, (fr (o + 7) (by omega) (by omega)).trans m6, (by rw [off 14 (by omega)]; exact (fr (o + 8) (by omega) (by omega)).trans m7), (fr (o + 9) (by omega) (by omega)).trans m8, (by rw [off 15 (by omega)]; exact (fr (o + 10) (by omega) (by omega)).trans m9), (fr (o + 11) (by omega) (by omega)).trans m10, (by rw [off 12 (by omega)]; exact (fr (o + 12) (by omega) (by omega)).trans m11), (fr (o + 13) (by omega) (by omega)).trans m12, (by rw [off 11 (by omega)]; exact (CsO.mono zr hCs).row (fun q h1 h2 => off q (by omega)) h11.2), CsA.mono zr hCA, (TsO.mono zr hTs).row (fun u hu => ⟨congrArg cN (off (60 + u) (by omega)), fun j hj => (off (180 + 50 * u + j) (by have hj : j < cN (d (60 + u)) := hj; have := (h60 u hu).2; omega)).symm⟩), (fun j hj => by rw [off 14 (by omega)] at hj; exact (hTp j hj).trans (off (280 + j) (by omega)).symm), (fun j hj => by rw [off 15 (by omega)] at hj; exact (hWt j hj).trans (off (70 + j) (by omega)).symm), (fun j hj => by rw [off 12 (by omega)] at hj; exact (hBx j hj).trans (off (40 + j) (by omega)).symm), ⟨lnOk_c hln (off 1 (by omega)), (by rw [off 11 (by omega)]; exact h11), (by rw [off 12 (by omega)]; exact h12), (by rw [off 14 (by omega)]; exact h14), (by rw [off 15 (by omega)]; exact h15), (fun u hu => by rw [off (60 + u) (by omega)]; exact h60 u hu), (fun c hc => by rw [off 11 (by omega)] at hc; rw [off (20 + 2 * c) (by omega)]; exact hkd c hc), (by unfold wfS; rw [off 4 (by omega), off 5 (by omega), off 6 (by omega)]; exact hS), (fun c hc => by rw [off (100 + c) (by omega), off (140 + c) (by omega)]; exact hC c hc), (fun b hb => by rw [off 12 (by omega)] at hb; rw [off (40 + 3 * b) (by omega), off (40 + 3 * b + 2) (by omega)]; exact hbr b hb)⟩⟩, ⟨zkq, HQ.same (fun zq z1 z2 => fr zq (by omega) (by omega)) zr, hkq⟩, HA.same (fun zq z1 z2 => fr zq (by omega) (by omega)), (fr (o + 33) (by omega) (by omega)).trans k33, HS.same (fun zq z1 z2 => fr zq (by omega) (by omega)), (fr (o + 42) (by omega) (by omega)).trans k42, HG.same (fun zq z1 z2 => fr zq (by omega) (by omega)), HR.same (fun zq z1 z2 => fr zq (by omega) (by omega)), ⟨_, (fr (o + 59) (by omega) (by omega)).trans k59⟩, (fr (o + 60) (by omega) (by omega)).trans k60, (fr (o + 61) (by omega) (by omega)).trans k61, htn⟩, fun zq z1 z2 => fr zq (by omega) (by omega)⟩
theorem k_set {κ : Wc} {l : Launch} {o n : Nat} {d : Nat → Int32} {kp : Nat → Int32} {im : Int32} {fo : Nat → Int32} {tr : Nat → Int32} {tn : Nat} {bi : Nat → Int32} {ss : Nat → Nat} {nu : Nat → Int32} {w : Int32} {v : Int32} {h : Mm} (H : CI κ o h d kp im fo tr tn bi ss nu) : Con κ l yX11_set cX11_set 4 (some .int) 3 0 0 [.ref o, .int w, .int v] h n (fun q h' n' => q = some (.int (ansOf (opSet d w v))) ∧ n ≤ n' ∧ CI κ o h' (dSet d w v) kp im (bump (opSet d w v) fo) tr tn bi ss nu ∧ ∀ zq, o + 62 ≤ zq → zq < o + 76 → h' zq = h zq) := by
  obtain ⟨k0, HK, ⟨zkq, HQ, hkq⟩, HA, k33, HS, k42, HG, HR, ⟨zbt, k59⟩, k60, k61, htn⟩ := H
  have HK0 := HK
  have HA0 := HA
  have HR0 := HR
  obtain ⟨zcold, zwind, zcs, zts, ztp, zwt, zbx, m0, m1, m2, m3, m4, m5, m6, m7, m8, m9, m10, m11, m12, hCs, hCA, hTs, hTp, hWt, hBx, hwd⟩ := HK0
  have hwd0 := hwd
  obtain ⟨hln, h11, h12, h14, h15, h60, hkd, hS, hC, hbr⟩ := hwd0
  obtain ⟨zx1, zx2, zx3, zx4, zx5, zx6, zx7, zx8, zf1, zf2, zf3, zc1, zt1, a0, a1, a2, a3, a4, a5⟩ := HA0
  obtain ⟨zr1, zb1, zg1, zr2, zb2, zg2, n0, n1, n2, n3⟩ := HR0
  refine Con.imp (p_set (κ := κ) (n := n) (o := o) (im := im) (d := d) (len := lnO d) (nc := cN (d 11)) (cold := zcold) (wind := zwind) (fo := fo) (w := w) (v := v) k0 m0 m1 m4 k61 ) (fun q h' n' hp => ?_)
  obtain ⟨rfl, hn, fr, zr, w0, w1⟩ := hp
  have off : ∀ q : Nat, q < 4 ∨ 10 ≤ q → (dSet d w v) q = d q := fun q hq => off_set hq
  exact ⟨rfl, by omega, ⟨(fr o (by omega) (by omega) (by omega)).trans k0, ⟨zcold, zwind, zcs, zts, ztp, zwt, zbx, (by rw [off 13 (by omega)]; exact (fr (o + 1) (by omega) (by omega) (by omega)).trans m0), (by rw [lnO_c (off 1 (by omega)), off 0 (by omega), off 2 (by omega), off 3 (by omega), off 11 (by omega), off 10 (by omega)]; exact (fr (o + 2) (by omega) (by omega) (by omega)).trans m1), (by rw [win_ext (fun j hj => off (100 + j) (by omega))]; exact (fr (o + 3) (by omega) (by omega) (by omega)).trans m2), (by rw [win_ext (fun j hj => off (140 + j) (by omega))]; exact (fr (o + 4) (by omega) (by omega) (by omega)).trans m3), w0, (fr (o + 6) (by omega) (by omega) (by omega)).trans m5, (fr (o + 7) (by omega) (by omega) (by omega)).trans m6, (by rw [off 14 (by omega)]; exact (fr (o + 8) (by omega) (by omega) (by omega)).trans m7), (fr (o + 9) (by omega) (by omega) (by omega)).trans m8, (by rw [off 15 (by omega)]; exact (fr (o + 10) (by omega) (by omega) (by omega)).trans m9), (fr (o + 11) (by omega) (by omega) (by omega)).trans m10, (by rw [off 12 (by omega)]; exact (fr (o + 12) (by omega) (by omega) (by omega)).trans m11), (fr (o + 13) (by omega) (by omega) (by omega)).trans m12, (by rw [off 11 (by omega)]; exact (CsO.mono zr hCs).row (fun q h1 h2 => off q (by omega)) h11.2), CsA.mono zr hCA, (TsO.mono zr hTs).row (fun u hu => ⟨congrArg cN (off (60 + u) (by omega)), fun j hj => (off (180 + 50 * u + j) (by have hj : j < cN (d (60 + u)) := hj; have := (h60 u hu).2; omega)).symm⟩), (fun j hj => by rw [off 14 (by omega)] at hj; exact (hTp j hj).trans (off (280 + j) (by omega)).symm), (fun j hj => by rw [off 15 (by omega)] at hj; exact (hWt j hj).trans (off (70 + j) (by omega)).symm), (fun j hj => by rw [off 12 (by omega)] at hj; exact (hBx j hj).trans (off (40 + j) (by omega)).symm), ⟨lnOk_c hln (off 1 (by omega)), (by rw [off 11 (by omega)]; exact h11), (by rw [off 12 (by omega)]; exact h12), (by rw [off 14 (by omega)]; exact h14), (by rw [off 15 (by omega)]; exact h15), (fun u hu => by rw [off (60 + u) (by omega)]; exact h60 u hu), (fun c hc => by rw [off 11 (by omega)] at hc; rw [off (20 + 2 * c) (by omega)]; exact hkd c hc), wfS_set hS, (fun c hc => by rw [off (100 + c) (by omega), off (140 + c) (by omega)]; exact hC c hc), (fun b hb => by rw [off 12 (by omega)] at hb; rw [off (40 + 3 * b) (by omega), off (40 + 3 * b + 2) (by omega)]; exact hbr b hb)⟩⟩, ⟨zkq, HQ.same (fun zq z1 z2 => fr zq (by omega) (by omega) (by omega)) zr, hkq⟩, HA.same (fun zq z1 z2 => fr zq (by omega) (by omega) (by omega)), (fr (o + 33) (by omega) (by omega) (by omega)).trans k33, HS.same (fun zq z1 z2 => fr zq (by omega) (by omega) (by omega)), (fr (o + 42) (by omega) (by omega) (by omega)).trans k42, HG.same (fun zq z1 z2 => fr zq (by omega) (by omega) (by omega)), HR.same (fun zq z1 z2 => fr zq (by omega) (by omega) (by omega)), ⟨_, (fr (o + 59) (by omega) (by omega) (by omega)).trans k59⟩, (fr (o + 60) (by omega) (by omega) (by omega)).trans k60, w1, htn⟩, fun zq z1 z2 => fr zq (by omega) (by omega) (by omega)⟩
theorem k_shape {κ : Wc} {l : Launch} {o n : Nat} {d : Nat → Int32} {kp : Nat → Int32} {im : Int32} {fo : Nat → Int32} {tr : Nat → Int32} {tn : Nat} {bi : Nat → Int32} {ss : Nat → Nat} {nu : Nat → Int32} {c : Int32} {w : Int32} {v : Int32} {h : Mm} (H : CI κ o h d kp im fo tr tn bi ss nu) : Con κ l yX11_shape cX11_shape 7 (some .int) 4 0 0 [.ref o, .int c, .int w, .int v] h n (fun q h' n' => q = some (.int (ansOf (opShape d (lnO d) c w v))) ∧ n ≤ n' ∧ CI κ o h' (dShape d (lnO d) c w v) kp im (bump (opShape d (lnO d) c w v) fo) tr tn bi ss nu ∧ ∀ zq, o + 62 ≤ zq → zq < o + 76 → h' zq = h zq) := by
  obtain ⟨k0, HK, ⟨zkq, HQ, hkq⟩, HA, k33, HS, k42, HG, HR, ⟨zbt, k59⟩, k60, k61, htn⟩ := H
  have HK0 := HK
  have HA0 := HA
  have HR0 := HR
  obtain ⟨zcold, zwind, zcs, zts, ztp, zwt, zbx, m0, m1, m2, m3, m4, m5, m6, m7, m8, m9, m10, m11, m12, hCs, hCA, hTs, hTp, hWt, hBx, hwd⟩ := HK0
  have hwd0 := hwd
  obtain ⟨hln, h11, h12, h14, h15, h60, hkd, hS, hC, hbr⟩ := hwd0
  obtain ⟨zx1, zx2, zx3, zx4, zx5, zx6, zx7, zx8, zf1, zf2, zf3, zc1, zt1, a0, a1, a2, a3, a4, a5⟩ := HA0
  obtain ⟨zr1, zb1, zg1, zr2, zb2, zg2, n0, n1, n2, n3⟩ := HR0
  refine Con.imp (p_shape (κ := κ) (n := n) (o := o) (im := im) (d := d) (len := lnO d) (nc := cN (d 11)) (cold := zcold) (wind := zwind) (fo := fo) (c := c) (w := w) (v := v) k0 m0 m1 m2 m3 k61 (hln.1) (hln.2.1) (hln.2.2)) (fun q h' n' hp => ?_)
  obtain ⟨rfl, hn, fr, zr, w0, w1, w2⟩ := hp
  have off : ∀ q : Nat, q < 100 ∨ 180 ≤ q → (dShape d (lnO d) c w v) q = d q := fun q hq => off_shape hln.2.2 hq
  exact ⟨rfl, by omega, ⟨(fr o (by omega) (by omega) (by omega) (by omega)).trans k0, ⟨zcold, zwind, zcs, zts, ztp, zwt, zbx, (by rw [off 13 (by omega)]; exact (fr (o + 1) (by omega) (by omega) (by omega) (by omega)).trans m0), (by rw [lnO_c (off 1 (by omega)), off 0 (by omega), off 2 (by omega), off 3 (by omega), off 11 (by omega), off 10 (by omega)]; exact (fr (o + 2) (by omega) (by omega) (by omega) (by omega)).trans m1), w0, w1, (by rw [win_ext (fun j hj => off (4 + j) (by omega))]; exact (fr (o + 5) (by omega) (by omega) (by omega) (by omega)).trans m4), (fr (o + 6) (by omega) (by omega) (by omega) (by omega)).trans m5, (fr (o + 7) (by omega) (by omega) (by omega) (by omega)).trans m6, (by rw [off 14 (by omega)]; exact (fr (o + 8) (by omega) (by omega) (by omega) (by omega)).trans m7), (fr (o + 9) (by omega) (by omega) (by omega) (by omega)).trans m8, (by rw [off 15 (by omega)]; exact (fr (o + 10) (by omega) (by omega) (by omega) (by omega)).trans m9), (fr (o + 11) (by omega) (by omega) (by omega) (by omega)).trans m10, (by rw [off 12 (by omega)]; exact (fr (o + 12) (by omega) (by omega) (by omega) (by omega)).trans m11), (fr (o + 13) (by omega) (by omega) (by omega) (by omega)).trans m12, (by rw [off 11 (by omega)]; exact (CsO.mono zr hCs).row (fun q h1 h2 => off q (by omega)) h11.2), CsA.mono zr hCA, (TsO.mono zr hTs).row (fun u hu => ⟨congrArg cN (off (60 + u) (by omega)), fun j hj => (off (180 + 50 * u + j) (by have hj : j < cN (d (60 + u)) := hj; have := (h60 u hu).2; omega)).symm⟩), (fun j hj => by rw [off 14 (by omega)] at hj; exact (hTp j hj).trans (off (280 + j) (by omega)).symm), (fun j hj => by rw [off 15 (by omega)] at hj; exact (hWt j hj).trans (off (70 + j) (by omega)).symm), (fun j hj => by rw [off 12 (by omega)] at hj; exact (hBx j hj).trans (off (40 + j) (by omega)).symm), ⟨lnOk_c hln (off 1 (by omega)), (by rw [off 11 (by omega)]; exact h11), (by rw [off 12 (by omega)]; exact h12), (by rw [off 14 (by omega)]; exact h14), (by rw [off 15 (by omega)]; exact h15), (fun u hu => by rw [off (60 + u) (by omega)]; exact h60 u hu), (fun c hc => by rw [off 11 (by omega)] at hc; rw [off (20 + 2 * c) (by omega)]; exact hkd c hc), (by unfold wfS; rw [off 4 (by omega), off 5 (by omega), off 6 (by omega)]; exact hS), wfC_shape hC hln.2.2, (fun b hb => by rw [off 12 (by omega)] at hb; rw [off (40 + 3 * b) (by omega), off (40 + 3 * b + 2) (by omega)]; exact hbr b hb)⟩⟩, ⟨zkq, HQ.same (fun zq z1 z2 => fr zq (by omega) (by omega) (by omega) (by omega)) zr, hkq⟩, HA.same (fun zq z1 z2 => fr zq (by omega) (by omega) (by omega) (by omega)), (fr (o + 33) (by omega) (by omega) (by omega) (by omega)).trans k33, HS.same (fun zq z1 z2 => fr zq (by omega) (by omega) (by omega) (by omega)), (fr (o + 42) (by omega) (by omega) (by omega) (by omega)).trans k42, HG.same (fun zq z1 z2 => fr zq (by omega) (by omega) (by omega) (by omega)), HR.same (fun zq z1 z2 => fr zq (by omega) (by omega) (by omega) (by omega)), ⟨_, (fr (o + 59) (by omega) (by omega) (by omega) (by omega)).trans k59⟩, (fr (o + 60) (by omega) (by omega) (by omega) (by omega)).trans k60, w2, htn⟩, fun zq z1 z2 => fr zq (by omega) (by omega) (by omega) (by omega)⟩
theorem k_turn {κ : Wc} {l : Launch} {o n : Nat} {d : Nat → Int32} {kp : Nat → Int32} {im : Int32} {fo : Nat → Int32} {tr : Nat → Int32} {tn : Nat} {bi : Nat → Int32} {ss : Nat → Nat} {nu : Nat → Int32} {c : Int32} {w : Int32} {h : Mm} (H : CI κ o h d kp im fo tr tn bi ss nu) : Con κ l yX11_turn cX11_turn 5 (some .int) 4 0 0 [.ref o, .int c, .int w] h n (fun q h' n' => q = some (.int (ansOf (opTurn d (cN (d 11)) c w))) ∧ n ≤ n' ∧ CI κ o h' (dTurn d (cN (d 11)) c w) kp im (bump (opTurn d (cN (d 11)) c w) fo) tr tn bi ss nu ∧ ∀ zq, o + 62 ≤ zq → zq < o + 76 → h' zq = h zq) := by
  obtain ⟨k0, HK, ⟨zkq, HQ, hkq⟩, HA, k33, HS, k42, HG, HR, ⟨zbt, k59⟩, k60, k61, htn⟩ := H
  have HK0 := HK
  have HA0 := HA
  have HR0 := HR
  obtain ⟨zcold, zwind, zcs, zts, ztp, zwt, zbx, m0, m1, m2, m3, m4, m5, m6, m7, m8, m9, m10, m11, m12, hCs, hCA, hTs, hTp, hWt, hBx, hwd⟩ := HK0
  have hwd0 := hwd
  obtain ⟨hln, h11, h12, h14, h15, h60, hkd, hS, hC, hbr⟩ := hwd0
  obtain ⟨zx1, zx2, zx3, zx4, zx5, zx6, zx7, zx8, zf1, zf2, zf3, zc1, zt1, a0, a1, a2, a3, a4, a5⟩ := HA0
  obtain ⟨zr1, zb1, zg1, zr2, zb2, zg2, n0, n1, n2, n3⟩ := HR0
  refine Con.imp (p_turn (κ := κ) (n := n) (o := o) (im := im) (d := d) (len := lnO d) (nc := cN (d 11)) (cold := zcold) (wind := zwind) (cs := zcs) (fo := fo) (c := c) (w := w) k0 m0 m1 m5 k61 (h11.1) (h11.2) (hCs)) (fun q h' n' hp => ?_)
  obtain ⟨rfl, hn, fr, zr, w0, w1⟩ := hp
  have off : ∀ q : Nat, q ≠ 10 → (dTurn d (cN (d 11)) c w) q = d q := fun q hq => off_turn hq
  exact ⟨rfl, by omega, ⟨(fr o (by omega) (by omega) (by omega)).trans k0, ⟨zcold, zwind, zcs, zts, ztp, zwt, zbx, (by rw [off 13 (by omega)]; exact (fr (o + 1) (by omega) (by omega) (by omega)).trans m0), (by rw [lnO_c (off 1 (by omega)), off 0 (by omega), off 2 (by omega), off 3 (by omega), off 11 (by omega)]; exact w0), (by rw [win_ext (fun j hj => off (100 + j) (by omega))]; exact (fr (o + 3) (by omega) (by omega) (by omega)).trans m2), (by rw [win_ext (fun j hj => off (140 + j) (by omega))]; exact (fr (o + 4) (by omega) (by omega) (by omega)).trans m3), (by rw [win_ext (fun j hj => off (4 + j) (by omega))]; exact (fr (o + 5) (by omega) (by omega) (by omega)).trans m4), (fr (o + 6) (by omega) (by omega) (by omega)).trans m5, (fr (o + 7) (by omega) (by omega) (by omega)).trans m6, (by rw [off 14 (by omega)]; exact (fr (o + 8) (by omega) (by omega) (by omega)).trans m7), (fr (o + 9) (by omega) (by omega) (by omega)).trans m8, (by rw [off 15 (by omega)]; exact (fr (o + 10) (by omega) (by omega) (by omega)).trans m9), (fr (o + 11) (by omega) (by omega) (by omega)).trans m10, (by rw [off 12 (by omega)]; exact (fr (o + 12) (by omega) (by omega) (by omega)).trans m11), (fr (o + 13) (by omega) (by omega) (by omega)).trans m12, (by rw [off 11 (by omega)]; exact (CsO.mono zr hCs).row (fun q h1 h2 => off q (by omega)) h11.2), CsA.mono zr hCA, (TsO.mono zr hTs).row (fun u hu => ⟨congrArg cN (off (60 + u) (by omega)), fun j hj => (off (180 + 50 * u + j) (by have hj : j < cN (d (60 + u)) := hj; have := (h60 u hu).2; omega)).symm⟩), (fun j hj => by rw [off 14 (by omega)] at hj; exact (hTp j hj).trans (off (280 + j) (by omega)).symm), (fun j hj => by rw [off 15 (by omega)] at hj; exact (hWt j hj).trans (off (70 + j) (by omega)).symm), (fun j hj => by rw [off 12 (by omega)] at hj; exact (hBx j hj).trans (off (40 + j) (by omega)).symm), ⟨lnOk_c hln (off 1 (by omega)), (by rw [off 11 (by omega)]; exact h11), (by rw [off 12 (by omega)]; exact h12), (by rw [off 14 (by omega)]; exact h14), (by rw [off 15 (by omega)]; exact h15), (fun u hu => by rw [off (60 + u) (by omega)]; exact h60 u hu), (fun c hc => by rw [off 11 (by omega)] at hc; rw [off (20 + 2 * c) (by omega)]; exact hkd c hc), (by unfold wfS; rw [off 4 (by omega), off 5 (by omega), off 6 (by omega)]; exact hS), (fun c hc => by rw [off (100 + c) (by omega), off (140 + c) (by omega)]; exact hC c hc), (fun b hb => by rw [off 12 (by omega)] at hb; rw [off (40 + 3 * b) (by omega), off (40 + 3 * b + 2) (by omega)]; exact hbr b hb)⟩⟩, ⟨zkq, HQ.same (fun zq z1 z2 => fr zq (by omega) (by omega) (by omega)) zr, hkq⟩, HA.same (fun zq z1 z2 => fr zq (by omega) (by omega) (by omega)), (fr (o + 33) (by omega) (by omega) (by omega)).trans k33, HS.same (fun zq z1 z2 => fr zq (by omega) (by omega) (by omega)), (fr (o + 42) (by omega) (by omega) (by omega)).trans k42, HG.same (fun zq z1 z2 => fr zq (by omega) (by omega) (by omega)), HR.same (fun zq z1 z2 => fr zq (by omega) (by omega) (by omega)), ⟨_, (fr (o + 59) (by omega) (by omega) (by omega)).trans k59⟩, (fr (o + 60) (by omega) (by omega) (by omega)).trans k60, w1, htn⟩, fun zq z1 z2 => fr zq (by omega) (by omega) (by omega)⟩
theorem k_cells {κ : Wc} {l : Launch} {o n : Nat} {d : Nat → Int32} {kp : Nat → Int32} {im : Int32} {fo : Nat → Int32} {tr : Nat → Int32} {tn : Nat} {bi : Nat → Int32} {ss : Nat → Nat} {nu : Nat → Int32} {s : Int32} {h : Mm} (H : CI κ o h d kp im fo tr tn bi ss nu) : Con κ l yX11_cells cX11_cells 6 (some .int) 4 0 0 [.ref o, .int s] h n (fun q h' n' => q = some (.int (ansOf (opCells bi nu ss (lnO d) s))) ∧ n ≤ n' ∧ CI κ o h' (dCells d bi nu ss (lnO d) s) kp im (bump (opCells bi nu ss (lnO d) s) fo) tr tn bi ss nu ∧ ∀ zq, o + 62 ≤ zq → zq < o + 76 → h' zq = h zq) := by
  obtain ⟨k0, HK, ⟨zkq, HQ, hkq⟩, HA, k33, HS, k42, HG, HR, ⟨zbt, k59⟩, k60, k61, htn⟩ := H
  have HK0 := HK
  have HA0 := HA
  have HR0 := HR
  obtain ⟨zcold, zwind, zcs, zts, ztp, zwt, zbx, m0, m1, m2, m3, m4, m5, m6, m7, m8, m9, m10, m11, m12, hCs, hCA, hTs, hTp, hWt, hBx, hwd⟩ := HK0
  have hwd0 := hwd
  obtain ⟨hln, h11, h12, h14, h15, h60, hkd, hS, hC, hbr⟩ := hwd0
  obtain ⟨zx1, zx2, zx3, zx4, zx5, zx6, zx7, zx8, zf1, zf2, zf3, zc1, zt1, a0, a1, a2, a3, a4, a5⟩ := HA0
  obtain ⟨zr1, zb1, zg1, zr2, zb2, zg2, n0, n1, n2, n3⟩ := HR0
  refine Con.imp (p_cells (κ := κ) (n := n) (o := o) (im := im) (d := d) (len := lnO d) (nc := cN (d 11)) (cold := zcold) (wind := zwind) (fo := fo) (s := s) (bi := bi) (ss := ss) (nu := nu) k0 m0 m1 m2 k33 k61 (hln.1) (hln.2.1) (hln.2.2) (HS)) (fun q h' n' hp => ?_)
  obtain ⟨rfl, hn, fr, zr, w0, w1⟩ := hp
  have off : ∀ q : Nat, q < 100 ∨ 140 ≤ q → (dCells d bi nu ss (lnO d) s) q = d q := fun q hq => off_cells hln.2.2 hq
  exact ⟨rfl, by omega, ⟨(fr o (by omega) (by omega) (by omega)).trans k0, ⟨zcold, zwind, zcs, zts, ztp, zwt, zbx, (by rw [off 13 (by omega)]; exact (fr (o + 1) (by omega) (by omega) (by omega)).trans m0), (by rw [lnO_c (off 1 (by omega)), off 0 (by omega), off 2 (by omega), off 3 (by omega), off 11 (by omega), off 10 (by omega)]; exact (fr (o + 2) (by omega) (by omega) (by omega)).trans m1), w0, (by rw [win_ext (fun j hj => off (140 + j) (by omega))]; exact (fr (o + 4) (by omega) (by omega) (by omega)).trans m3), (by rw [win_ext (fun j hj => off (4 + j) (by omega))]; exact (fr (o + 5) (by omega) (by omega) (by omega)).trans m4), (fr (o + 6) (by omega) (by omega) (by omega)).trans m5, (fr (o + 7) (by omega) (by omega) (by omega)).trans m6, (by rw [off 14 (by omega)]; exact (fr (o + 8) (by omega) (by omega) (by omega)).trans m7), (fr (o + 9) (by omega) (by omega) (by omega)).trans m8, (by rw [off 15 (by omega)]; exact (fr (o + 10) (by omega) (by omega) (by omega)).trans m9), (fr (o + 11) (by omega) (by omega) (by omega)).trans m10, (by rw [off 12 (by omega)]; exact (fr (o + 12) (by omega) (by omega) (by omega)).trans m11), (fr (o + 13) (by omega) (by omega) (by omega)).trans m12, (by rw [off 11 (by omega)]; exact (CsO.mono zr hCs).row (fun q h1 h2 => off q (by omega)) h11.2), CsA.mono zr hCA, (TsO.mono zr hTs).row (fun u hu => ⟨congrArg cN (off (60 + u) (by omega)), fun j hj => (off (180 + 50 * u + j) (by have hj : j < cN (d (60 + u)) := hj; have := (h60 u hu).2; omega)).symm⟩), (fun j hj => by rw [off 14 (by omega)] at hj; exact (hTp j hj).trans (off (280 + j) (by omega)).symm), (fun j hj => by rw [off 15 (by omega)] at hj; exact (hWt j hj).trans (off (70 + j) (by omega)).symm), (fun j hj => by rw [off 12 (by omega)] at hj; exact (hBx j hj).trans (off (40 + j) (by omega)).symm), ⟨lnOk_c hln (off 1 (by omega)), (by rw [off 11 (by omega)]; exact h11), (by rw [off 12 (by omega)]; exact h12), (by rw [off 14 (by omega)]; exact h14), (by rw [off 15 (by omega)]; exact h15), (fun u hu => by rw [off (60 + u) (by omega)]; exact h60 u hu), (fun c hc => by rw [off 11 (by omega)] at hc; rw [off (20 + 2 * c) (by omega)]; exact hkd c hc), (by unfold wfS; rw [off 4 (by omega), off 5 (by omega), off 6 (by omega)]; exact hS), wfC_cells hC hln.2.2, (fun b hb => by rw [off 12 (by omega)] at hb; rw [off (40 + 3 * b) (by omega), off (40 + 3 * b + 2) (by omega)]; exact hbr b hb)⟩⟩, ⟨zkq, HQ.same (fun zq z1 z2 => fr zq (by omega) (by omega) (by omega)) zr, hkq⟩, HA.same (fun zq z1 z2 => fr zq (by omega) (by omega) (by omega)), (fr (o + 33) (by omega) (by omega) (by omega)).trans k33, HS.same (fun zq z1 z2 => fr zq (by omega) (by omega) (by omega)), (fr (o + 42) (by omega) (by omega) (by omega)).trans k42, HG.same (fun zq z1 z2 => fr zq (by omega) (by omega) (by omega)), HR.same (fun zq z1 z2 => fr zq (by omega) (by omega) (by omega)), ⟨_, (fr (o + 59) (by omega) (by omega) (by omega)).trans k59⟩, (fr (o + 60) (by omega) (by omega) (by omega)).trans k60, w1, htn⟩, fun zq z1 z2 => fr zq (by omega) (by omega) (by omega)⟩
theorem k_tell {κ : Wc} {l : Launch} {o n : Nat} {d : Nat → Int32} {kp : Nat → Int32} {im : Int32} {fo : Nat → Int32} {tr : Nat → Int32} {tn : Nat} {bi : Nat → Int32} {ss : Nat → Nat} {nu : Nat → Int32} {v : Int32} {h : Mm} (H : CI κ o h d kp im fo tr tn bi ss nu) : Con κ l yX11_tell cX11_tell 2 (some .int) 3 0 0 [.ref o, .int v] h n (fun q h' n' => q = some (.int (ansOf (opTell (cN (d 15))))) ∧ n ≤ n' ∧ CI κ o h' (dTell d (cN (d 15)) v) kp im (bump (opTell (cN (d 15))) fo) tr tn bi ss nu ∧ ∀ zq, o + 62 ≤ zq → zq < o + 76 → h' zq = h zq) := by
  obtain ⟨k0, HK, ⟨zkq, HQ, hkq⟩, HA, k33, HS, k42, HG, HR, ⟨zbt, k59⟩, k60, k61, htn⟩ := H
  have HK0 := HK
  have HA0 := HA
  have HR0 := HR
  obtain ⟨zcold, zwind, zcs, zts, ztp, zwt, zbx, m0, m1, m2, m3, m4, m5, m6, m7, m8, m9, m10, m11, m12, hCs, hCA, hTs, hTp, hWt, hBx, hwd⟩ := HK0
  have hwd0 := hwd
  obtain ⟨hln, h11, h12, h14, h15, h60, hkd, hS, hC, hbr⟩ := hwd0
  obtain ⟨zx1, zx2, zx3, zx4, zx5, zx6, zx7, zx8, zf1, zf2, zf3, zc1, zt1, a0, a1, a2, a3, a4, a5⟩ := HA0
  obtain ⟨zr1, zb1, zg1, zr2, zb2, zg2, n0, n1, n2, n3⟩ := HR0
  refine Con.imp (p_tell (κ := κ) (n := n) (o := o) (im := im) (d := d) (nw := cN (d 15)) (wt := zwt) (fo := fo) (v := v) k0 m0 m9 m10 k61 (h15.1) (h15.2) (hWt)) (fun q h' n' hp => ?_)
  obtain ⟨wt_, rfl, hn, fr, zr, w0, w1, w2, ft0⟩ := hp
  have off : ∀ q : Nat, q ≠ 15 ∧ (q < 70 ∨ 90 ≤ q) → (dTell d (cN (d 15)) v) q = d q := fun q hq => off_tell h15.2 hq
  have e15 := tell_15 (v := v) h15.1
  have hle : (if cN (d 15) = 20 then cN (d 15) else cN (d 15) + 1) ≤ 20 := by split <;> omega
  have hcb : cN ((dTell d (cN (d 15)) v) 15) = (if cN (d 15) = 20 then cN (d 15) else cN (d 15) + 1) := by rw [e15]; exact nI_clamp (by omega)
  exact ⟨rfl, by omega, ⟨(fr o (by omega) (by omega) (by omega) (by omega)).trans k0, ⟨zcold, zwind, zcs, zts, ztp, wt_, zbx, (by rw [off 13 (by omega)]; exact (fr (o + 1) (by omega) (by omega) (by omega) (by omega)).trans m0), (by rw [lnO_c (off 1 (by omega)), off 0 (by omega), off 2 (by omega), off 3 (by omega), off 11 (by omega), off 10 (by omega)]; exact (fr (o + 2) (by omega) (by omega) (by omega) (by omega)).trans m1), (by rw [win_ext (fun j hj => off (100 + j) (by omega))]; exact (fr (o + 3) (by omega) (by omega) (by omega) (by omega)).trans m2), (by rw [win_ext (fun j hj => off (140 + j) (by omega))]; exact (fr (o + 4) (by omega) (by omega) (by omega) (by omega)).trans m3), (by rw [win_ext (fun j hj => off (4 + j) (by omega))]; exact (fr (o + 5) (by omega) (by omega) (by omega) (by omega)).trans m4), (fr (o + 6) (by omega) (by omega) (by omega) (by omega)).trans m5, (fr (o + 7) (by omega) (by omega) (by omega) (by omega)).trans m6, (by rw [off 14 (by omega)]; exact (fr (o + 8) (by omega) (by omega) (by omega) (by omega)).trans m7), (fr (o + 9) (by omega) (by omega) (by omega) (by omega)).trans m8, (by rw [hcb, ← e15]; exact w0), w1, (by rw [off 12 (by omega)]; exact (fr (o + 12) (by omega) (by omega) (by omega) (by omega)).trans m11), (fr (o + 13) (by omega) (by omega) (by omega) (by omega)).trans m12, (by rw [off 11 (by omega)]; exact (CsO.mono zr hCs).row (fun q h1 h2 => off q (by omega)) h11.2), CsA.mono zr hCA, (TsO.mono zr hTs).row (fun u hu => ⟨congrArg cN (off (60 + u) (by omega)), fun j hj => (off (180 + 50 * u + j) (by have hj : j < cN (d (60 + u)) := hj; have := (h60 u hu).2; omega)).symm⟩), (fun j hj => by rw [off 14 (by omega)] at hj; exact (hTp j hj).trans (off (280 + j) (by omega)).symm), (fun j hj => ft0 j (by rw [hcb] at hj; exact hj)), (fun j hj => by rw [off 12 (by omega)] at hj; exact (hBx j hj).trans (off (40 + j) (by omega)).symm), ⟨lnOk_c hln (off 1 (by omega)), (by rw [off 11 (by omega)]; exact h11), (by rw [off 12 (by omega)]; exact h12), (by rw [off 14 (by omega)]; exact h14), (by rw [hcb]; exact ⟨e15, hle⟩), (fun u hu => by rw [off (60 + u) (by omega)]; exact h60 u hu), (fun c hc => by rw [off 11 (by omega)] at hc; rw [off (20 + 2 * c) (by omega)]; exact hkd c hc), (by unfold wfS; rw [off 4 (by omega), off 5 (by omega), off 6 (by omega)]; exact hS), (fun c hc => by rw [off (100 + c) (by omega), off (140 + c) (by omega)]; exact hC c hc), (fun b hb => by rw [off 12 (by omega)] at hb; rw [off (40 + 3 * b) (by omega), off (40 + 3 * b + 2) (by omega)]; exact hbr b hb)⟩⟩, ⟨zkq, HQ.same (fun zq z1 z2 => fr zq (by omega) (by omega) (by omega) (by omega)) zr, hkq⟩, HA.same (fun zq z1 z2 => fr zq (by omega) (by omega) (by omega) (by omega)), (fr (o + 33) (by omega) (by omega) (by omega) (by omega)).trans k33, HS.same (fun zq z1 z2 => fr zq (by omega) (by omega) (by omega) (by omega)), (fr (o + 42) (by omega) (by omega) (by omega) (by omega)).trans k42, HG.same (fun zq z1 z2 => fr zq (by omega) (by omega) (by omega) (by omega)), HR.same (fun zq z1 z2 => fr zq (by omega) (by omega) (by omega) (by omega)), ⟨_, (fr (o + 59) (by omega) (by omega) (by omega) (by omega)).trans k59⟩, (fr (o + 60) (by omega) (by omega) (by omega) (by omega)).trans k60, w2, htn⟩, fun zq z1 z2 => fr zq (by omega) (by omega) (by omega) (by omega)⟩
theorem k_box {κ : Wc} {l : Launch} {o n : Nat} {d : Nat → Int32} {kp : Nat → Int32} {im : Int32} {fo : Nat → Int32} {tr : Nat → Int32} {tn : Nat} {bi : Nat → Int32} {ss : Nat → Nat} {nu : Nat → Int32} {c : Int32} {w : Int32} {s : Int32} {h : Mm} (H : CI κ o h d kp im fo tr tn bi ss nu) : Con κ l yX11_box cX11_box 5 (some .int) 4 0 0 [.ref o, .int c, .int w, .int s] h n (fun q h' n' => q = some (.int (ansOf (opBox (cN (d 12)) c w s))) ∧ n ≤ n' ∧ CI κ o h' (dBox d (cN (d 12)) c w s) kp im (bump (opBox (cN (d 12)) c w s) fo) tr tn bi ss nu ∧ ∀ zq, o + 62 ≤ zq → zq < o + 76 → h' zq = h zq) := by
  obtain ⟨k0, HK, ⟨zkq, HQ, hkq⟩, HA, k33, HS, k42, HG, HR, ⟨zbt, k59⟩, k60, k61, htn⟩ := H
  have HK0 := HK
  have HA0 := HA
  have HR0 := HR
  obtain ⟨zcold, zwind, zcs, zts, ztp, zwt, zbx, m0, m1, m2, m3, m4, m5, m6, m7, m8, m9, m10, m11, m12, hCs, hCA, hTs, hTp, hWt, hBx, hwd⟩ := HK0
  have hwd0 := hwd
  obtain ⟨hln, h11, h12, h14, h15, h60, hkd, hS, hC, hbr⟩ := hwd0
  obtain ⟨zx1, zx2, zx3, zx4, zx5, zx6, zx7, zx8, zf1, zf2, zf3, zc1, zt1, a0, a1, a2, a3, a4, a5⟩ := HA0
  obtain ⟨zr1, zb1, zg1, zr2, zb2, zg2, n0, n1, n2, n3⟩ := HR0
  refine Con.imp (p_box (κ := κ) (n := n) (o := o) (im := im) (d := d) (nb := cN (d 12)) (bx := zbx) (fo := fo) (c := c) (w := w) (s := s) k0 m0 m11 m12 k61 (h12.1) (h12.2) (hBx)) (fun q h' n' hp => ?_)
  obtain ⟨nb2_, bx_, rfl, hn, fr, zr, w0, w1, w2, ft0⟩ := hp
  have off : ∀ q : Nat, q ≠ 12 ∧ (q < 40 ∨ 55 ≤ q) → (dBox d (cN (d 12)) c w s) q = d q := fun q hq => off_box h12.2 hq
  obtain ⟨g1, g2, g3⟩ := ft0
  have hcb : cN ((dBox d (cN (d 12)) c w s) 12) = nb2_ := by rw [g1]; exact nI_clamp (by omega)
  exact ⟨rfl, by omega, ⟨(fr o (by omega) (by omega) (by omega) (by omega)).trans k0, ⟨zcold, zwind, zcs, zts, ztp, zwt, bx_, (by rw [off 13 (by omega)]; exact (fr (o + 1) (by omega) (by omega) (by omega) (by omega)).trans m0), (by rw [lnO_c (off 1 (by omega)), off 0 (by omega), off 2 (by omega), off 3 (by omega), off 11 (by omega), off 10 (by omega)]; exact (fr (o + 2) (by omega) (by omega) (by omega) (by omega)).trans m1), (by rw [win_ext (fun j hj => off (100 + j) (by omega))]; exact (fr (o + 3) (by omega) (by omega) (by omega) (by omega)).trans m2), (by rw [win_ext (fun j hj => off (140 + j) (by omega))]; exact (fr (o + 4) (by omega) (by omega) (by omega) (by omega)).trans m3), (by rw [win_ext (fun j hj => off (4 + j) (by omega))]; exact (fr (o + 5) (by omega) (by omega) (by omega) (by omega)).trans m4), (fr (o + 6) (by omega) (by omega) (by omega) (by omega)).trans m5, (fr (o + 7) (by omega) (by omega) (by omega) (by omega)).trans m6, (by rw [off 14 (by omega)]; exact (fr (o + 8) (by omega) (by omega) (by omega) (by omega)).trans m7), (fr (o + 9) (by omega) (by omega) (by omega) (by omega)).trans m8, (by rw [off 15 (by omega)]; exact (fr (o + 10) (by omega) (by omega) (by omega) (by omega)).trans m9), (fr (o + 11) (by omega) (by omega) (by omega) (by omega)).trans m10, (by rw [hcb]; exact w0), w1, (by rw [off 11 (by omega)]; exact (CsO.mono zr hCs).row (fun q h1 h2 => off q (by omega)) h11.2), CsA.mono zr hCA, (TsO.mono zr hTs).row (fun u hu => ⟨congrArg cN (off (60 + u) (by omega)), fun j hj => (off (180 + 50 * u + j) (by have hj : j < cN (d (60 + u)) := hj; have := (h60 u hu).2; omega)).symm⟩), (fun j hj => by rw [off 14 (by omega)] at hj; exact (hTp j hj).trans (off (280 + j) (by omega)).symm), (fun j hj => by rw [off 15 (by omega)] at hj; exact (hWt j hj).trans (off (70 + j) (by omega)).symm), (fun j hj => g3 j (by rw [hcb] at hj; exact hj)), ⟨lnOk_c hln (off 1 (by omega)), (by rw [off 11 (by omega)]; exact h11), (by rw [hcb]; exact ⟨g1, g2⟩), (by rw [off 14 (by omega)]; exact h14), (by rw [off 15 (by omega)]; exact h15), (fun u hu => by rw [off (60 + u) (by omega)]; exact h60 u hu), (fun c hc => by rw [off 11 (by omega)] at hc; rw [off (20 + 2 * c) (by omega)]; exact hkd c hc), (by unfold wfS; rw [off 4 (by omega), off 5 (by omega), off 6 (by omega)]; exact hS), (fun c hc => by rw [off (100 + c) (by omega), off (140 + c) (by omega)]; exact hC c hc), wfB_box h12.2 h12.1 hbr⟩⟩, ⟨zkq, HQ.same (fun zq z1 z2 => fr zq (by omega) (by omega) (by omega) (by omega)) zr, hkq⟩, HA.same (fun zq z1 z2 => fr zq (by omega) (by omega) (by omega) (by omega)), (fr (o + 33) (by omega) (by omega) (by omega) (by omega)).trans k33, HS.same (fun zq z1 z2 => fr zq (by omega) (by omega) (by omega) (by omega)), (fr (o + 42) (by omega) (by omega) (by omega) (by omega)).trans k42, HG.same (fun zq z1 z2 => fr zq (by omega) (by omega) (by omega) (by omega)), HR.same (fun zq z1 z2 => fr zq (by omega) (by omega) (by omega) (by omega)), ⟨_, (fr (o + 59) (by omega) (by omega) (by omega) (by omega)).trans k59⟩, (fr (o + 60) (by omega) (by omega) (by omega) (by omega)).trans k60, w2, htn⟩, fun zq z1 z2 => fr zq (by omega) (by omega) (by omega) (by omega)⟩
theorem k_feed {κ : Wc} {l : Launch} {o n : Nat} {d : Nat → Int32} {kp : Nat → Int32} {im : Int32} {fo : Nat → Int32} {tr : Nat → Int32} {tn : Nat} {bi : Nat → Int32} {ss : Nat → Nat} {nu : Nat → Int32} {w : Int64} {v : Int32} {h : Mm} (H : CI κ o h d kp im fo tr tn bi ss nu) : Con κ l yX11_feed cX11_feed 6 (some .int) 3 0 0 [.ref o, .long w, .int v] h n (fun q h' n' => q = some (.int (ansOf (opFeed (cN (d 14)) v))) ∧ n ≤ n' ∧ CI κ o h' (dFeed d (cN (d 14)) w v) kp im (bump (opFeed (cN (d 14)) v) fo) tr tn bi ss nu ∧ ∀ zq, o + 62 ≤ zq → zq < o + 76 → h' zq = h zq) := by
  obtain ⟨k0, HK, ⟨zkq, HQ, hkq⟩, HA, k33, HS, k42, HG, HR, ⟨zbt, k59⟩, k60, k61, htn⟩ := H
  have HK0 := HK
  have HA0 := HA
  have HR0 := HR
  obtain ⟨zcold, zwind, zcs, zts, ztp, zwt, zbx, m0, m1, m2, m3, m4, m5, m6, m7, m8, m9, m10, m11, m12, hCs, hCA, hTs, hTp, hWt, hBx, hwd⟩ := HK0
  have hwd0 := hwd
  obtain ⟨hln, h11, h12, h14, h15, h60, hkd, hS, hC, hbr⟩ := hwd0
  obtain ⟨zx1, zx2, zx3, zx4, zx5, zx6, zx7, zx8, zf1, zf2, zf3, zc1, zt1, a0, a1, a2, a3, a4, a5⟩ := HA0
  obtain ⟨zr1, zb1, zg1, zr2, zb2, zg2, n0, n1, n2, n3⟩ := HR0
  refine Con.imp (p_feed (κ := κ) (n := n) (o := o) (im := im) (d := d) (nt := cN (d 14)) (tp := ztp) (fo := fo) (w := w) (v := v) k0 m0 m7 m8 k61 (h14.1) (h14.2) (hTp)) (fun q h' n' hp => ?_)
  obtain ⟨nt2_, tp_, rfl, hn, fr, zr, w0, w1, w2, ft0⟩ := hp
  have off : ∀ q : Nat, q ≠ 14 ∧ (q < 280 ∨ 330 ≤ q) → (dFeed d (cN (d 14)) w v) q = d q := fun q hq => off_feed hq
  obtain ⟨g1, g2, g3⟩ := ft0
  have hcb : cN ((dFeed d (cN (d 14)) w v) 14) = nt2_ := by rw [g1]; exact nI_clamp (by omega)
  exact ⟨rfl, by omega, ⟨(fr o (by omega) (by omega) (by omega) (by omega)).trans k0, ⟨zcold, zwind, zcs, zts, tp_, zwt, zbx, (by rw [off 13 (by omega)]; exact (fr (o + 1) (by omega) (by omega) (by omega) (by omega)).trans m0), (by rw [lnO_c (off 1 (by omega)), off 0 (by omega), off 2 (by omega), off 3 (by omega), off 11 (by omega), off 10 (by omega)]; exact (fr (o + 2) (by omega) (by omega) (by omega) (by omega)).trans m1), (by rw [win_ext (fun j hj => off (100 + j) (by omega))]; exact (fr (o + 3) (by omega) (by omega) (by omega) (by omega)).trans m2), (by rw [win_ext (fun j hj => off (140 + j) (by omega))]; exact (fr (o + 4) (by omega) (by omega) (by omega) (by omega)).trans m3), (by rw [win_ext (fun j hj => off (4 + j) (by omega))]; exact (fr (o + 5) (by omega) (by omega) (by omega) (by omega)).trans m4), (fr (o + 6) (by omega) (by omega) (by omega) (by omega)).trans m5, (fr (o + 7) (by omega) (by omega) (by omega) (by omega)).trans m6, (by rw [hcb]; exact w0), w1, (by rw [off 15 (by omega)]; exact (fr (o + 10) (by omega) (by omega) (by omega) (by omega)).trans m9), (fr (o + 11) (by omega) (by omega) (by omega) (by omega)).trans m10, (by rw [off 12 (by omega)]; exact (fr (o + 12) (by omega) (by omega) (by omega) (by omega)).trans m11), (fr (o + 13) (by omega) (by omega) (by omega) (by omega)).trans m12, (by rw [off 11 (by omega)]; exact (CsO.mono zr hCs).row (fun q h1 h2 => off q (by omega)) h11.2), CsA.mono zr hCA, (TsO.mono zr hTs).row (fun u hu => ⟨congrArg cN (off (60 + u) (by omega)), fun j hj => (off (180 + 50 * u + j) (by have hj : j < cN (d (60 + u)) := hj; have := (h60 u hu).2; omega)).symm⟩), (fun j hj => g3 j (by rw [hcb] at hj; exact hj)), (fun j hj => by rw [off 15 (by omega)] at hj; exact (hWt j hj).trans (off (70 + j) (by omega)).symm), (fun j hj => by rw [off 12 (by omega)] at hj; exact (hBx j hj).trans (off (40 + j) (by omega)).symm), ⟨lnOk_c hln (off 1 (by omega)), (by rw [off 11 (by omega)]; exact h11), (by rw [off 12 (by omega)]; exact h12), (by rw [hcb]; exact ⟨g1, g2⟩), (by rw [off 15 (by omega)]; exact h15), (fun u hu => by rw [off (60 + u) (by omega)]; exact h60 u hu), (fun c hc => by rw [off 11 (by omega)] at hc; rw [off (20 + 2 * c) (by omega)]; exact hkd c hc), (by unfold wfS; rw [off 4 (by omega), off 5 (by omega), off 6 (by omega)]; exact hS), (fun c hc => by rw [off (100 + c) (by omega), off (140 + c) (by omega)]; exact hC c hc), (fun b hb => by rw [off 12 (by omega)] at hb; rw [off (40 + 3 * b) (by omega), off (40 + 3 * b + 2) (by omega)]; exact hbr b hb)⟩⟩, ⟨zkq, HQ.same (fun zq z1 z2 => fr zq (by omega) (by omega) (by omega) (by omega)) zr, hkq⟩, HA.same (fun zq z1 z2 => fr zq (by omega) (by omega) (by omega) (by omega)), (fr (o + 33) (by omega) (by omega) (by omega) (by omega)).trans k33, HS.same (fun zq z1 z2 => fr zq (by omega) (by omega) (by omega) (by omega)), (fr (o + 42) (by omega) (by omega) (by omega) (by omega)).trans k42, HG.same (fun zq z1 z2 => fr zq (by omega) (by omega) (by omega) (by omega)), HR.same (fun zq z1 z2 => fr zq (by omega) (by omega) (by omega) (by omega)), ⟨_, (fr (o + 59) (by omega) (by omega) (by omega) (by omega)).trans k59⟩, (fr (o + 60) (by omega) (by omega) (by omega) (by omega)).trans k60, w2, htn⟩, fun zq z1 z2 => fr zq (by omega) (by omega) (by omega) (by omega)⟩
theorem k_ticks {κ : Wc} {l : Launch} {o n : Nat} {d : Nat → Int32} {kp : Nat → Int32} {im : Int32} {fo : Nat → Int32} {tr : Nat → Int32} {tn : Nat} {bi : Nat → Int32} {ss : Nat → Nat} {nu : Nat → Int32} {v : Int32} {h : Mm} (H : CI κ o h d kp im fo tr tn bi ss nu) : Con κ l yX11_ticks cX11_ticks 2 (some .int) 13 0 0 [.ref o, .int v] h n (fun q h' n' => q = some (.int (ansOf (opTicks (Tx d) ((fun u => cN (d (60 + u)))) d v))) ∧ n ≤ n' ∧ CI κ o h' (dTicks (Tx d) ((fun u => cN (d (60 + u)))) d v) kp im (bump (opTicks (Tx d) ((fun u => cN (d (60 + u)))) d v) fo) tr tn bi ss nu ∧ ∀ zq, o + 62 ≤ zq → zq < o + 76 → h' zq = h zq) := by
  obtain ⟨k0, HK, ⟨zkq, HQ, hkq⟩, HA, k33, HS, k42, HG, HR, ⟨zbt, k59⟩, k60, k61, htn⟩ := H
  have HK0 := HK
  have HA0 := HA
  have HR0 := HR
  obtain ⟨zcold, zwind, zcs, zts, ztp, zwt, zbx, m0, m1, m2, m3, m4, m5, m6, m7, m8, m9, m10, m11, m12, hCs, hCA, hTs, hTp, hWt, hBx, hwd⟩ := HK0
  have hwd0 := hwd
  obtain ⟨hln, h11, h12, h14, h15, h60, hkd, hS, hC, hbr⟩ := hwd0
  obtain ⟨zx1, zx2, zx3, zx4, zx5, zx6, zx7, zx8, zf1, zf2, zf3, zc1, zt1, a0, a1, a2, a3, a4, a5⟩ := HA0
  obtain ⟨zr1, zb1, zg1, zr2, zb2, zg2, n0, n1, n2, n3⟩ := HR0
  refine Con.imp (p_ticks (κ := κ) (n := n) (o := o) (im := im) (d := d) (len := lnO d) (nc := cN (d 11)) (cold := zcold) (wind := zwind) (cs := zcs) (ts := zts) (fo := fo) (v := v) (tx := (fun u => cN (d (60 + u)))) k0 m0 m1 m2 m3 m4 m5 m6 k61 (hln.1) (hln.2.1) (hln.2.2) (h11.1) (h11.2) (hTs) (hCs) (hS) (hC)) (fun q h' n' hp => ?_)
  obtain ⟨cold_, wind_, rfl, hn, fr, zr, w0, w1, w2, w3⟩ := hp
  have off : ∀ q : Nat, 4 ≤ q ∧ q < 100 ∨ 180 ≤ q → (dTicks (Tx d) ((fun u => cN (d (60 + u)))) d v) q = d q := fun q hq => off_ticks hln hq
  have hwf := wf_ticks (T := Tx d) (tx := (fun u => cN (d (60 + u)))) (v := v) hln hS hC
  exact ⟨rfl, by omega, ⟨(fr o (by omega) (by omega) (by omega) (by omega) (by omega)).trans k0, ⟨cold_, wind_, zcs, zts, ztp, zwt, zbx, (by rw [off 13 (by omega)]; exact (fr (o + 1) (by omega) (by omega) (by omega) (by omega) (by omega)).trans m0), (by rw [← hwf.1.1, off 11 (by omega), off 10 (by omega)]; exact w0), w1, w2, (by rw [win_ext (fun j hj => off (4 + j) (by omega))]; exact (fr (o + 5) (by omega) (by omega) (by omega) (by omega) (by omega)).trans m4), (fr (o + 6) (by omega) (by omega) (by omega) (by omega) (by omega)).trans m5, (fr (o + 7) (by omega) (by omega) (by omega) (by omega) (by omega)).trans m6, (by rw [off 14 (by omega)]; exact (fr (o + 8) (by omega) (by omega) (by omega) (by omega) (by omega)).trans m7), (fr (o + 9) (by omega) (by omega) (by omega) (by omega) (by omega)).trans m8, (by rw [off 15 (by omega)]; exact (fr (o + 10) (by omega) (by omega) (by omega) (by omega) (by omega)).trans m9), (fr (o + 11) (by omega) (by omega) (by omega) (by omega) (by omega)).trans m10, (by rw [off 12 (by omega)]; exact (fr (o + 12) (by omega) (by omega) (by omega) (by omega) (by omega)).trans m11), (fr (o + 13) (by omega) (by omega) (by omega) (by omega) (by omega)).trans m12, (by rw [off 11 (by omega)]; exact (CsO.mono zr hCs).row (fun q h1 h2 => off q (by omega)) h11.2), CsA.mono zr hCA, (TsO.mono zr hTs).row (fun u hu => ⟨congrArg cN (off (60 + u) (by omega)), fun j hj => (off (180 + 50 * u + j) (by have hj : j < cN (d (60 + u)) := hj; have := (h60 u hu).2; omega)).symm⟩), (fun j hj => by rw [off 14 (by omega)] at hj; exact (hTp j hj).trans (off (280 + j) (by omega)).symm), (fun j hj => by rw [off 15 (by omega)] at hj; exact (hWt j hj).trans (off (70 + j) (by omega)).symm), (fun j hj => by rw [off 12 (by omega)] at hj; exact (hBx j hj).trans (off (40 + j) (by omega)).symm), ⟨hwf.1, (by rw [off 11 (by omega)]; exact h11), (by rw [off 12 (by omega)]; exact h12), (by rw [off 14 (by omega)]; exact h14), (by rw [off 15 (by omega)]; exact h15), (fun u hu => by rw [off (60 + u) (by omega)]; exact h60 u hu), (fun c hc => by rw [off 11 (by omega)] at hc; rw [off (20 + 2 * c) (by omega)]; exact hkd c hc), (by unfold wfS; rw [off 4 (by omega), off 5 (by omega), off 6 (by omega)]; exact hS), hwf.2, (fun b hb => by rw [off 12 (by omega)] at hb; rw [off (40 + 3 * b) (by omega), off (40 + 3 * b + 2) (by omega)]; exact hbr b hb)⟩⟩, ⟨zkq, HQ.same (fun zq z1 z2 => fr zq (by omega) (by omega) (by omega) (by omega) (by omega)) zr, hkq⟩, HA.same (fun zq z1 z2 => fr zq (by omega) (by omega) (by omega) (by omega) (by omega)), (fr (o + 33) (by omega) (by omega) (by omega) (by omega) (by omega)).trans k33, HS.same (fun zq z1 z2 => fr zq (by omega) (by omega) (by omega) (by omega) (by omega)), (fr (o + 42) (by omega) (by omega) (by omega) (by omega) (by omega)).trans k42, HG.same (fun zq z1 z2 => fr zq (by omega) (by omega) (by omega) (by omega) (by omega)), HR.same (fun zq z1 z2 => fr zq (by omega) (by omega) (by omega) (by omega) (by omega)), ⟨_, (fr (o + 59) (by omega) (by omega) (by omega) (by omega) (by omega)).trans k59⟩, (fr (o + 60) (by omega) (by omega) (by omega) (by omega) (by omega)).trans k60, w3, htn⟩, fun zq z1 z2 => fr zq (by omega) (by omega) (by omega) (by omega) (by omega)⟩
theorem k_gusts {κ : Wc} {l : Launch} {o n : Nat} {d : Nat → Int32} {kp : Nat → Int32} {im : Int32} {fo : Nat → Int32} {tr : Nat → Int32} {tn : Nat} {bi : Nat → Int32} {ss : Nat → Nat} {nu : Nat → Int32} {v : Int32} {h : Mm} (H : CI κ o h d kp im fo tr tn bi ss nu) : Con κ l yX11_gusts cX11_gusts 3 (some .int) 12 0 0 [.ref o, .int v] h n (fun q h' n' => q = some (.int (ansOf (opGusts (Tx d) ((fun u => cN (d (60 + u)))) d v))) ∧ n ≤ n' ∧ CI κ o h' (dGusts (Tx d) ((fun u => cN (d (60 + u)))) d v) kp im (bump (opGusts (Tx d) ((fun u => cN (d (60 + u)))) d v) fo) tr tn bi ss nu ∧ ∀ zq, o + 62 ≤ zq → zq < o + 76 → h' zq = h zq) := by
  obtain ⟨k0, HK, ⟨zkq, HQ, hkq⟩, HA, k33, HS, k42, HG, HR, ⟨zbt, k59⟩, k60, k61, htn⟩ := H
  have HK0 := HK
  have HA0 := HA
  have HR0 := HR
  obtain ⟨zcold, zwind, zcs, zts, ztp, zwt, zbx, m0, m1, m2, m3, m4, m5, m6, m7, m8, m9, m10, m11, m12, hCs, hCA, hTs, hTp, hWt, hBx, hwd⟩ := HK0
  have hwd0 := hwd
  obtain ⟨hln, h11, h12, h14, h15, h60, hkd, hS, hC, hbr⟩ := hwd0
  obtain ⟨zx1, zx2, zx3, zx4, zx5, zx6, zx7, zx8, zf1, zf2, zf3, zc1, zt1, a0, a1, a2, a3, a4, a5⟩ := HA0
  obtain ⟨zr1, zb1, zg1, zr2, zb2, zg2, n0, n1, n2, n3⟩ := HR0
  refine Con.imp (p_gusts (κ := κ) (n := n) (o := o) (im := im) (d := d) (len := lnO d) (nc := cN (d 11)) (cold := zcold) (wind := zwind) (cs := zcs) (ts := zts) (fo := fo) (v := v) (tx := (fun u => cN (d (60 + u)))) k0 m0 m1 m2 m3 m4 m5 m6 k61 (hln.1) (hln.2.1) (hln.2.2) (h11.1) (h11.2) (hTs) (hCs) (hS) (hC)) (fun q h' n' hp => ?_)
  obtain ⟨cold_, wind_, rfl, hn, fr, zr, w0, w1, w2, w3, w4⟩ := hp
  have off : ∀ q : Nat, (4 ≤ q ∧ q < 100 ∨ 180 ≤ q) ∧ q ≠ 13 → (dGusts (Tx d) ((fun u => cN (d (60 + u)))) d v) q = d q := fun q hq => off_gusts hln hq
  have hwf := wf_gusts (T := Tx d) (tx := (fun u => cN (d (60 + u)))) (v := v) hln hS hC
  exact ⟨rfl, by omega, ⟨(fr o (by omega) (by omega) (by omega) (by omega) (by omega) (by omega)).trans k0, ⟨cold_, wind_, zcs, zts, ztp, zwt, zbx, w0, (by rw [← hwf.1.1, off 11 (by omega), off 10 (by omega)]; exact w1), w2, w3, (by rw [win_ext (fun j hj => off (4 + j) (by omega))]; exact (fr (o + 5) (by omega) (by omega) (by omega) (by omega) (by omega) (by omega)).trans m4), (fr (o + 6) (by omega) (by omega) (by omega) (by omega) (by omega) (by omega)).trans m5, (fr (o + 7) (by omega) (by omega) (by omega) (by omega) (by omega) (by omega)).trans m6, (by rw [off 14 (by omega)]; exact (fr (o + 8) (by omega) (by omega) (by omega) (by omega) (by omega) (by omega)).trans m7), (fr (o + 9) (by omega) (by omega) (by omega) (by omega) (by omega) (by omega)).trans m8, (by rw [off 15 (by omega)]; exact (fr (o + 10) (by omega) (by omega) (by omega) (by omega) (by omega) (by omega)).trans m9), (fr (o + 11) (by omega) (by omega) (by omega) (by omega) (by omega) (by omega)).trans m10, (by rw [off 12 (by omega)]; exact (fr (o + 12) (by omega) (by omega) (by omega) (by omega) (by omega) (by omega)).trans m11), (fr (o + 13) (by omega) (by omega) (by omega) (by omega) (by omega) (by omega)).trans m12, (by rw [off 11 (by omega)]; exact (CsO.mono zr hCs).row (fun q h1 h2 => off q (by omega)) h11.2), CsA.mono zr hCA, (TsO.mono zr hTs).row (fun u hu => ⟨congrArg cN (off (60 + u) (by omega)), fun j hj => (off (180 + 50 * u + j) (by have hj : j < cN (d (60 + u)) := hj; have := (h60 u hu).2; omega)).symm⟩), (fun j hj => by rw [off 14 (by omega)] at hj; exact (hTp j hj).trans (off (280 + j) (by omega)).symm), (fun j hj => by rw [off 15 (by omega)] at hj; exact (hWt j hj).trans (off (70 + j) (by omega)).symm), (fun j hj => by rw [off 12 (by omega)] at hj; exact (hBx j hj).trans (off (40 + j) (by omega)).symm), ⟨hwf.1, (by rw [off 11 (by omega)]; exact h11), (by rw [off 12 (by omega)]; exact h12), (by rw [off 14 (by omega)]; exact h14), (by rw [off 15 (by omega)]; exact h15), (fun u hu => by rw [off (60 + u) (by omega)]; exact h60 u hu), (fun c hc => by rw [off 11 (by omega)] at hc; rw [off (20 + 2 * c) (by omega)]; exact hkd c hc), (by unfold wfS; rw [off 4 (by omega), off 5 (by omega), off 6 (by omega)]; exact hS), hwf.2, (fun b hb => by rw [off 12 (by omega)] at hb; rw [off (40 + 3 * b) (by omega), off (40 + 3 * b + 2) (by omega)]; exact hbr b hb)⟩⟩, ⟨zkq, HQ.same (fun zq z1 z2 => fr zq (by omega) (by omega) (by omega) (by omega) (by omega) (by omega)) zr, hkq⟩, HA.same (fun zq z1 z2 => fr zq (by omega) (by omega) (by omega) (by omega) (by omega) (by omega)), (fr (o + 33) (by omega) (by omega) (by omega) (by omega) (by omega) (by omega)).trans k33, HS.same (fun zq z1 z2 => fr zq (by omega) (by omega) (by omega) (by omega) (by omega) (by omega)), (fr (o + 42) (by omega) (by omega) (by omega) (by omega) (by omega) (by omega)).trans k42, HG.same (fun zq z1 z2 => fr zq (by omega) (by omega) (by omega) (by omega) (by omega) (by omega)), HR.same (fun zq z1 z2 => fr zq (by omega) (by omega) (by omega) (by omega) (by omega) (by omega)), ⟨_, (fr (o + 59) (by omega) (by omega) (by omega) (by omega) (by omega) (by omega)).trans k59⟩, (fr (o + 60) (by omega) (by omega) (by omega) (by omega) (by omega) (by omega)).trans k60, w4, htn⟩, fun zq z1 z2 => fr zq (by omega) (by omega) (by omega) (by omega) (by omega) (by omega)⟩
theorem k_check {κ : Wc} {l : Launch} {o n : Nat} {d : Nat → Int32} {kp : Nat → Int32} {im : Int32} {fo : Nat → Int32} {tr : Nat → Int32} {tn : Nat} {bi : Nat → Int32} {ss : Nat → Nat} {nu : Nat → Int32} {v : Int32} {h : Mm} (H : CI κ o h d kp im fo tr tn bi ss nu) : Con κ l yX11_check cX11_check 3 (some .int) 14 0 0 [.ref o, .int v] h n (fun q h' n' => q = some (.int (ansOf (opCheck (Tx d) ((fun u => cN (d (60 + u)))) d (cN (d 15)) v))) ∧ n ≤ n' ∧ CI κ o h' (upd d 15 0) kp im (bump (opCheck (Tx d) ((fun u => cN (d (60 + u)))) d (cN (d 15)) v) fo) tr tn bi ss nu ∧ ∀ zq, o + 62 ≤ zq → zq < o + 76 → h' zq = h zq) := by
  obtain ⟨k0, HK, ⟨zkq, HQ, hkq⟩, HA, k33, HS, k42, HG, HR, ⟨zbt, k59⟩, k60, k61, htn⟩ := H
  have HK0 := HK
  have HA0 := HA
  have HR0 := HR
  obtain ⟨zcold, zwind, zcs, zts, ztp, zwt, zbx, m0, m1, m2, m3, m4, m5, m6, m7, m8, m9, m10, m11, m12, hCs, hCA, hTs, hTp, hWt, hBx, hwd⟩ := HK0
  have hwd0 := hwd
  obtain ⟨hln, h11, h12, h14, h15, h60, hkd, hS, hC, hbr⟩ := hwd0
  obtain ⟨zx1, zx2, zx3, zx4, zx5, zx6, zx7, zx8, zf1, zf2, zf3, zc1, zt1, a0, a1, a2, a3, a4, a5⟩ := HA0
  obtain ⟨zr1, zb1, zg1, zr2, zb2, zg2, n0, n1, n2, n3⟩ := HR0
  refine Con.imp (p_check (κ := κ) (n := n) (o := o) (im := im) (d := d) (len := lnO d) (nc := cN (d 11)) (cold := zcold) (wind := zwind) (cs := zcs) (ts := zts) (alen := zx1) (anow := zx2) (add := zx3) (adr := zx4) (acc := zx5) (aon := zx6) (acold := zx7) (awind := zx8) (af1 := zf1) (af2 := zf2) (af3 := zf3) (ac1 := zc1) (at1 := zt1) (nw := cN (d 15)) (wt := zwt) (rs2 := zr2) (bt2 := zb2) (g2 := zg2) (fo := fo) (v := v) (tx := (fun u => cN (d (60 + u)))) k0 m0 m1 m2 m3 m4 m5 m6 a0 a1 a2 a3 a4 a5 m9 m10 n2 n3 k61 (hln.1) (hln.2.1) (hln.2.2) (h11.1) (h11.2) (hTs) (hCs) (hCA) (hS) (hC) (h15.1) (h15.2) (hWt)) (fun q h' n' hp => ?_)
  obtain ⟨x1_, x2_, x3_, x4_, x5_, x6_, x7_, x8_, af1_, af2_, af3_, ac1_, at1_, rs2_, g2_, rfl, hn, fr, zr, w0, w1, w2, w3, w4, w5, w6, w7, w8, w9⟩ := hp
  have off : ∀ q : Nat, q ≠ 15 → (upd d 15 0) q = d q := fun q hq => pk_un hq
  have hcb : cN ((upd d 15 0) 15) = 0 := by rw [pk_us]; rfl
  exact ⟨rfl, by omega, ⟨(fr o (by omega) (by omega) (by omega) (by omega) (by omega) (by omega) (by omega) (by omega) (by omega) (by omega) (by omega)).trans k0, ⟨zcold, zwind, zcs, zts, ztp, zwt, zbx, (by rw [off 13 (by omega)]; exact (fr (o + 1) (by omega) (by omega) (by omega) (by omega) (by omega) (by omega) (by omega) (by omega) (by omega) (by omega) (by omega)).trans m0), (by rw [lnO_c (off 1 (by omega)), off 0 (by omega), off 2 (by omega), off 3 (by omega), off 11 (by omega), off 10 (by omega)]; exact (fr (o + 2) (by omega) (by omega) (by omega) (by omega) (by omega) (by omega) (by omega) (by omega) (by omega) (by omega) (by omega)).trans m1), (by rw [win_ext (fun j hj => off (100 + j) (by omega))]; exact (fr (o + 3) (by omega) (by omega) (by omega) (by omega) (by omega) (by omega) (by omega) (by omega) (by omega) (by omega) (by omega)).trans m2), (by rw [win_ext (fun j hj => off (140 + j) (by omega))]; exact (fr (o + 4) (by omega) (by omega) (by omega) (by omega) (by omega) (by omega) (by omega) (by omega) (by omega) (by omega) (by omega)).trans m3), (by rw [win_ext (fun j hj => off (4 + j) (by omega))]; exact (fr (o + 5) (by omega) (by omega) (by omega) (by omega) (by omega) (by omega) (by omega) (by omega) (by omega) (by omega) (by omega)).trans m4), (fr (o + 6) (by omega) (by omega) (by omega) (by omega) (by omega) (by omega) (by omega) (by omega) (by omega) (by omega) (by omega)).trans m5, (fr (o + 7) (by omega) (by omega) (by omega) (by omega) (by omega) (by omega) (by omega) (by omega) (by omega) (by omega) (by omega)).trans m6, (by rw [off 14 (by omega)]; exact (fr (o + 8) (by omega) (by omega) (by omega) (by omega) (by omega) (by omega) (by omega) (by omega) (by omega) (by omega) (by omega)).trans m7), (fr (o + 9) (by omega) (by omega) (by omega) (by omega) (by omega) (by omega) (by omega) (by omega) (by omega) (by omega) (by omega)).trans m8, (by rw [hcb]; exact w8), (fr (o + 11) (by omega) (by omega) (by omega) (by omega) (by omega) (by omega) (by omega) (by omega) (by omega) (by omega) (by omega)).trans m10, (by rw [off 12 (by omega)]; exact (fr (o + 12) (by omega) (by omega) (by omega) (by omega) (by omega) (by omega) (by omega) (by omega) (by omega) (by omega) (by omega)).trans m11), (fr (o + 13) (by omega) (by omega) (by omega) (by omega) (by omega) (by omega) (by omega) (by omega) (by omega) (by omega) (by omega)).trans m12, (by rw [off 11 (by omega)]; exact (CsO.mono zr hCs).row (fun q h1 h2 => off q (by omega)) h11.2), CsA.mono zr hCA, (TsO.mono zr hTs).row (fun u hu => ⟨congrArg cN (off (60 + u) (by omega)), fun j hj => (off (180 + 50 * u + j) (by have hj : j < cN (d (60 + u)) := hj; have := (h60 u hu).2; omega)).symm⟩), (fun j hj => by rw [off 14 (by omega)] at hj; exact (hTp j hj).trans (off (280 + j) (by omega)).symm), (fun j hj => absurd (show j < 0 by rw [hcb] at hj; exact hj) (by omega)), (fun j hj => by rw [off 12 (by omega)] at hj; exact (hBx j hj).trans (off (40 + j) (by omega)).symm), ⟨lnOk_c hln (off 1 (by omega)), (by rw [off 11 (by omega)]; exact h11), (by rw [off 12 (by omega)]; exact h12), (by rw [off 14 (by omega)]; exact h14), (by rw [hcb]; exact ⟨pk_us, by omega⟩), (fun u hu => by rw [off (60 + u) (by omega)]; exact h60 u hu), (fun c hc => by rw [off 11 (by omega)] at hc; rw [off (20 + 2 * c) (by omega)]; exact hkd c hc), (by unfold wfS; rw [off 4 (by omega), off 5 (by omega), off 6 (by omega)]; exact hS), (fun c hc => by rw [off (100 + c) (by omega), off (140 + c) (by omega)]; exact hC c hc), (fun b hb => by rw [off 12 (by omega)] at hb; rw [off (40 + 3 * b) (by omega), off (40 + 3 * b + 2) (by omega)]; exact hbr b hb)⟩⟩, ⟨zkq, HQ.same (fun zq z1 z2 => fr zq (by omega) (by omega) (by omega) (by omega) (by omega) (by omega) (by omega) (by omega) (by omega) (by omega) (by omega)) zr, hkq⟩, ⟨_, _, _, _, _, _, _, _, _, _, _, _, _, w0, w1, w2, w3, w4, w5⟩, (fr (o + 33) (by omega) (by omega) (by omega) (by omega) (by omega) (by omega) (by omega) (by omega) (by omega) (by omega) (by omega)).trans k33, HS.same (fun zq z1 z2 => fr zq (by omega) (by omega) (by omega) (by omega) (by omega) (by omega) (by omega) (by omega) (by omega) (by omega) (by omega)), (fr (o + 42) (by omega) (by omega) (by omega) (by omega) (by omega) (by omega) (by omega) (by omega) (by omega) (by omega) (by omega)).trans k42, HG.same (fun zq z1 z2 => fr zq (by omega) (by omega) (by omega) (by omega) (by omega) (by omega) (by omega) (by omega) (by omega) (by omega) (by omega)), ⟨_, _, _, _, _, _, (fr (o + 55) (by omega) (by omega) (by omega) (by omega) (by omega) (by omega) (by omega) (by omega) (by omega) (by omega) (by omega)).trans n0, (fr (o + 56) (by omega) (by omega) (by omega) (by omega) (by omega) (by omega) (by omega) (by omega) (by omega) (by omega) (by omega)).trans n1, w6, w7⟩, ⟨_, (fr (o + 59) (by omega) (by omega) (by omega) (by omega) (by omega) (by omega) (by omega) (by omega) (by omega) (by omega) (by omega)).trans k59⟩, (fr (o + 60) (by omega) (by omega) (by omega) (by omega) (by omega) (by omega) (by omega) (by omega) (by omega) (by omega) (by omega)).trans k60, w9, htn⟩, fun zq z1 z2 => fr zq (by omega) (by omega) (by omega) (by omega) (by omega) (by omega) (by omega) (by omega) (by omega) (by omega) (by omega)⟩
theorem k_cause {κ : Wc} {l : Launch} {o n : Nat} {d : Nat → Int32} {kp : Nat → Int32} {im : Int32} {fo : Nat → Int32} {tr : Nat → Int32} {tn : Nat} {bi : Nat → Int32} {ss : Nat → Nat} {nu : Nat → Int32} {k : Int32} {m : Int32} {h : Mm} (H : CI κ o h d kp im fo tr tn bi ss nu) (hzn : o + 76 ≤ n) : Con κ l yX11_cause cX11_cause 5 (some .int) 9 1 3 [.ref o, .int k, .int m] h n (fun q h' n' => q = some (.int (ansOf (opCause (cN (d 11)) k m))) ∧ n ≤ n' ∧ CI κ o h' (dCause d (cN (d 11)) k m) kp im (bump (opCause (cN (d 11)) k m) fo) tr tn bi ss nu ∧ ∀ zq, o + 62 ≤ zq → zq < o + 76 → h' zq = h zq) := by
  obtain ⟨k0, HK, ⟨zkq, HQ, hkq⟩, HA, k33, HS, k42, HG, HR, ⟨zbt, k59⟩, k60, k61, htn⟩ := H
  have HK0 := HK
  have HA0 := HA
  have HR0 := HR
  obtain ⟨zcold, zwind, zcs, zts, ztp, zwt, zbx, m0, m1, m2, m3, m4, m5, m6, m7, m8, m9, m10, m11, m12, hCs, hCA, hTs, hTp, hWt, hBx, hwd⟩ := HK0
  have hwd0 := hwd
  obtain ⟨hln, h11, h12, h14, h15, h60, hkd, hS, hC, hbr⟩ := hwd0
  obtain ⟨zx1, zx2, zx3, zx4, zx5, zx6, zx7, zx8, zf1, zf2, zf3, zc1, zt1, a0, a1, a2, a3, a4, a5⟩ := HA0
  obtain ⟨zr1, zb1, zg1, zr2, zb2, zg2, n0, n1, n2, n3⟩ := HR0
  refine Con.imp (p_cause (κ := κ) (n := n) (o := o) (im := im) (d := d) (len := lnO d) (nc := cN (d 11)) (cold := zcold) (wind := zwind) (cs := zcs) (fo := fo) (k := k) (m := m) k0 m0 m1 m5 k61 (h11.1) (h11.2) (hCs) (hCA) (hzn)) (fun q h' n' hp => ?_)
  obtain ⟨nc2_, cs_, rfl, hn, fr, zr, w0, w1, w2, ft0⟩ := hp
  have off : ∀ q : Nat, q ≠ 10 ∧ q ≠ 11 ∧ (q < 20 ∨ 32 ≤ q) → (dCause d (cN (d 11)) k m) q = d q := fun q hq => off_cause h11.2 hq
  obtain ⟨g1, g2, g3, g4⟩ := ft0
  have hcb : cN ((dCause d (cN (d 11)) k m) 11) = nc2_ := by rw [g1]; exact nI_clamp (by omega)
  exact ⟨rfl, by omega, ⟨(fr o (by omega) (by omega) (by omega) (by omega)).trans k0, ⟨zcold, zwind, cs_, zts, ztp, zwt, zbx, (by rw [off 13 (by omega)]; exact (fr (o + 1) (by omega) (by omega) (by omega) (by omega)).trans m0), (by rw [lnO_c (off 1 (by omega)), off 0 (by omega), off 2 (by omega), off 3 (by omega), hcb]; exact w0), (by rw [win_ext (fun j hj => off (100 + j) (by omega))]; exact (fr (o + 3) (by omega) (by omega) (by omega) (by omega)).trans m2), (by rw [win_ext (fun j hj => off (140 + j) (by omega))]; exact (fr (o + 4) (by omega) (by omega) (by omega) (by omega)).trans m3), (by rw [win_ext (fun j hj => off (4 + j) (by omega))]; exact (fr (o + 5) (by omega) (by omega) (by omega) (by omega)).trans m4), w1, (fr (o + 7) (by omega) (by omega) (by omega) (by omega)).trans m6, (by rw [off 14 (by omega)]; exact (fr (o + 8) (by omega) (by omega) (by omega) (by omega)).trans m7), (fr (o + 9) (by omega) (by omega) (by omega) (by omega)).trans m8, (by rw [off 15 (by omega)]; exact (fr (o + 10) (by omega) (by omega) (by omega) (by omega)).trans m9), (fr (o + 11) (by omega) (by omega) (by omega) (by omega)).trans m10, (by rw [off 12 (by omega)]; exact (fr (o + 12) (by omega) (by omega) (by omega) (by omega)).trans m11), (fr (o + 13) (by omega) (by omega) (by omega) (by omega)).trans m12, (by rw [hcb]; exact g3), g4, (TsO.mono zr hTs).row (fun u hu => ⟨congrArg cN (off (60 + u) (by omega)), fun j hj => (off (180 + 50 * u + j) (by have hj : j < cN (d (60 + u)) := hj; have := (h60 u hu).2; omega)).symm⟩), (fun j hj => by rw [off 14 (by omega)] at hj; exact (hTp j hj).trans (off (280 + j) (by omega)).symm), (fun j hj => by rw [off 15 (by omega)] at hj; exact (hWt j hj).trans (off (70 + j) (by omega)).symm), (fun j hj => by rw [off 12 (by omega)] at hj; exact (hBx j hj).trans (off (40 + j) (by omega)).symm), ⟨lnOk_c hln (off 1 (by omega)), (by rw [hcb]; exact ⟨g1, g2⟩), (by rw [off 12 (by omega)]; exact h12), (by rw [off 14 (by omega)]; exact h14), (by rw [off 15 (by omega)]; exact h15), (fun u hu => by rw [off (60 + u) (by omega)]; exact h60 u hu), (fun c hc => by rw [hcb] at hc; obtain ⟨za, zk, y1, y2, y3, y4, y5⟩ := g3 c hc; rw [y4, show cN (nI zk) = zk from nI_clamp (by omega)]; exact ⟨rfl, by omega⟩), (by unfold wfS; rw [off 4 (by omega), off 5 (by omega), off 6 (by omega)]; exact hS), (fun c hc => by rw [off (100 + c) (by omega), off (140 + c) (by omega)]; exact hC c hc), (fun b hb => by rw [off 12 (by omega)] at hb; rw [off (40 + 3 * b) (by omega), off (40 + 3 * b + 2) (by omega)]; exact hbr b hb)⟩⟩, ⟨zkq, HQ.same (fun zq z1 z2 => fr zq (by omega) (by omega) (by omega) (by omega)) zr, hkq⟩, HA.same (fun zq z1 z2 => fr zq (by omega) (by omega) (by omega) (by omega)), (fr (o + 33) (by omega) (by omega) (by omega) (by omega)).trans k33, HS.same (fun zq z1 z2 => fr zq (by omega) (by omega) (by omega) (by omega)), (fr (o + 42) (by omega) (by omega) (by omega) (by omega)).trans k42, HG.same (fun zq z1 z2 => fr zq (by omega) (by omega) (by omega) (by omega)), HR.same (fun zq z1 z2 => fr zq (by omega) (by omega) (by omega) (by omega)), ⟨_, (fr (o + 59) (by omega) (by omega) (by omega) (by omega)).trans k59⟩, (fr (o + 60) (by omega) (by omega) (by omega) (by omega)).trans k60, w2, htn⟩, fun zq z1 z2 => fr zq (by omega) (by omega) (by omega) (by omega)⟩
theorem k_text {κ : Wc} {l : Launch} {o n : Nat} {d : Nat → Int32} {kp : Nat → Int32} {im : Int32} {fo : Nat → Int32} {tr : Nat → Int32} {tn : Nat} {bi : Nat → Int32} {ss : Nat → Nat} {nu : Nat → Int32} {u : Int32} {nm : Nat → Int32} {h : Mm} (H : CI κ o h d kp im fo tr tn bi ss nu) (hzn : o + 76 ≤ n) : Con κ l yX11_text cX11_text 4 (some .int) 48 3 105 [.ref o, .int u] h n (fun q h' n' => q = some (.int (ansOf (opText d (cN (d 14)) nm u))) ∧ n ≤ n' ∧ CI κ o h' (dText d (cN (d 14)) nm u) kp im (bump (opText d (cN (d 14)) nm u) fo) tr tn bi ss nu ∧ ∀ zq, o + 62 ≤ zq → zq < o + 76 → h' zq = h zq) := by
  obtain ⟨k0, HK, ⟨zkq, HQ, hkq⟩, HA, k33, HS, k42, HG, HR, ⟨zbt, k59⟩, k60, k61, htn⟩ := H
  have HK0 := HK
  have HA0 := HA
  have HR0 := HR
  obtain ⟨zcold, zwind, zcs, zts, ztp, zwt, zbx, m0, m1, m2, m3, m4, m5, m6, m7, m8, m9, m10, m11, m12, hCs, hCA, hTs, hTp, hWt, hBx, hwd⟩ := HK0
  have hwd0 := hwd
  obtain ⟨hln, h11, h12, h14, h15, h60, hkd, hS, hC, hbr⟩ := hwd0
  obtain ⟨zx1, zx2, zx3, zx4, zx5, zx6, zx7, zx8, zf1, zf2, zf3, zc1, zt1, a0, a1, a2, a3, a4, a5⟩ := HA0
  obtain ⟨zr1, zb1, zg1, zr2, zb2, zg2, n0, n1, n2, n3⟩ := HR0
  refine Con.imp (p_text (κ := κ) (n := n) (o := o) (im := im) (d := d) (len := lnO d) (nc := cN (d 11)) (cold := zcold) (wind := zwind) (ts := zts) (nt := cN (d 14)) (tp := ztp) (fo := fo) (u := u) (nm := nm) (tx := (fun u => cN (d (60 + u)))) k0 m0 m1 m6 m7 m8 k61 (hTs) (h60) (h14.1) (h14.2) (hTp) (hzn)) (fun q h' n' hp => ?_)
  obtain ⟨nt2_, tx2_, ts_, rfl, hn, fr, zr, w0, w1, w2, ft0⟩ := hp
  have off : ∀ q : Nat, q ≠ 14 ∧ q ≠ 60 ∧ q ≠ 61 ∧ (q < 180 ∨ 280 ≤ q) → (dText d (cN (d 14)) nm u) q = d q := fun q hq => off_text h14.2 hq
  obtain ⟨g1, g2, g3, g4, g5⟩ := ft0
  have hcb : cN ((dText d (cN (d 14)) nm u) 14) = nt2_ := by rw [g1]; exact nI_clamp (by omega)
  have hcu : ∀ u2, u2 < 2 → cN ((dText d (cN (d 14)) nm u) (60 + u2)) = tx2_ u2 := fun u2 hu => by rw [(g4 u2 hu).1]; exact nI_clamp (by have := (g4 u2 hu).2; omega)
  exact ⟨rfl, by omega, ⟨(fr o (by omega) (by omega) (by omega) (by omega)).trans k0, ⟨zcold, zwind, zcs, ts_, ztp, zwt, zbx, (by rw [off 13 (by omega)]; exact (fr (o + 1) (by omega) (by omega) (by omega) (by omega)).trans m0), (by rw [lnO_c (off 1 (by omega)), off 0 (by omega), off 2 (by omega), off 3 (by omega), off 11 (by omega), off 10 (by omega)]; exact (fr (o + 2) (by omega) (by omega) (by omega) (by omega)).trans m1), (by rw [win_ext (fun j hj => off (100 + j) (by omega))]; exact (fr (o + 3) (by omega) (by omega) (by omega) (by omega)).trans m2), (by rw [win_ext (fun j hj => off (140 + j) (by omega))]; exact (fr (o + 4) (by omega) (by omega) (by omega) (by omega)).trans m3), (by rw [win_ext (fun j hj => off (4 + j) (by omega))]; exact (fr (o + 5) (by omega) (by omega) (by omega) (by omega)).trans m4), (fr (o + 6) (by omega) (by omega) (by omega) (by omega)).trans m5, w0, (by rw [hcb]; exact w1), (fr (o + 9) (by omega) (by omega) (by omega) (by omega)).trans m8, (by rw [off 15 (by omega)]; exact (fr (o + 10) (by omega) (by omega) (by omega) (by omega)).trans m9), (fr (o + 11) (by omega) (by omega) (by omega) (by omega)).trans m10, (by rw [off 12 (by omega)]; exact (fr (o + 12) (by omega) (by omega) (by omega) (by omega)).trans m11), (fr (o + 13) (by omega) (by omega) (by omega) (by omega)).trans m12, (by rw [off 11 (by omega)]; exact (CsO.mono zr hCs).row (fun q h1 h2 => off q (by omega)) h11.2), CsA.mono zr hCA, g5.row (fun u hu => ⟨hcu u hu, fun j hj => rfl⟩), (fun j hj => g3 j (by rw [hcb] at hj; exact hj)), (fun j hj => by rw [off 15 (by omega)] at hj; exact (hWt j hj).trans (off (70 + j) (by omega)).symm), (fun j hj => by rw [off 12 (by omega)] at hj; exact (hBx j hj).trans (off (40 + j) (by omega)).symm), ⟨lnOk_c hln (off 1 (by omega)), (by rw [off 11 (by omega)]; exact h11), (by rw [off 12 (by omega)]; exact h12), (by rw [hcb]; exact ⟨g1, g2⟩), (by rw [off 15 (by omega)]; exact h15), (fun u hu => by rw [hcu u hu]; exact g4 u hu), (fun c hc => by rw [off 11 (by omega)] at hc; rw [off (20 + 2 * c) (by omega)]; exact hkd c hc), (by unfold wfS; rw [off 4 (by omega), off 5 (by omega), off 6 (by omega)]; exact hS), (fun c hc => by rw [off (100 + c) (by omega), off (140 + c) (by omega)]; exact hC c hc), (fun b hb => by rw [off 12 (by omega)] at hb; rw [off (40 + 3 * b) (by omega), off (40 + 3 * b + 2) (by omega)]; exact hbr b hb)⟩⟩, ⟨zkq, HQ.same (fun zq z1 z2 => fr zq (by omega) (by omega) (by omega) (by omega)) zr, hkq⟩, HA.same (fun zq z1 z2 => fr zq (by omega) (by omega) (by omega) (by omega)), (fr (o + 33) (by omega) (by omega) (by omega) (by omega)).trans k33, HS.same (fun zq z1 z2 => fr zq (by omega) (by omega) (by omega) (by omega)), (fr (o + 42) (by omega) (by omega) (by omega) (by omega)).trans k42, HG.same (fun zq z1 z2 => fr zq (by omega) (by omega) (by omega) (by omega)), HR.same (fun zq z1 z2 => fr zq (by omega) (by omega) (by omega) (by omega)), ⟨_, (fr (o + 59) (by omega) (by omega) (by omega) (by omega)).trans k59⟩, (fr (o + 60) (by omega) (by omega) (by omega) (by omega)).trans k60, w2, htn⟩, fun zq z1 z2 => fr zq (by omega) (by omega) (by omega) (by omega)⟩
theorem k_freezes {κ : Wc} {l : Launch} {o n : Nat} {d : Nat → Int32} {kp : Nat → Int32} {im : Int32} {fo : Nat → Int32} {tr : Nat → Int32} {tn : Nat} {bi : Nat → Int32} {ss : Nat → Nat} {nu : Nat → Int32} {c : Int32} {b : Int32} {w : Int32} {s : Int32} {h : Mm} (H : CI κ o h d kp im fo tr tn bi ss nu) : Con κ l yX11_freezes cX11_freezes 7 (some .int) 8 0 0 [.ref o, .int c, .int b, .int w, .int s] h n (fun q h' n' => q = some (.int (ansOf (opFreezes (Tx d) ((fun u => cN (d (60 + u)))) d (lnO d) (cN (d 11)) c b w s))) ∧ n ≤ n' ∧ CI κ o h' d kp im (bump (opFreezes (Tx d) ((fun u => cN (d (60 + u)))) d (lnO d) (cN (d 11)) c b w s) fo) tr tn bi ss nu ∧ ∀ zq, o + 62 ≤ zq → zq < o + 76 → h' zq = h zq) := by
  obtain ⟨k0, HK, ⟨zkq, HQ, hkq⟩, HA, k33, HS, k42, HG, HR, ⟨zbt, k59⟩, k60, k61, htn⟩ := H
  have HK0 := HK
  have HA0 := HA
  have HR0 := HR
  obtain ⟨zcold, zwind, zcs, zts, ztp, zwt, zbx, m0, m1, m2, m3, m4, m5, m6, m7, m8, m9, m10, m11, m12, hCs, hCA, hTs, hTp, hWt, hBx, hwd⟩ := HK0
  have hwd0 := hwd
  obtain ⟨hln, h11, h12, h14, h15, h60, hkd, hS, hC, hbr⟩ := hwd0
  obtain ⟨zx1, zx2, zx3, zx4, zx5, zx6, zx7, zx8, zf1, zf2, zf3, zc1, zt1, a0, a1, a2, a3, a4, a5⟩ := HA0
  obtain ⟨zr1, zb1, zg1, zr2, zb2, zg2, n0, n1, n2, n3⟩ := HR0
  refine Con.imp (p_freezes (κ := κ) (n := n) (o := o) (im := im) (d := d) (len := lnO d) (nc := cN (d 11)) (cold := zcold) (wind := zwind) (cs := zcs) (ts := zts) (fo := fo) (c := c) (b := b) (w := w) (s := s) (tx := (fun u => cN (d (60 + u)))) k0 m0 m1 m2 m4 m5 m6 k61 (hln.1) (hln.2.1) (hln.2.2) (h11.1) (h11.2) (hTs) (hCs) (hS)) (fun q h' n' hp => ?_)
  obtain ⟨cold_, wind_, rfl, hn, fr, zr, w0, w1⟩ := hp
  exact ⟨rfl, by omega, ⟨(fr o (by omega) (by omega) (by omega)).trans k0, ⟨cold_, wind_, zcs, zts, ztp, zwt, zbx, (fr (o + 1) (by omega) (by omega) (by omega)).trans m0, w0, (fr (o + 3) (by omega) (by omega) (by omega)).trans m2, (fr (o + 4) (by omega) (by omega) (by omega)).trans m3, (fr (o + 5) (by omega) (by omega) (by omega)).trans m4, (fr (o + 6) (by omega) (by omega) (by omega)).trans m5, (fr (o + 7) (by omega) (by omega) (by omega)).trans m6, (fr (o + 8) (by omega) (by omega) (by omega)).trans m7, (fr (o + 9) (by omega) (by omega) (by omega)).trans m8, (fr (o + 10) (by omega) (by omega) (by omega)).trans m9, (fr (o + 11) (by omega) (by omega) (by omega)).trans m10, (fr (o + 12) (by omega) (by omega) (by omega)).trans m11, (fr (o + 13) (by omega) (by omega) (by omega)).trans m12, CsO.mono zr hCs, CsA.mono zr hCA, TsO.mono zr hTs, hTp, hWt, hBx, hwd⟩, ⟨zkq, HQ.same (fun zq z1 z2 => fr zq (by omega) (by omega) (by omega)) zr, hkq⟩, HA.same (fun zq z1 z2 => fr zq (by omega) (by omega) (by omega)), (fr (o + 33) (by omega) (by omega) (by omega)).trans k33, HS.same (fun zq z1 z2 => fr zq (by omega) (by omega) (by omega)), (fr (o + 42) (by omega) (by omega) (by omega)).trans k42, HG.same (fun zq z1 z2 => fr zq (by omega) (by omega) (by omega)), HR.same (fun zq z1 z2 => fr zq (by omega) (by omega) (by omega)), ⟨_, (fr (o + 59) (by omega) (by omega) (by omega)).trans k59⟩, (fr (o + 60) (by omega) (by omega) (by omega)).trans k60, w1, htn⟩, fun zq z1 z2 => fr zq (by omega) (by omega) (by omega)⟩
theorem k_voice {κ : Wc} {l : Launch} {o n : Nat} {d : Nat → Int32} {kp : Nat → Int32} {im : Int32} {fo : Nat → Int32} {tr : Nat → Int32} {tn : Nat} {bi : Nat → Int32} {ss : Nat → Nat} {nu : Nat → Int32} {c : Int32} {a : Int32} {x : Int32} {h : Mm} (H : CI κ o h d kp im fo tr tn bi ss nu) : Con κ l yX11_voice cX11_voice 5 (some .int) 20 0 0 [.ref o, .int c, .int a, .int x] h n (fun q h' n' => q = some (.int (ansOf (opVoice d ((fun c => cN (d (20 + 2 * c)))) (cN (d 11)) c a x))) ∧ n ≤ n' ∧ CI κ o h' d kp im (bump (opVoice d ((fun c => cN (d (20 + 2 * c)))) (cN (d 11)) c a x) fo) (trVoice tr ((fun c => cN (d (20 + 2 * c)))) (cN (d 11)) c a) (tnVoice ((fun c => cN (d (20 + 2 * c)))) (cN (d 11)) tn c a) bi ss nu ∧ ∀ zq, o + 62 ≤ zq → zq < o + 76 → h' zq = h zq) := by
  obtain ⟨k0, HK, ⟨zkq, HQ, hkq⟩, HA, k33, HS, k42, HG, HR, ⟨zbt, k59⟩, k60, k61, htn⟩ := H
  have HK0 := HK
  have HA0 := HA
  have HR0 := HR
  obtain ⟨zcold, zwind, zcs, zts, ztp, zwt, zbx, m0, m1, m2, m3, m4, m5, m6, m7, m8, m9, m10, m11, m12, hCs, hCA, hTs, hTp, hWt, hBx, hwd⟩ := HK0
  have hwd0 := hwd
  obtain ⟨hln, h11, h12, h14, h15, h60, hkd, hS, hC, hbr⟩ := hwd0
  obtain ⟨zx1, zx2, zx3, zx4, zx5, zx6, zx7, zx8, zf1, zf2, zf3, zc1, zt1, a0, a1, a2, a3, a4, a5⟩ := HA0
  obtain ⟨zr1, zb1, zg1, zr2, zb2, zg2, n0, n1, n2, n3⟩ := HR0
  refine Con.imp (p_voice (κ := κ) (n := n) (o := o) (im := im) (d := d) (len := lnO d) (nc := cN (d 11)) (cold := zcold) (wind := zwind) (cs := zcs) (tn := tn) (bt3 := zbt) (tr := tr) (fo := fo) (c := c) (a := a) (x := x) (kd := (fun c => cN (d (20 + 2 * c)))) k0 m0 m1 m5 k59 k60 k61 (h11.1) (h11.2) (hCs) (hkd)) (fun q h' n' hp => ?_)
  obtain ⟨rfl, hn, fr, zr, w0, w1, w2⟩ := hp
  exact ⟨rfl, by omega, ⟨(fr o (by omega) (by omega) (by omega) (by omega)).trans k0, HK.same (fun zq z1 z2 => fr zq (by omega) (by omega) (by omega) (by omega)) zr, ⟨zkq, HQ.same (fun zq z1 z2 => fr zq (by omega) (by omega) (by omega) (by omega)) zr, hkq⟩, HA.same (fun zq z1 z2 => fr zq (by omega) (by omega) (by omega) (by omega)), (fr (o + 33) (by omega) (by omega) (by omega) (by omega)).trans k33, HS.same (fun zq z1 z2 => fr zq (by omega) (by omega) (by omega) (by omega)), (fr (o + 42) (by omega) (by omega) (by omega) (by omega)).trans k42, HG.same (fun zq z1 z2 => fr zq (by omega) (by omega) (by omega) (by omega)), HR.same (fun zq z1 z2 => fr zq (by omega) (by omega) (by omega) (by omega)), ⟨_, w0⟩, w1, w2, tnVoice_le (fun c hc => (hkd c hc).2) h11.2 htn⟩, fun zq z1 z2 => fr zq (by omega) (by omega) (by omega) (by omega)⟩
