/-- the law's script, read from the walk -/
def Scr (κ : Wc) (G : Gm) (b L : Nat) (xs : Nat → Int32) : Prop := match G with
  | (_, _, _, _, s, _, _, _, _, _, _) => va_X b L xs s s.heap ∧ b < s.heap.size ∧ ¬ wB κ ≤ b
section ZS
variable {κ : Wc} {G : Gm} {cc : ByteArray} {nL d mc ms : Nat} {own : String} {pc : Nat} {ls : Lc} {st : List Value} {h : Mm} {n ca sl : Nat}
theorem z_sld (X : Ok κ G cc nL own d mc ms) {b L : Nat} {xs : Nat → Int32} (hs : Scr κ G b L xs) {i : Int32} {v : Int32} (hd : decode cc pc = .ok (.iaload, 1)) (hi : vp_in i L) (hv : xs i.toNatClampNeg = v) (k : Z κ G nL (pc + 1) ls (.int v :: st) h n ca sl) : Z κ G nL pc ls (.int i :: .ref b :: st) h n ca sl := by
  subst hv
  obtain ⟨p, l, e, R, s, m, args, below, meth, c, Q⟩ := G
  obtain ⟨hx, hb, hml, hown, hts, hK, hB, hR1, hR2, hR3, hR4⟩ := X
  intro H locs la hF hS hl
  exact va_sld hx hb hs.1 hs.2.1 hs.2.2 hS hi hd (k H locs la hF hS hl)
theorem z_slen (X : Ok κ G cc nL own d mc ms) {b L : Nat} {xs : Nat → Int32} (hs : Scr κ G b L xs) (hd : decode cc pc = .ok (.arraylength, 1)) (k : Z κ G nL (pc + 1) ls (.int (nI L) :: st) h n ca sl) : Z κ G nL pc ls (.ref b :: st) h n ca sl := by
  obtain ⟨p, l, e, R, s, m, args, below, meth, c, Q⟩ := G
  obtain ⟨hx, hb, hml, hown, hts, hK, hB, hR1, hR2, hR3, hR4⟩ := X
  intro H locs la hF hS hl
  exact va_slen hx hb hs.1 hs.2.1 hs.2.2 hS hd (k H locs la hF hS hl)
end ZS
theorem RI_ini {κ : Wc} {o : Nat} {h : Mm} (K0 : h o = some (.inr (12, [.ref (o + 1), .ref (o + 2), .ref (o + 3), .int 0, .ref (o + 4), .int 0, .int 0, .int 0, .int 0, .int 0, .ref (o + 5), .ref (o + 6), .int 0, .ref (o + 7), .ref (o + 8), .int 0, .ref (o + 9), .int 0, .int 0, .ref (o + 10), .ref (o + 11), .ref (o + 12), .ref (o + 13)]))) (K1 : h (o + 1) = arI κ 340 dIni) (K2 : h (o + 2) = arI κ 340 (fun _ => 0)) (K3 : h (o + 3) = arI κ 340 (fun _ => 0)) (K4 : h (o + 4) = arI κ 6 (fun _ => 0)) (K5 : h (o + 5) = arI κ 3 (fun _ => 0)) (K6 : h (o + 6) = arI κ 40 (fun _ => 0)) (K7 : h (o + 7) = arI κ 6 (fun _ => 0)) (K8 : h (o + 8) = arI κ 240 (fun _ => 0)) (K9 : h (o + 9) = arI κ 40 (fun _ => 0)) (K10 : h (o + 10) = arI κ 4 (fun _ => 0)) (K11 : h (o + 11) = arI κ 4 (fun _ => 0)) (K12 : h (o + 12) = arI κ 160 (fun _ => 0)) (K13 : h (o + 13) = arI κ 40 (fun _ => 0)) : RI κ o h dIni z32 0 z32 z32 0 z32 z0n z32 := ⟨_, _, _, _, _, _, _, _, _, _, _, _, _, _, _, K0, K1, K2, K3, K4, K5, K6, K7, K8, K9, K10, K11, K12, K13, fun k hk => ⟨rfl, Nat.zero_le 40⟩⟩
