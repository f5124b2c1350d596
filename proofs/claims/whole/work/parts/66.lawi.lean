theorem cpy_in {f g : Nat → Int32} {n j : Nat} (h : j < n) : va_cpy f g 0 0 n j = f j := by
  unfold va_cpy
  rw [if_pos (by omega)]
  exact congrArg f (by omega)
theorem k_image {κ : Wc} {l : Launch} {o n : Nat} {d : Nat → Int32} {kp : Nat → Int32} {im : Int32} {fo : Nat → Int32} {tr : Nat → Int32} {tn : Nat} {bi : Nat → Int32} {ss : Nat → Nat} {nu : Nat → Int32}  {h : Mm} (H : CI κ o h d kp im fo tr tn bi ss nu) : Con κ l yX11_image cX11_image 1 (some .int) 6 0 0 [.ref o] h n (fun q h' n' => q = some (.int (im + 1)) ∧ n ≤ n' ∧ CI κ o h' d d (im + 1) fo tr tn bi ss nu ∧ ∀ zq, o + 62 ≤ zq → zq < o + 76 → h' zq = h zq) := by
  obtain ⟨k0, HK, ⟨zkq, HQ, hkq⟩, HA, k33, HS, k42, HG, HR, ⟨zbt, k59⟩, k60, k61, htn⟩ := H
  have HK0 := HK
  have HA0 := HA
  have HR0 := HR
  obtain ⟨zcold, zwind, zcs, zts, ztp, zwt, zbx, m0, m1, m2, m3, m4, m5, m6, m7, m8, m9, m10, m11, m12, hCs, hCA, hTs, hTp, hWt, hBx, hwd⟩ := HK0
  have hwd0 := hwd
  obtain ⟨hln, h11, h12, h14, h15, h60, hkd, hS, hC, hbr⟩ := hwd0
  obtain ⟨zx1, zx2, zx3, zx4, zx5, zx6, zx7, zx8, zf1, zf2, zf3, zc1, zt1, a0, a1, a2, a3, a4, a5⟩ := HA0
  obtain ⟨zr1, zb1, zg1, zr2, zb2, zg2, n0, n1, n2, n3⟩ := HR0
  have HQ0 := HQ
  obtain ⟨ycold, ywind, ycs, yts, ytp, ywt, ybx, v0, v1, v2, v3, v4, v5, v6, v7, v8, v9, v10, v11, v12, yCs, yCA, yTs, yTp, yWt, yBx, ywd⟩ := HQ0
  have ywd0 := ywd
  obtain ⟨yln, y11, y12, y14, y15, y60, ykd, yS, yC, ybr⟩ := ywd0
  refine Con.imp (p_image (κ := κ) (n := n) (o := o) (im := im) (d := d) (len := lnO d) (nc := cN (d 11)) (cold := zcold) (wind := zwind) (cs := zcs) (ts := zts) (nt := cN (d 14)) (tp := ztp) (nw := cN (d 15)) (wt := zwt) (nb := cN (d 12)) (bx := zbx) (tx := (fun u => cN (d (60 + u)))) (z2 := zkq 13) (len2 := nI (lnO zkq)) (now2 := zkq 0) (dd2 := zkq 2) (dr2 := zkq 3) (cc2 := nI (cN (zkq 11))) (on2 := zkq 10) (cold2 := ycold) (wind2 := ywind) (f12 := win 100 40 zkq) (f22 := win 140 40 zkq) (f32 := win 4 6 zkq) (tp2 := ytp) (wt2 := ywt) (bx2 := ybx) (c12 := ycs) (t12 := yts) (nt2 := cN (zkq 14)) (nw2 := cN (zkq 15)) (nx2 := 3 * cN (zkq 12)) k0 m0 m1 m2 m3 m4 m5 m6 m7 m8 m9 m10 m11 m12 v0 v1 v2 v3 v4 v5 v6 v7 v8 v9 v10 v11 v12 (hTs) (hCA) (h14.2) (h15.2) (h12.2) (y14.2) (y15.2) ((by have := y12.2; omega))) (fun q h' n' hp => ?_)
  obtain ⟨rfl, hn, fr, zr, w0, w1, w2, w3, w4, w5, w6, w7, w8, w9, w10, w11, w12, w13⟩ := hp
  exact ⟨rfl, by omega, ⟨w0, HK.same (fun zq z1 z2 => fr zq (by omega) (by omega) (by omega) (by omega) (by omega) (by omega) (by omega) (by omega) (by omega) (by omega) (by omega) (by omega) (by omega) (by omega) (by omega)) zr, ⟨d, ⟨_, _, zcs, zts, _, _, _, w1, w2, w3, w4, w5, w6, w7, w8, w9, w10, w11, w12, w13, CsO.mono zr hCs, CsA.mono zr hCA, TsO.mono zr hTs, fun j hj => (cpy_in hj).trans (hTp j hj), fun j hj => (cpy_in hj).trans (hWt j hj), fun j hj => (cpy_in hj).trans (hBx j hj), hwd⟩, fun _ => rfl⟩, HA.same (fun zq z1 z2 => fr zq (by omega) (by omega) (by omega) (by omega) (by omega) (by omega) (by omega) (by omega) (by omega) (by omega) (by omega) (by omega) (by omega) (by omega) (by omega)), (fr (o + 33) (by omega) (by omega) (by omega) (by omega) (by omega) (by omega) (by omega) (by omega) (by omega) (by omega) (by omega) (by omega) (by omega) (by omega) (by omega)).trans k33, HS.same (fun zq z1 z2 => fr zq (by omega) (by omega) (by omega) (by omega) (by omega) (by omega) (by omega) (by omega) (by omega) (by omega) (by omega) (by omega) (by omega) (by omega) (by omega)), (fr (o + 42) (by omega) (by omega) (by omega) (by omega) (by omega) (by omega) (by omega) (by omega) (by omega) (by omega) (by omega) (by omega) (by omega) (by omega) (by omega)).trans k42, HG.same (fun zq z1 z2 => fr zq (by omega) (by omega) (by omega) (by omega) (by omega) (by omega) (by omega) (by omega) (by omega) (by omega) (by omega) (by omega) (by omega) (by omega) (by omega)), HR.same (fun zq z1 z2 => fr zq (by omega) (by omega) (by omega) (by omega) (by omega) (by omega) (by omega) (by omega) (by omega) (by omega) (by omega) (by omega) (by omega) (by omega) (by omega)), ⟨_, (fr (o + 59) (by omega) (by omega) (by omega) (by omega) (by omega) (by omega) (by omega) (by omega) (by omega) (by omega) (by omega) (by omega) (by omega) (by omega) (by omega)).trans k59⟩, (fr (o + 60) (by omega) (by omega) (by omega) (by omega) (by omega) (by omega) (by omega) (by omega) (by omega) (by omega) (by omega) (by omega) (by omega) (by omega) (by omega)).trans k60, (fr (o + 61) (by omega) (by omega) (by omega) (by omega) (by omega) (by omega) (by omega) (by omega) (by omega) (by omega) (by omega) (by omega) (by omega) (by omega) (by omega)).trans k61, htn⟩, fun zq z1 z2 => fr zq (by omega) (by omega) (by omega) (by omega) (by omega) (by omega) (by omega) (by omega) (by omega) (by omega) (by omega) (by omega) (by omega) (by omega) (by omega)⟩
theorem k_restore_y {κ : Wc} {l : Launch} {o n : Nat} {d : Nat → Int32} {kp : Nat → Int32} {im : Int32} {fo : Nat → Int32} {tr : Nat → Int32} {tn : Nat} {bi : Nat → Int32} {ss : Nat → Nat} {nu : Nat → Int32}  {h : Mm} (H : CI κ o h d kp im fo tr tn bi ss nu) (him : ¬ im.toInt = 0) : Con κ l yX11_restore cX11_restore 1 (some .int) 6 0 0 [.ref o] h n (fun q h' n' => q = some (.int (kp 0)) ∧ n ≤ n' ∧ CI κ o h' kp kp im fo tr tn bi ss nu ∧ ∀ zq, o + 62 ≤ zq → zq < o + 76 → h' zq = h zq) := by
  obtain ⟨k0, HK, ⟨zkq, HQ, hkq⟩, HA, k33, HS, k42, HG, HR, ⟨zbt, k59⟩, k60, k61, htn⟩ := H
  have HK0 := HK
  have HA0 := HA
  have HR0 := HR
  obtain ⟨zcold, zwind, zcs, zts, ztp, zwt, zbx, m0, m1, m2, m3, m4, m5, m6, m7, m8, m9, m10, m11, m12, hCs, hCA, hTs, hTp, hWt, hBx, hwd⟩ := HK0
  have hwd0 := hwd
  obtain ⟨hln, h11, h12, h14, h15, h60, hkd, hS, hC, hbr⟩ := hwd0
  obtain ⟨zx1, zx2, zx3, zx4, zx5, zx6, zx7, zx8, zf1, zf2, zf3, zc1, zt1, a0, a1, a2, a3, a4, a5⟩ := HA0
  obtain ⟨zr1, zb1, zg1, zr2, zb2, zg2, n0, n1, n2, n3⟩ := HR0
  have hqq := (hkq him).symm
  subst hqq
  have HQ0 := HQ
  obtain ⟨ycold, ywind, ycs, yts, ytp, ywt, ybx, v0, v1, v2, v3, v4, v5, v6, v7, v8, v9, v10, v11, v12, yCs, yCA, yTs, yTp, yWt, yBx, ywd⟩ := HQ0
  have ywd0 := ywd
  obtain ⟨yln, y11, y12, y14, y15, y60, ykd, yS, yC, ybr⟩ := ywd0
  refine Con.imp (p_restore_y (κ := κ) (n := n) (o := o) (im := im) (d := d) (len := lnO d) (nc := cN (d 11)) (cold := zcold) (wind := zwind) (cs := zcs) (ts := zts) (nt := cN (d 14)) (tp := ztp) (nw := cN (d 15)) (wt := zwt) (nb := cN (d 12)) (bx := zbx) (tx := (fun u => cN (kp (60 + u)))) (kp := kp) (len2 := lnO kp) (nc2 := cN (kp 11)) (cold2 := ycold) (wind2 := ywind) (cs2 := ycs) (ts2 := yts) (nt2 := cN (kp 14)) (tp2 := ytp) (nw2 := cN (kp 15)) (wt2 := ywt) (nb2 := cN (kp 12)) (bx2 := ybx) k0 m0 m1 m2 m3 m4 m5 m6 m7 m8 m9 m10 m11 m12 v0 v1 v2 v3 v4 v5 v6 v7 v8 v9 v10 v11 v12 (yTs) (yCA) (h14.2) (h15.2) (h12.2) (y14.2) (y15.2) (y12.2) (him)) (fun q h' n' hp => ?_)
  obtain ⟨rfl, hn, fr, zr, w0, w1, w2, w3, w4, w5, w6, w7, w8, w9, w10, w11, w12⟩ := hp
  exact ⟨rfl, by omega, ⟨(fr o (by omega) (by omega) (by omega) (by omega) (by omega) (by omega) (by omega) (by omega) (by omega) (by omega) (by omega) (by omega) (by omega) (by omega)).trans k0, ⟨_, _, ycs, yts, _, _, _, w0, w1, w2, w3, w4, w5, w6, w7, w8, w9, w10, w11, w12, CsO.mono zr yCs, CsA.mono zr yCA, TsO.mono zr yTs, fun j hj => (cpy_in hj).trans (yTp j hj), fun j hj => (cpy_in hj).trans (yWt j hj), fun j hj => (cpy_in hj).trans (yBx j hj), ywd⟩, ⟨kp, HQ.same (fun zq z1 z2 => fr zq (by omega) (by omega) (by omega) (by omega) (by omega) (by omega) (by omega) (by omega) (by omega) (by omega) (by omega) (by omega) (by omega) (by omega)) zr, hkq⟩, HA.same (fun zq z1 z2 => fr zq (by omega) (by omega) (by omega) (by omega) (by omega) (by omega) (by omega) (by omega) (by omega) (by omega) (by omega) (by omega) (by omega) (by omega)), (fr (o + 33) (by omega) (by omega) (by omega) (by omega) (by omega) (by omega) (by omega) (by omega) (by omega) (by omega) (by omega) (by omega) (by omega) (by omega)).trans k33, HS.same (fun zq z1 z2 => fr zq (by omega) (by omega) (by omega) (by omega) (by omega) (by omega) (by omega) (by omega) (by omega) (by omega) (by omega) (by omega) (by omega) (by omega)), (fr (o + 42) (by omega) (by omega) (by omega) (by omega) (by omega) (by omega) (by omega) (by omega) (by omega) (by omega) (by omega) (by omega) (by omega) (by omega)).trans k42, HG.same (fun zq z1 z2 => fr zq (by omega) (by omega) (by omega) (by omega) (by omega) (by omega) (by omega) (by omega) (by omega) (by omega) (by omega) (by omega) (by omega) (by omega)), HR.same (fun zq z1 z2 => fr zq (by omega) (by omega) (by omega) (by omega) (by omega) (by omega) (by omega) (by omega) (by omega) (by omega) (by omega) (by omega) (by omega) (by omega)), ⟨_, (fr (o + 59) (by omega) (by omega) (by omega) (by omega) (by omega) (by omega) (by omega) (by omega) (by omega) (by omega) (by omega) (by omega) (by omega) (by omega)).trans k59⟩, (fr (o + 60) (by omega) (by omega) (by omega) (by omega) (by omega) (by omega) (by omega) (by omega) (by omega) (by omega) (by omega) (by omega) (by omega) (by omega)).trans k60, (fr (o + 61) (by omega) (by omega) (by omega) (by omega) (by omega) (by omega) (by omega) (by omega) (by omega) (by omega) (by omega) (by omega) (by omega) (by omega)).trans k61, htn⟩, fun zq z1 z2 => fr zq (by omega) (by omega) (by omega) (by omega) (by omega) (by omega) (by omega) (by omega) (by omega) (by omega) (by omega) (by omega) (by omega) (by omega)⟩
theorem k_restore_n {κ : Wc} {l : Launch} {o n : Nat} {d : Nat → Int32} {kp : Nat → Int32} {im : Int32} {fo : Nat → Int32} {tr : Nat → Int32} {tn : Nat} {bi : Nat → Int32} {ss : Nat → Nat} {nu : Nat → Int32}  {h : Mm} (H : CI κ o h d kp im fo tr tn bi ss nu) (him : im.toInt = 0) : Con κ l yX11_restore cX11_restore 1 (some .int) 6 0 0 [.ref o] h n (fun q h' n' => q = some (.int (ansOf (2, 0))) ∧ n ≤ n' ∧ CI κ o h' d kp im (bump (2, 0) fo) tr tn bi ss nu ∧ ∀ zq, o + 62 ≤ zq → zq < o + 76 → h' zq = h zq) := by
  obtain ⟨k0, HK, ⟨zkq, HQ, hkq⟩, HA, k33, HS, k42, HG, HR, ⟨zbt, k59⟩, k60, k61, htn⟩ := H
  have HK0 := HK
  have HA0 := HA
  have HR0 := HR
  obtain ⟨zcold, zwind, zcs, zts, ztp, zwt, zbx, m0, m1, m2, m3, m4, m5, m6, m7, m8, m9, m10, m11, m12, hCs, hCA, hTs, hTp, hWt, hBx, hwd⟩ := HK0
  have hwd0 := hwd
  obtain ⟨hln, h11, h12, h14, h15, h60, hkd, hS, hC, hbr⟩ := hwd0
  obtain ⟨zx1, zx2, zx3, zx4, zx5, zx6, zx7, zx8, zf1, zf2, zf3, zc1, zt1, a0, a1, a2, a3, a4, a5⟩ := HA0
  obtain ⟨zr1, zb1, zg1, zr2, zb2, zg2, n0, n1, n2, n3⟩ := HR0
  refine Con.imp (p_restore_n (κ := κ) (n := n) (o := o) (im := im) (fo := fo) k0 k61 (him)) (fun q h' n' hp => ?_)
  obtain ⟨rfl, hn, fr, zr, w0⟩ := hp
  exact ⟨rfl, by omega, ⟨(fr o (by omega) (by omega)).trans k0, HK.same (fun zq z1 z2 => fr zq (by omega) (by omega)) zr, ⟨zkq, HQ.same (fun zq z1 z2 => fr zq (by omega) (by omega)) zr, hkq⟩, HA.same (fun zq z1 z2 => fr zq (by omega) (by omega)), (fr (o + 33) (by omega) (by omega)).trans k33, HS.same (fun zq z1 z2 => fr zq (by omega) (by omega)), (fr (o + 42) (by omega) (by omega)).trans k42, HG.same (fun zq z1 z2 => fr zq (by omega) (by omega)), HR.same (fun zq z1 z2 => fr zq (by omega) (by omega)), ⟨_, (fr (o + 59) (by omega) (by omega)).trans k59⟩, (fr (o + 60) (by omega) (by omega)).trans k60, w0, htn⟩, fun zq z1 z2 => fr zq (by omega) (by omega)⟩
theorem k_restore {κ : Wc} {l : Launch} {o n : Nat} {d : Nat → Int32} {kp : Nat → Int32} {im : Int32} {fo : Nat → Int32} {tr : Nat → Int32} {tn : Nat} {bi : Nat → Int32} {ss : Nat → Nat} {nu : Nat → Int32} {h : Mm} (H : CI κ o h d kp im fo tr tn bi ss nu) : Con κ l yX11_restore cX11_restore 1 (some .int) 6 0 0 [.ref o] h n (fun q h' n' => q = some (.int (ansOf (opRestore kp im))) ∧ n ≤ n' ∧ CI κ o h' (dRestore d kp im) kp im (bump (opRestore kp im) fo) tr tn bi ss nu ∧ ∀ zq, o + 62 ≤ zq → zq < o + 76 → h' zq = h zq) := by
  by_cases him : im.toInt = 0
  · rw [show opRestore kp im = (2, 0) from if_pos him, show dRestore d kp im = d from if_pos him]
    exact k_restore_n H him
  · rw [show opRestore kp im = (0, kp 0) from if_neg him, show dRestore d kp im = kp from if_neg him, ansOf_0, bump_0]
    exact k_restore_y H him
theorem q_text {κ : Wc} {l : Launch} {o n : Nat} {d : Nat → Int32} {kp : Nat → Int32} {im : Int32} {fo : Nat → Int32} {tr : Nat → Int32} {tn : Nat} {bi : Nat → Int32} {ss : Nat → Nat} {nu : Nat → Int32} {u : Int32} {h : Mm} (H : RI κ o h d kp im fo tr tn bi ss nu) (hwd : WD d) {nm : Nat → Int32} (hnm : h (o + 5) = arI κ 3 nm) : Con κ l yX12_text cX12_text 5 (some .int) 40 0 0 [.ref o, .int u] h n (fun q h' n' => q = some (.int (ansOf (opText d (cN (d 14)) nm u))) ∧ n' = n ∧ RI κ o h' (dText d (cN (d 14)) nm u) kp im (bump (opText d (cN (d 14)) nm u) fo) tr tn bi ss nu ∧ ∀ zq, zq < o ∨ o + 14 ≤ zq → h' zq = h zq) := by
  obtain ⟨zba, zat, zsz, zfa, zop, zrm, zti, zwh, ze, znm, zrg, zlo, zwd, zsi, zli, r0, r1, r2, r3, r4, r5, r6, r7, r8, r9, r10, r11, r12, r13, hsi⟩ := H
  obtain ⟨hln, h11, h12, h14, h15, h60, hkd, hS, hC, hbr⟩ := hwd
  have hz : nm = znm := by have e := hnm.symm.trans r5; simp only [Option.some.injEq, Sum.inl.injEq, Prod.mk.injEq, true_and] at e; exact e
  subst hz
  refine Con.imp (r_text (κ := κ) (n := n) (o := o) (fo := fo) (d := d) (nm := nm) (nt := cN (d 14)) (u := u) (im := im) (ba := zba) (at_ := zat) (sz := zsz) (fa := zfa) (op := zop) (rm := zrm) (ti := zti) (tm := nI tn) (wh := zwh) r0 r4 r1 r5 (h14.1) (h14.2)) (fun q h' n' hp => ?_)
  obtain ⟨ba_, at_, sz_, fa_, op_, nm_, rfl, eq, hn⟩ := hp
  have c0 : h' o = some (.inr (12, [.ref (o + 1), .ref (o + 2), .ref (o + 3), .int im, .ref (o + 4), .int ba_, .int at_, .int sz_, .int fa_, .int op_, .ref (o + 5), .ref (o + 6), .int zrm, .ref (o + 7), .ref (o + 8), .int zti, .ref (o + 9), .int (nI tn), .int zwh, .ref (o + 10), .ref (o + 11), .ref (o + 12), .ref (o + 13)])) := by rw [eq, va_up_ne _ _ (show o ≠ o + 4 by omega), va_up_ne _ _ (show o ≠ o + 1 by omega), va_up_ne _ _ (show o ≠ o + 5 by omega)]; exact va_up_self _ _ _
  have c1 : h' (o + 1) = arI κ 340 (dText d (cN (d 14)) nm u) := by rw [eq, va_up_ne _ _ (show o + 1 ≠ o + 4 by omega)]; exact va_up_self _ _ _
  have c2 : h' (o + 2) = arI κ 340 ze := by rw [eq, va_up_ne _ _ (show o + 2 ≠ o + 4 by omega), va_up_ne _ _ (show o + 2 ≠ o + 1 by omega), va_up_ne _ _ (show o + 2 ≠ o + 5 by omega), va_up_ne _ _ (show o + 2 ≠ o by omega)]; exact r2
  have c3 : h' (o + 3) = arI κ 340 kp := by rw [eq, va_up_ne _ _ (show o + 3 ≠ o + 4 by omega), va_up_ne _ _ (show o + 3 ≠ o + 1 by omega), va_up_ne _ _ (show o + 3 ≠ o + 5 by omega), va_up_ne _ _ (show o + 3 ≠ o by omega)]; exact r3
  have c4 : h' (o + 4) = arI κ 6 (bump (opText d (cN (d 14)) nm u) fo) := by rw [eq]; exact va_up_self _ _ _
  have c5 : h' (o + 5) = arI κ 3 nm_ := by rw [eq, va_up_ne _ _ (show o + 5 ≠ o + 4 by omega), va_up_ne _ _ (show o + 5 ≠ o + 1 by omega)]; exact va_up_self _ _ _
  have c6 : h' (o + 6) = arI κ 40 zrg := by rw [eq, va_up_ne _ _ (show o + 6 ≠ o + 4 by omega), va_up_ne _ _ (show o + 6 ≠ o + 1 by omega), va_up_ne _ _ (show o + 6 ≠ o + 5 by omega), va_up_ne _ _ (show o + 6 ≠ o by omega)]; exact r6
  have c7 : h' (o + 7) = arI κ 6 zlo := by rw [eq, va_up_ne _ _ (show o + 7 ≠ o + 4 by omega), va_up_ne _ _ (show o + 7 ≠ o + 1 by omega), va_up_ne _ _ (show o + 7 ≠ o + 5 by omega), va_up_ne _ _ (show o + 7 ≠ o by omega)]; exact r7
  have c8 : h' (o + 8) = arI κ 240 zwd := by rw [eq, va_up_ne _ _ (show o + 8 ≠ o + 4 by omega), va_up_ne _ _ (show o + 8 ≠ o + 1 by omega), va_up_ne _ _ (show o + 8 ≠ o + 5 by omega), va_up_ne _ _ (show o + 8 ≠ o by omega)]; exact r8
  have c9 : h' (o + 9) = arI κ 40 tr := by rw [eq, va_up_ne _ _ (show o + 9 ≠ o + 4 by omega), va_up_ne _ _ (show o + 9 ≠ o + 1 by omega), va_up_ne _ _ (show o + 9 ≠ o + 5 by omega), va_up_ne _ _ (show o + 9 ≠ o by omega)]; exact r9
  have c10 : h' (o + 10) = arI κ 4 bi := by rw [eq, va_up_ne _ _ (show o + 10 ≠ o + 4 by omega), va_up_ne _ _ (show o + 10 ≠ o + 1 by omega), va_up_ne _ _ (show o + 10 ≠ o + 5 by omega), va_up_ne _ _ (show o + 10 ≠ o by omega)]; exact r10
  have c11 : h' (o + 11) = arI κ 4 zsi := by rw [eq, va_up_ne _ _ (show o + 11 ≠ o + 4 by omega), va_up_ne _ _ (show o + 11 ≠ o + 1 by omega), va_up_ne _ _ (show o + 11 ≠ o + 5 by omega), va_up_ne _ _ (show o + 11 ≠ o by omega)]; exact r11
  have c12 : h' (o + 12) = arI κ 160 nu := by rw [eq, va_up_ne _ _ (show o + 12 ≠ o + 4 by omega), va_up_ne _ _ (show o + 12 ≠ o + 1 by omega), va_up_ne _ _ (show o + 12 ≠ o + 5 by omega), va_up_ne _ _ (show o + 12 ≠ o by omega)]; exact r12
  have c13 : h' (o + 13) = arI κ 40 zli := by rw [eq, va_up_ne _ _ (show o + 13 ≠ o + 4 by omega), va_up_ne _ _ (show o + 13 ≠ o + 1 by omega), va_up_ne _ _ (show o + 13 ≠ o + 5 by omega), va_up_ne _ _ (show o + 13 ≠ o by omega)]; exact r13
  exact ⟨rfl, hn, ⟨_, _, _, _, _, _, _, _, _, _, _, _, _, _, _, c0, c1, c2, c3, c4, c5, c6, c7, c8, c9, c10, c11, c12, c13, hsi⟩, fun zq z1 => by rw [eq, va_up_ne _ _ (show zq ≠ o + 4 by omega), va_up_ne _ _ (show zq ≠ o + 1 by omega), va_up_ne _ _ (show zq ≠ o + 5 by omega), va_up_ne _ _ (show zq ≠ o by omega)]⟩
theorem dIni_off {q : Nat} (h : q ≠ 1 ∧ q ≠ 100 ∧ q ≠ 4 ∧ q ≠ 6 ∧ q ≠ 8 ∧ q ≠ 9 ∧ q ≠ 13) : dIni q = 0 := by
  unfold dIni
  rw [pk_un (by omega), pk_un (by omega), pk_un (by omega), pk_un (by omega), pk_un (by omega), pk_un (by omega), pk_un (by omega)]
theorem WD_ini : WD dIni := by
  refine ⟨⟨rfl, by decide, by decide⟩, ⟨rfl, by decide⟩, ⟨rfl, by decide⟩, ⟨rfl, by decide⟩, ⟨rfl, by decide⟩, fun u hu => ?_, fun c hc => ?_, ?_, fun c hc => ?_, fun b hb => ?_⟩
  · rw [dIni_off (by omega)]
    exact ⟨rfl, by decide⟩
  · exact absurd hc (by rw [show cN (dIni 11) = 0 from rfl]; omega)
  · unfold wfS
    decide
  · rw [dIni_off (q := 140 + c) (by omega)]
    by_cases e : c = 0
    · subst e
      decide
    · rw [dIni_off (by omega)]
      decide
  · exact absurd hb (by rw [show cN (dIni 12) = 0 from rfl]; omega)
theorem KI_ini {κ : Wc} {zb k : Nat} {h : Mm} (k0 : h k = some (.inr (3, [.ref (k + 1), .ref (k + 7), .ref (k + 9), .ref (k + 11), .int (dIni 13)]))) (k1 : h (k + 1) = some (.inr (2, [.ref (k + 2), .ref (k + 3), .ref (k + 4), .ref (k + 5), .ref (k + 6), .int (nI 1), .int (dIni 0), .int (dIni 2), .int (dIni 3), .int (nI 0), .int (dIni 10), .int 0, .int 0]))) (k2 : h (k + 2) = arI κ 40 (win 100 40 dIni)) (k3 : h (k + 3) = arI κ 40 (win 140 40 dIni)) (k4 : h (k + 4) = arI κ 6 (win 4 6 dIni)) (k5 : h (k + 5) = arR κ 1 6 (fun _ => none)) (k6 : h (k + 6) = arR κ 2 2 (fun _ => none)) (k7 : h (k + 7) = some (.inr (6, [.ref (k + 7 + 1), .int (nI 0), .int 32]))) (k8 : h (k + 8) = arI κ 50 (fun _ => 0)) (k9 : h (k + 9) = some (.inr (6, [.ref (k + 9 + 1), .int (nI 0), .int 32]))) (k10 : h (k + 10) = arI κ 20 (fun _ => 0)) (k11 : h (k + 11) = some (.inr (6, [.ref (k + 11 + 1), .int (nI (3 * 0)), .int 32]))) (k12 : h (k + 12) = arI κ 15 (fun _ => 0)) : KI κ zb k h dIni := by
  refine ⟨0, 0, fun _ => none, fun _ => none, fun _ => 0, fun _ => 0, fun _ => 0, k0, k1, k2, k3, k4, k5, k6, k7, k8, k9, k10, k11, k12, fun c hc => ?_, fun c hc => Or.inl rfl, fun u hu => Or.inl ⟨?_, rfl⟩, fun j hj => ?_, fun j hj => ?_, fun j hj => ?_, WD_ini⟩
  · exact absurd hc (by rw [show cN (dIni 11) = 0 from rfl]; omega)
  · show cN (dIni (60 + u)) = 0
    rw [dIni_off (by omega)]
    rfl
  · exact absurd hj (by rw [show cN (dIni 14) = 0 from rfl]; omega)
  · exact absurd hj (by rw [show cN (dIni 15) = 0 from rfl]; omega)
  · exact absurd hj (by rw [show cN (dIni 12) = 0 from rfl]; omega)
def z32 : Nat → Int32 := fun _ => 0
def z0n : Nat → Nat := fun _ => 0
theorem CI_ini {κ : Wc} {o : Nat} {h : Mm} (K0 : h o = some (.inr (11, [.ref (o + 1), .ref (o + 14), .ref (o + 27), .ref (o + 33), .ref (o + 42), .ref (o + 55), .ref (o + 57), .ref (o + 59), .ref (o + 61), .int 0]))) (K1 : h (o + 1) = some (.inr (3, [.ref (o + 1 + 1), .ref (o + 1 + 7), .ref (o + 1 + 9), .ref (o + 1 + 11), .int (dIni 13)]))) (K2 : h (o + 2) = some (.inr (2, [.ref (o + 3), .ref (o + 4), .ref (o + 5), .ref (o + 6), .ref (o + 7), .int (nI 1), .int (dIni 0), .int (dIni 2), .int (dIni 3), .int (nI 0), .int (dIni 10), .int 0, .int 0]))) (K3 : h (o + 3) = arI κ 40 (win 100 40 dIni)) (K4 : h (o + 4) = arI κ 40 (win 140 40 dIni)) (K5 : h (o + 5) = arI κ 6 (win 4 6 dIni)) (K6 : h (o + 6) = arR κ 1 6 (fun _ => none)) (K7 : h (o + 7) = arR κ 2 2 (fun _ => none)) (K8 : h (o + 8) = some (.inr (6, [.ref (o + 8 + 1), .int (nI 0), .int 32]))) (K9 : h (o + 9) = arI κ 50 (fun _ => 0)) (K10 : h (o + 10) = some (.inr (6, [.ref (o + 10 + 1), .int (nI 0), .int 32]))) (K11 : h (o + 11) = arI κ 20 (fun _ => 0)) (K12 : h (o + 12) = some (.inr (6, [.ref (o + 12 + 1), .int (nI (3 * 0)), .int 32]))) (K13 : h (o + 13) = arI κ 15 (fun _ => 0)) (K14 : h (o + 14) = some (.inr (3, [.ref (o + 14 + 1), .ref (o + 14 + 7), .ref (o + 14 + 9), .ref (o + 14 + 11), .int (dIni 13)]))) (K15 : h (o + 15) = some (.inr (2, [.ref (o + 16), .ref (o + 17), .ref (o + 18), .ref (o + 19), .ref (o + 20), .int (nI 1), .int (dIni 0), .int (dIni 2), .int (dIni 3), .int (nI 0), .int (dIni 10), .int 0, .int 0]))) (K16 : h (o + 16) = arI κ 40 (win 100 40 dIni)) (K17 : h (o + 17) = arI κ 40 (win 140 40 dIni)) (K18 : h (o + 18) = arI κ 6 (win 4 6 dIni)) (K19 : h (o + 19) = arR κ 1 6 (fun _ => none)) (K20 : h (o + 20) = arR κ 2 2 (fun _ => none)) (K21 : h (o + 21) = some (.inr (6, [.ref (o + 21 + 1), .int (nI 0), .int 32]))) (K22 : h (o + 22) = arI κ 50 (fun _ => 0)) (K23 : h (o + 23) = some (.inr (6, [.ref (o + 23 + 1), .int (nI 0), .int 32]))) (K24 : h (o + 24) = arI κ 20 (fun _ => 0)) (K25 : h (o + 25) = some (.inr (6, [.ref (o + 25 + 1), .int (nI (3 * 0)), .int 32]))) (K26 : h (o + 26) = arI κ 15 (fun _ => 0)) (K27 : h (o + 27) = some (.inr (2, [.ref (o + 28), .ref (o + 29), .ref (o + 30), .ref (o + 31), .ref (o + 32), .int (nI 1), .int (dIni 0), .int (dIni 2), .int (dIni 3), .int (nI 0), .int (dIni 10), .int 0, .int 0]))) (K28 : h (o + 28) = arI κ 40 (win 100 40 dIni)) (K29 : h (o + 29) = arI κ 40 (win 140 40 dIni)) (K30 : h (o + 30) = arI κ 6 (win 4 6 dIni)) (K31 : h (o + 31) = arR κ 1 6 (fun _ => none)) (K32 : h (o + 32) = arR κ 2 2 (fun _ => none)) (K33 : h (o + 33) = arR κ 3 4 (shF o)) (K34 : h (o + 34) = some (.inr (6, [.ref (o + 34 + 1), .int (nI 0), .int 0]))) (K35 : h (o + 35) = arI κ 40 (fun _ => 0)) (K36 : h (o + 36) = some (.inr (6, [.ref (o + 36 + 1), .int (nI 0), .int 0]))) (K37 : h (o + 37) = arI κ 40 (fun _ => 0)) (K38 : h (o + 38) = some (.inr (6, [.ref (o + 38 + 1), .int (nI 0), .int 0]))) (K39 : h (o + 39) = arI κ 40 (fun _ => 0)) (K40 : h (o + 40) = some (.inr (6, [.ref (o + 40 + 1), .int (nI 0), .int 0]))) (K41 : h (o + 41) = arI κ 40 (fun _ => 0)) (K42 : h (o + 42) = arR κ 3 6 (grF o)) (K43 : h (o + 43) = some (.inr (6, [.ref (o + 43 + 1), .int (nI 0), .int 32]))) (K44 : h (o + 44) = arI κ 40 (fun _ => 0)) (K45 : h (o + 45) = some (.inr (6, [.ref (o + 45 + 1), .int (nI 0), .int 32]))) (K46 : h (o + 46) = arI κ 40 (fun _ => 0)) (K47 : h (o + 47) = some (.inr (6, [.ref (o + 47 + 1), .int (nI 0), .int 32]))) (K48 : h (o + 48) = arI κ 40 (fun _ => 0)) (K49 : h (o + 49) = some (.inr (6, [.ref (o + 49 + 1), .int (nI 0), .int 32]))) (K50 : h (o + 50) = arI κ 40 (fun _ => 0)) (K51 : h (o + 51) = some (.inr (6, [.ref (o + 51 + 1), .int (nI 0), .int 32]))) (K52 : h (o + 52) = arI κ 40 (fun _ => 0)) (K53 : h (o + 53) = some (.inr (6, [.ref (o + 53 + 1), .int (nI 0), .int 32]))) (K54 : h (o + 54) = arI κ 40 (fun _ => 0)) (K55 : h (o + 55) = some (.inr (6, [.ref (o + 55 + 1), .int (nI 0), .int 32]))) (K56 : h (o + 56) = arI κ 40 (fun _ => 0)) (K57 : h (o + 57) = some (.inr (6, [.ref (o + 57 + 1), .int (nI 0), .int 32]))) (K58 : h (o + 58) = arI κ 40 (fun _ => 0)) (K59 : h (o + 59) = some (.inr (6, [.ref (o + 59 + 1), .int (nI 0), .int 32]))) (K60 : h (o + 60) = arI κ 40 (fun _ => 0)) (K61 : h (o + 61) = arI κ 6 (fun _ => 0)) : CI κ o h dIni z32 0 z32 z32 0 z32 z0n z32 := by
  refine ⟨K0, KI_ini K1 K2 K3 K4 K5 K6 K7 K8 K9 K10 K11 K12 K13, ⟨dIni, KI_ini K14 K15 K16 K17 K18 K19 K20 K21 K22 K23 K24 K25 K26, fun q => absurd rfl q⟩, ⟨_, _, _, _, _, _, _, _, _, _, _, _, _, K27, K28, K29, K30, K31, K32⟩, K33, fun s hs => ?_, K42, fun j hj => ?_, ⟨_, _, _, _, _, _, K55, K56, K57, K58⟩, ⟨_, K59⟩, K60, K61, by omega⟩
  · have hw : (fun _ => 0 : Nat → Int32) = win (40 * s) 40 z32 := by
      funext k
      unfold win z32
      split <;> rfl
    have h4 : s = 0 ∨ s = 1 ∨ s = 2 ∨ s = 3 := by omega
    rw [← hw]
    rcases h4 with rfl | rfl | rfl | rfl
    · exact ⟨K34, K35, by decide⟩
    · exact ⟨K36, K37, by decide⟩
    · exact ⟨K38, K39, by decide⟩
    · exact ⟨K40, K41, by decide⟩
  · have h4 : j = 0 ∨ j = 1 ∨ j = 2 ∨ j = 3 ∨ j = 4 ∨ j = 5 := by omega
    rcases h4 with rfl | rfl | rfl | rfl | rfl | rfl
    · exact ⟨_, _, _, K43, K44, fun q => absurd q (by omega)⟩
    · exact ⟨_, _, _, K45, K46, fun q => absurd q (by omega)⟩
    · exact ⟨_, _, _, K47, K48, fun q => absurd q (by omega)⟩
    · exact ⟨_, _, _, K49, K50, fun q => absurd q (by omega)⟩
    · exact ⟨_, _, _, K51, K52, fun q => absurd q (by omega)⟩
    · exact ⟨_, _, _, K53, K54, fun q => absurd q (by omega)⟩
