theorem ShO.same {κ : Wc} {o : Nat} {h h1 : Mm} {bi nu : Nat → Int32} {ss : Nat → Nat} (H : ShO κ o h bi ss nu) (e : ∀ q, o + 34 ≤ q → q < o + 42 → h1 q = h q) : ShO κ o h1 bi ss nu := by
  intro s hs
  obtain ⟨k1, k2, k3⟩ := H s hs
  exact ⟨(e _ (by omega) (by omega)).trans k1, (e _ (by omega) (by omega)).trans k2, k3⟩
/-- one sheet is changed -/
theorem ShO.one {κ : Wc} {o sk z2 : Nat} {h h1 : Mm} {bi bi2 nu nu2 : Nat → Int32} {ss ss2 : Nat → Nat} (H : ShO κ o h bi ss nu) (hs : sk < 4) (e : ∀ q, o + 34 ≤ q → q < o + 42 → q ≠ o + 34 + 2 * sk → q ≠ o + 34 + 2 * sk + 1 → h1 q = h q) (k1 : h1 (o + 34 + 2 * sk) = oRow (o + 34 + 2 * sk) (nI z2) (bi2 sk)) (k2 : h1 (o + 34 + 2 * sk + 1) = arI κ 40 (win (40 * sk) 40 nu2)) (hz : z2 ≤ 40) (hs2 : ss2 sk = z2) (e1 : ∀ s, s < 4 → s ≠ sk → bi2 s = bi s ∧ ss2 s = ss s ∧ ∀ j, j < 40 → nu2 (40 * s + j) = nu (40 * s + j)) : ShO κ o h1 bi2 ss2 nu2 := by
  intro s hs1
  by_cases hq : s = sk
  · subst hq
    rw [hs2]
    exact ⟨k1, k2, hz⟩
  · obtain ⟨j1, j2, j3⟩ := H s hs1
    obtain ⟨g1, g2, g3⟩ := e1 s hs1 hq
    rw [g1, g2]
    exact ⟨(e _ (by omega) (by omega) (by omega) (by omega)).trans j1, ((e _ (by omega) (by omega) (by omega) (by omega)).trans j2).trans (congrArg (arI κ 40) (win_ext (fun k hk => (g3 k hk).symm))), j3⟩
section PU
variable {bi nu d : Nat → Int32} {ss : Nat → Nat} {len sk ik : Nat} {s i v : Int32}
theorem nuPut_1 (h : ¬ (0 ≤ s.toInt ∧ s.toInt ≤ 3)) : opPut bi ss s i = (1, 0) ∧ nuPut bi ss nu s i v = nu := ⟨if_pos h, if_pos h⟩
theorem nuPut_2 (h : sk < 4) (hb : bi sk = 0) : opPut bi ss (nI sk) i = (2, 0) ∧ nuPut bi ss nu (nI sk) i v = nu := by
  have e1 := i_nI (n := sk) (by omega)
  refine ⟨?_, ?_⟩
  · unfold opPut
    rw [if_neg (by omega), nI_clamp (by omega), hb, if_pos (by decide)]
  · unfold nuPut
    rw [if_neg (by omega), nI_clamp (by omega), hb, if_pos (by decide)]
theorem nuPut_3 (h : sk < 4) (hb : ¬ bi sk = 0) (hi : ¬ (0 ≤ i.toInt ∧ i.toInt ≤ ((ss sk : Nat) : Int) - 1)) : opPut bi ss (nI sk) i = (1, 0) ∧ nuPut bi ss nu (nI sk) i v = nu := by
  have e1 := i_nI (n := sk) (by omega)
  refine ⟨?_, ?_⟩
  · unfold opPut
    rw [if_neg (by omega), nI_clamp (by omega), if_neg (fun q => hb (eq0_of q)), if_pos hi]
  · unfold nuPut
    rw [if_neg (by omega), nI_clamp (by omega), if_neg (fun q => hb (eq0_of q)), if_pos hi]
theorem nuPut_0 (h : sk < 4) (hb : ¬ bi sk = 0) (hi : ik < ss sk) (hs : ss sk ≤ 40) : opPut bi ss (nI sk) (nI ik) = (0, 1) ∧ nuPut bi ss nu (nI sk) (nI ik) v = upd nu (40 * sk + ik) (narB (bi sk) v) := by
  have e1 := i_nI (n := sk) (by omega)
  have e2 := i_nI (n := ik) (by omega)
  refine ⟨?_, ?_⟩
  · unfold opPut
    rw [if_neg (by omega), nI_clamp (by omega), if_neg (fun q => hb (eq0_of q)), if_neg (by omega)]
  · unfold nuPut
    rw [if_neg (by omega), nI_clamp (by omega), if_neg (fun q => hb (eq0_of q)), if_neg (by omega), nI_clamp (by omega)]
theorem rowSet_0 {k ik : Nat} {f : Nat → Int32} {bt x : Int32} (h : ik < k) (hk : k ≤ 40) : rowSet k f bt (nI ik) x = upd f ik (narB bt x) := by
  unfold rowSet
  rw [i_nI (by omega), nI_clamp (by omega), if_pos (by omega)]
theorem win_put {b ik : Nat} {x : Int32} (h : ik < 40) : win b 40 (upd nu (b + ik) x) = upd (win b 40 nu) ik x := win_us h
theorem nuDr_1 (h : ¬ (0 ≤ s.toInt ∧ s.toInt ≤ 3)) : opDraw bi ss len s = (1, 0) ∧ nuDr nu d bi ss len s = nu := ⟨if_pos h, if_pos h⟩
theorem nuDr_2 (h : sk < 4) (hb : bi sk = 0) : opDraw bi ss len (nI sk) = (2, 0) ∧ nuDr nu d bi ss len (nI sk) = nu := by
  have e1 := i_nI (n := sk) (by omega)
  refine ⟨?_, ?_⟩
  · unfold opDraw
    rw [if_neg (by omega), nI_clamp (by omega), hb, if_pos (by decide)]
  · unfold nuDr
    rw [if_neg (by omega), nI_clamp (by omega), hb, if_pos (by decide)]
theorem nuDr_0 (h : sk < 4) (hb : ¬ bi sk = 0) : opDraw bi ss len (nI sk) = (0, nI (min len (ss sk))) ∧ nuDr nu d bi ss len (nI sk) = nuDraw nu d bi sk (min len (ss sk)) := by
  have e1 := i_nI (n := sk) (by omega)
  refine ⟨?_, ?_⟩
  · unfold opDraw
    rw [if_neg (by omega), nI_clamp (by omega), if_neg (fun q => hb (eq0_of q))]
  · unfold nuDr
    rw [if_neg (by omega), nI_clamp (by omega), if_neg (fun q => hb (eq0_of q))]
end PU
section SHT
variable {bi si nu : Nat → Int32} {ss : Nat → Nat} {sk jk : Nat} {s w j : Int32}
theorem sht_e {k : Nat} (hk : ¬ k = 0) (h : opSheet s w j = (k, 0)) : biSheet bi s w j = bi ∧ nuSheet nu s w j = nu := by
  unfold biSheet nuSheet
  rw [h]
  exact ⟨if_neg hk, if_neg hk⟩
theorem sht_0 (hs : sk < 4) (h : opSheet (nI sk) w j = (0, 1)) : biSheet bi (nI sk) w j = upd bi sk w ∧ nuSheet nu (nI sk) w j = fun q => if 40 * sk ≤ q ∧ q < 40 * sk + 40 then 0 else nu q := by
  unfold biSheet nuSheet
  rw [h, nI_clamp (by omega)]
  exact ⟨if_pos rfl, if_pos rfl⟩
theorem win_zero {sk : Nat} : win (40 * sk) 40 (fun q => if 40 * sk ≤ q ∧ q < 40 * sk + 40 then 0 else nu q) = fun _ => 0 := by
  funext k
  unfold win
  by_cases h : k < 40
  · rw [if_pos h]; exact if_pos (by omega)
  · rw [if_neg h]
/-- the sizes behind it -/
def ssSheet (ss : Nat → Nat) (s w j : Int32) : Nat → Nat := if (opSheet s w j).1 = 0 then (fun q => if q = s.toNatClampNeg then (if w.toInt = 0 then 0 else j.toNatClampNeg) else ss q) else ss
theorem ss_e {k : Nat} (hk : ¬ k = 0) (h : opSheet s w j = (k, 0)) : ssSheet ss s w j = ss := by
  unfold ssSheet
  rw [h]
  exact if_neg hk
theorem ss_0 (hs : sk < 4) (h : opSheet (nI sk) w j = (0, 1)) : ssSheet ss (nI sk) w j = fun q => if q = sk then (if w.toInt = 0 then 0 else j.toNatClampNeg) else ss q := by
  unfold ssSheet
  rw [h, nI_clamp (by omega)]
  exact if_pos rfl
end SHT
set_option maxHeartbeats 4000000 in
set_option maxRecDepth 100000 in
theorem p_put {κ : Wc} {l : Launch} {h : Mm} {n : Nat} {o : Nat} {im : Int32} {fo : Nat → Int32} {s : Int32} {i : Int32} {v : Int32} {bi : Nat → Int32} {ss : Nat → Nat} {nu : Nat → Int32} (K0 : h o = some (.inr (11, [.ref (o + 1), .ref (o + 14), .ref (o + 27), .ref (o + 33), .ref (o + 42), .ref (o + 55), .ref (o + 57), .ref (o + 59), .ref (o + 61), .int im]))) (K1 : h (o + 33) = arR κ 3 4 (shF o)) (K2 : h (o + 61) = arI κ 6 fo) (hSh : ShO κ o h bi ss nu) : Con κ l yX11_put cX11_put 5 (some .int) 4 0 0 [.ref o, .int s, .int i, .int v] h n (fun q h' n' => q = some (.int (ansOf (opPut bi ss s i))) ∧ n' = n ∧ (∀ zq : Nat, zq < (o + 76) → zq ≠ (o + 61) → zq ≠ (o + 34) → zq ≠ (o + 35) → zq ≠ (o + 36) → zq ≠ (o + 37) → zq ≠ (o + 38) → zq ≠ (o + 39) → zq ≠ (o + 40) → zq ≠ (o + 41) → h' zq = h zq) ∧ Zr κ (o + 76) h h' ∧ h' (o + 61) = arI κ 6 (bump (opPut bi ss s i) fo) ∧ ShO κ o h' bi ss (nuPut bi ss nu s i v)) := by
  refine Con.of mk_X11_put (Nat.le_of_ble_eq_true rfl) (fun G hG X E => ?_)
  subst hG
  refine z_ls (ls' := [(0, .ref o), (1, .int s), (2, .int i), (3, .int v)]) rfl ?_
  refine z_iload_n X 1 dX11_put_0 rfl ?_
  refine z_callS X (c_isSheet (κ := κ) (n := n) (v := (s))  ) mk_X11_isSheet dX11_put_1 wd_288 wd_289 rfl rfl (Nat.le_of_ble_eq_true rfl) (Nat.le_of_ble_eq_true rfl) (Nat.le_of_ble_eq_true rfl) (by omega) (by omega) (fun q zh1 zm3 zp4 => ?_)
  obtain ⟨rfl, ze2, zn5⟩ := zp4
  subst zm3
  subst zh1
  refine z_st (st' := [.int (b2i (0 ≤ (s : Int32).toInt ∧ (s : Int32).toInt ≤ 3))]) rfl ?_
  refine z_if_ne X 13 dX11_put_4 (by decide) (fun zc6 => ?_) (fun zc6 => ?_)
  · replace zc6 := b2i_t zc6
    obtain ⟨sk, hsk, rfl⟩ := ix_of (c := s) (len := 4) (by omega) (by omega)
    have zS7 := (hSh sk hsk).1
    have zS8 := (hSh sk hsk).2.1
    have hss_sk := (hSh sk hsk).2.2
    refine z_aload_n X 0 dX11_put_13 rfl ?_
    refine z_get X fl_X11_28_11 dX11_put_14 K0 rfl ?_
    refine z_iload_n X 1 dX11_put_17 rfl ?_
    refine z_aald (t := 3) (v := .ref (o + 34 + 2 * sk)) X dX11_put_18 K1 rfl (vp_in_nI (n := sk) (by omega) (by omega)) (by rw [nI_clamp (by omega)]; rfl) ?_
    refine z_astore (ls' := [(4, .ref (o + 34 + 2 * sk)), (0, .ref o), (1, .int (nI sk)), (2, .int i), (3, .int v)]) X dX11_put_19 (by decide) rfl ?_
    refine z_aload X 0 dX11_put_21 rfl ?_
    refine z_callV X (c_Row_isMissing (κ := κ) (n := n) (r := (o + 34 + 2 * sk)) (sz := (nI (ss sk))) (bt := (bi sk)) zS7 ) mk_X6_isMissing dX11_put_23 wd_291 wd_292 wd_293 rfl zS7 rfl rfl rfl (Nat.le_of_ble_eq_true rfl) (Nat.le_of_ble_eq_true rfl) (Nat.le_of_ble_eq_true rfl) (by omega) (by omega) (fun q zh9 zm11 zp12 => ?_)
    obtain ⟨rfl, ze10, zn13⟩ := zp12
    subst zm11
    subst zh9
    refine z_st (st' := [.int (b2i ((bi sk) = 0))]) rfl ?_
    refine z_if_eq X 35 dX11_put_26 (by decide) (fun zc14 => ?_) (fun zc14 => ?_)
    · replace zc14 := b2i_f zc14
      refine z_iload_n X 3 dX11_put_35 rfl ?_
      refine z_iconst (v := 0) X dX11_put_36 (by decide) ?_
      refine z_aload X 0 dX11_put_37 rfl ?_
      refine z_get X fl_X11_95_6 dX11_put_39 zS7 rfl ?_
      refine z_iconst (v := 1) X dX11_put_42 (by decide) ?_
      refine z_isub X dX11_put_43 ?_
      refine z_callS X (c_within (κ := κ) (n := n) (v := (i)) (lo := (0)) (hi := ((nI (ss sk)) - 1))  ) mk_X11_within dX11_put_44 wd_259 wd_257 rfl rfl (Nat.le_of_ble_eq_true rfl) (Nat.le_of_ble_eq_true rfl) (Nat.le_of_ble_eq_true rfl) (by omega) (by omega) (fun q zh15 zm17 zp18 => ?_)
      obtain ⟨rfl, ze16, zn19⟩ := zp18
      subst zm17
      subst zh15
      refine z_st (st' := [.int (b2i ((0 : Int32).toInt ≤ (i : Int32).toInt ∧ (i : Int32).toInt ≤ ((nI (ss sk)) - 1 : Int32).toInt))]) rfl ?_
      refine z_toe (y := b2i (0 ≤ i.toInt ∧ i.toInt ≤ ((ss sk : Nat) : Int) - 1)) (by simp only [i_m1 (n := ss sk) (by omega), show (0 : Int32).toInt = 0 by decide]) ?_
      refine z_if_ne X 56 dX11_put_47 (by decide) (fun zc20 => ?_) (fun zc20 => ?_)
      · replace zc20 := b2i_t zc20
        obtain ⟨ik, hik, rfl⟩ := ix_of (c := i) (len := ss sk) (by omega) (by omega)
        refine z_aload X 0 dX11_put_56 rfl ?_
        refine z_iload_n X 3 dX11_put_58 rfl ?_
        refine z_iload_n X 4 dX11_put_59 rfl ?_
        refine z_callV X (c_Row_store (κ := κ) (n := n) (r := (o + 34 + 2 * sk)) (k := (ss sk)) (bt := (bi sk)) (i := (nI ik)) (v := (v)) (N := (40)) (f := (win (40 * sk) 40 nu)) zS7 zS8 (hss_sk) (by first | assumption | omega)) mk_X6_store dX11_put_60 wd_878 wd_879 wd_880 rfl zS7 rfl rfl rfl (Nat.le_of_ble_eq_true rfl) (Nat.le_of_ble_eq_true rfl) (Nat.le_of_ble_eq_true rfl) (by omega) (by omega) (fun q zh21 zm23 zp24 => ?_)
        obtain ⟨rfl, ze22, zn25⟩ := zp24
        subst zm23
        refine z_st (st' := []) rfl ?_
        have zK26 : zh21 o = some (.inr (11, [.ref (o + 1), .ref (o + 14), .ref (o + 27), .ref (o + 33), .ref (o + 42), .ref (o + 55), .ref (o + 57), .ref (o + 59), .ref (o + 61), .int im])) := by rw [ze22]; rw [va_up_ne _ _ (show o ≠ o + 34 + 2 * sk + 1 by omega)]; exact K0
        have zK27 : zh21 (o + 33) = arR κ 3 4 (shF o) := by rw [ze22]; rw [va_up_ne _ _ (show o + 33 ≠ o + 34 + 2 * sk + 1 by omega)]; exact K1
        have zK28 : zh21 (o + 61) = arI κ 6 fo := by rw [ze22]; rw [va_up_ne _ _ (show o + 61 ≠ o + 34 + 2 * sk + 1 by omega)]; exact K2
        have zK29 : zh21 (o + 34 + 2 * sk) = some (.inr (6, [.ref (o + 34 + 2 * sk + 1), .int (nI (ss sk)), .int (bi sk)])) := by rw [ze22]; rw [va_up_ne _ _ (show o + 34 + 2 * sk ≠ o + 34 + 2 * sk + 1 by omega)]; exact zS7
        have zK30 : zh21 (o + 34 + 2 * sk + 1) = arI κ 40 (rowSet (ss sk) (win (40 * sk) 40 nu) (bi sk) (nI ik) v) := by rw [ze22]; exact va_up_self _ _ _
        have zl31 : ∀ zq : Nat, zq < (o + 76) → zq ≠ (o + 34 + 2 * sk + 1) → zh21 zq = h zq := by intro zq hzq zn0; rw [ze22, va_up_ne _ _ (show zq ≠ o + 34 + 2 * sk + 1 by omega)]; try rfl
        have zr32 : Zr κ (o + 76) h zh21 := (Zr.refl).trans (Zr.same (fun zq h1 => by rw [ze22, va_up_ne _ _ (show zq ≠ o + 34 + 2 * sk + 1 by omega)]))
        refine z_iconst (v := 1) X dX11_put_63 (by decide) ?_
        refine z_iret X E dX11_put_64 (by omega) (by omega) ⟨?_, ?_, ?_, ?_, ?_, ?_⟩
        · rw [(nuPut_0 (nu := nu) (v := v) hsk (by assumption) hik hss_sk).1]; first | exact congrArg (fun z => some (Value.int z)) (ansOf_0 _).symm | rfl
        · rfl
        · exact fun zq hzq zn0 zn1 zn2 zn3 zn4 zn5 zn6 zn7 zn8 => zl31 zq hzq (by omega)
        · exact zr32
        · rw [(nuPut_0 (nu := nu) (v := v) hsk (by assumption) hik hss_sk).1]; first | (rw [bump_0]; exact zK28) | exact zK28
        · rw [(nuPut_0 (nu := nu) (v := v) hsk (by assumption) hik hss_sk).2]; exact hSh.one hsk (fun zq h1 h2 h3 h4 => zl31 zq (by omega) h4) zK29 ((zK30).trans (congrArg (arI κ 40) ((rowSet_0 hik hss_sk).trans (win_put (by omega)).symm))) hss_sk rfl (fun s2 h1 h2 => ⟨rfl, rfl, fun j2 h3 => pk_un (by omega)⟩)
      · replace zc20 := b2i_f zc20
        refine z_aload_n X 1 dX11_put_50 rfl ?_
        refine z_iconst (v := 1) X dX11_put_51 (by decide) ?_
        refine z_callV X (c_fail (κ := κ) (n := n) (o := (o)) (im := (im)) (fo := (fo)) (k := (1)) K0 K2 (by first | assumption | omega) (by first | assumption | omega)) mk_X11_fail dX11_put_52 wd_260 wd_262 wd_0 rfl K0 rfl rfl rfl (Nat.le_of_ble_eq_true rfl) (Nat.le_of_ble_eq_true rfl) (Nat.le_of_ble_eq_true rfl) (by omega) (by omega) (fun q zh33 zm35 zp36 => ?_)
        obtain ⟨rfl, ze34, zn37⟩ := zp36
        subst zm35
        refine z_st (st' := [.int (lowE 1)]) rfl ?_
        have zK38 : zh33 o = some (.inr (11, [.ref (o + 1), .ref (o + 14), .ref (o + 27), .ref (o + 33), .ref (o + 42), .ref (o + 55), .ref (o + 57), .ref (o + 59), .ref (o + 61), .int im])) := by rw [ze34]; rw [va_up_ne _ _ (show o ≠ o + 61 by omega)]; exact K0
        have zK39 : zh33 (o + 33) = arR κ 3 4 (shF o) := by rw [ze34]; rw [va_up_ne _ _ (show o + 33 ≠ o + 61 by omega)]; exact K1
        have zK40 : zh33 (o + 61) = arI κ 6 (bmp fo 1) := by rw [ze34]; exact va_up_self _ _ _
        have zK41 : zh33 (o + 34 + 2 * sk) = some (.inr (6, [.ref (o + 34 + 2 * sk + 1), .int (nI (ss sk)), .int (bi sk)])) := by rw [ze34]; rw [va_up_ne _ _ (show o + 34 + 2 * sk ≠ o + 61 by omega)]; exact zS7
        have zK42 : zh33 (o + 34 + 2 * sk + 1) = arI κ 40 (win (40 * sk) 40 nu) := by rw [ze34]; rw [va_up_ne _ _ (show o + 34 + 2 * sk + 1 ≠ o + 61 by omega)]; exact zS8
        have zl43 : ∀ zq : Nat, zq < (o + 76) → zq ≠ (o + 61) → zh33 zq = h zq := by intro zq hzq zn0; rw [ze34, va_up_ne _ _ (show zq ≠ o + 61 by omega)]; try rfl
        have zr44 : Zr κ (o + 76) h zh33 := (Zr.refl).trans (Zr.same (fun zq h1 => by rw [ze34, va_up_ne _ _ (show zq ≠ o + 61 by omega)]))
        refine z_iret X E dX11_put_55 (by omega) (by omega) ⟨?_, ?_, ?_, ?_, ?_, ?_⟩
        · rw [(nuPut_3 (nu := nu) (v := v) hsk (by assumption) (by assumption)).1]; first | exact congrArg (fun z => some (Value.int z)) (ansOf_0 _).symm | rfl
        · rfl
        · exact fun zq hzq zn0 zn1 zn2 zn3 zn4 zn5 zn6 zn7 zn8 => zl43 zq hzq zn0
        · exact zr44
        · rw [(nuPut_3 (nu := nu) (v := v) hsk (by assumption) (by assumption)).1]; first | (rw [bump_0]; exact zK40) | exact zK40
        · rw [(nuPut_3 (nu := nu) (v := v) hsk (by assumption) (by assumption)).2]; exact hSh.same (fun zq h1 h2 => zl43 zq (by omega) (by omega))
    · replace zc14 := b2i_t zc14
      refine z_aload_n X 1 dX11_put_29 rfl ?_
      refine z_iconst (v := 2) X dX11_put_30 (by decide) ?_
      refine z_callV X (c_fail (κ := κ) (n := n) (o := (o)) (im := (im)) (fo := (fo)) (k := (2)) K0 K2 (by first | assumption | omega) (by first | assumption | omega)) mk_X11_fail dX11_put_31 wd_260 wd_262 wd_0 rfl K0 rfl rfl rfl (Nat.le_of_ble_eq_true rfl) (Nat.le_of_ble_eq_true rfl) (Nat.le_of_ble_eq_true rfl) (by omega) (by omega) (fun q zh45 zm47 zp48 => ?_)
      obtain ⟨rfl, ze46, zn49⟩ := zp48
      subst zm47
      refine z_st (st' := [.int (lowE 2)]) rfl ?_
      have zK50 : zh45 o = some (.inr (11, [.ref (o + 1), .ref (o + 14), .ref (o + 27), .ref (o + 33), .ref (o + 42), .ref (o + 55), .ref (o + 57), .ref (o + 59), .ref (o + 61), .int im])) := by rw [ze46]; rw [va_up_ne _ _ (show o ≠ o + 61 by omega)]; exact K0
      have zK51 : zh45 (o + 33) = arR κ 3 4 (shF o) := by rw [ze46]; rw [va_up_ne _ _ (show o + 33 ≠ o + 61 by omega)]; exact K1
      have zK52 : zh45 (o + 61) = arI κ 6 (bmp fo 2) := by rw [ze46]; exact va_up_self _ _ _
      have zK53 : zh45 (o + 34 + 2 * sk) = some (.inr (6, [.ref (o + 34 + 2 * sk + 1), .int (nI (ss sk)), .int (bi sk)])) := by rw [ze46]; rw [va_up_ne _ _ (show o + 34 + 2 * sk ≠ o + 61 by omega)]; exact zS7
      have zK54 : zh45 (o + 34 + 2 * sk + 1) = arI κ 40 (win (40 * sk) 40 nu) := by rw [ze46]; rw [va_up_ne _ _ (show o + 34 + 2 * sk + 1 ≠ o + 61 by omega)]; exact zS8
      have zl55 : ∀ zq : Nat, zq < (o + 76) → zq ≠ (o + 61) → zh45 zq = h zq := by intro zq hzq zn0; rw [ze46, va_up_ne _ _ (show zq ≠ o + 61 by omega)]; try rfl
      have zr56 : Zr κ (o + 76) h zh45 := (Zr.refl).trans (Zr.same (fun zq h1 => by rw [ze46, va_up_ne _ _ (show zq ≠ o + 61 by omega)]))
      refine z_iret X E dX11_put_34 (by omega) (by omega) ⟨?_, ?_, ?_, ?_, ?_, ?_⟩
      · rw [(nuPut_2 (ss := ss) (nu := nu) (i := i) (v := v) hsk (by assumption)).1]; first | exact congrArg (fun z => some (Value.int z)) (ansOf_0 _).symm | rfl
      · rfl
      · exact fun zq hzq zn0 zn1 zn2 zn3 zn4 zn5 zn6 zn7 zn8 => zl55 zq hzq zn0
      · exact zr56
      · rw [(nuPut_2 (ss := ss) (nu := nu) (i := i) (v := v) hsk (by assumption)).1]; first | (rw [bump_0]; exact zK52) | exact zK52
      · rw [(nuPut_2 (ss := ss) (nu := nu) (i := i) (v := v) hsk (by assumption)).2]; exact hSh.same (fun zq h1 h2 => zl55 zq (by omega) (by omega))
  · replace zc6 := b2i_f zc6
    refine z_aload_n X 0 dX11_put_7 rfl ?_
    refine z_iconst (v := 1) X dX11_put_8 (by decide) ?_
    refine z_callV X (c_fail (κ := κ) (n := n) (o := (o)) (im := (im)) (fo := (fo)) (k := (1)) K0 K2 (by first | assumption | omega) (by first | assumption | omega)) mk_X11_fail dX11_put_9 wd_260 wd_262 wd_0 rfl K0 rfl rfl rfl (Nat.le_of_ble_eq_true rfl) (Nat.le_of_ble_eq_true rfl) (Nat.le_of_ble_eq_true rfl) (by omega) (by omega) (fun q zh57 zm59 zp60 => ?_)
    obtain ⟨rfl, ze58, zn61⟩ := zp60
    subst zm59
    refine z_st (st' := [.int (lowE 1)]) rfl ?_
    have zK62 : zh57 o = some (.inr (11, [.ref (o + 1), .ref (o + 14), .ref (o + 27), .ref (o + 33), .ref (o + 42), .ref (o + 55), .ref (o + 57), .ref (o + 59), .ref (o + 61), .int im])) := by rw [ze58]; rw [va_up_ne _ _ (show o ≠ o + 61 by omega)]; exact K0
    have zK63 : zh57 (o + 33) = arR κ 3 4 (shF o) := by rw [ze58]; rw [va_up_ne _ _ (show o + 33 ≠ o + 61 by omega)]; exact K1
    have zK64 : zh57 (o + 61) = arI κ 6 (bmp fo 1) := by rw [ze58]; exact va_up_self _ _ _
    have zl65 : ∀ zq : Nat, zq < (o + 76) → zq ≠ (o + 61) → zh57 zq = h zq := by intro zq hzq zn0; rw [ze58, va_up_ne _ _ (show zq ≠ o + 61 by omega)]; try rfl
    have zr66 : Zr κ (o + 76) h zh57 := (Zr.refl).trans (Zr.same (fun zq h1 => by rw [ze58, va_up_ne _ _ (show zq ≠ o + 61 by omega)]))
    refine z_iret X E dX11_put_12 (by omega) (by omega) ⟨?_, ?_, ?_, ?_, ?_, ?_⟩
    · rw [(nuPut_1 (bi := bi) (ss := ss) (nu := nu) (s := s) (i := i) (v := v) (by assumption)).1]; first | exact congrArg (fun z => some (Value.int z)) (ansOf_0 _).symm | rfl
    · rfl
    · exact fun zq hzq zn0 zn1 zn2 zn3 zn4 zn5 zn6 zn7 zn8 => zl65 zq hzq zn0
    · exact zr66
    · rw [(nuPut_1 (bi := bi) (ss := ss) (nu := nu) (s := s) (i := i) (v := v) (by assumption)).1]; first | (rw [bump_0]; exact zK64) | exact zK64
    · rw [(nuPut_1 (bi := bi) (ss := ss) (nu := nu) (s := s) (i := i) (v := v) (by assumption)).2]; exact hSh.same (fun zq h1 h2 => zl65 zq (by omega) (by omega))
set_option maxHeartbeats 4000000 in
set_option maxRecDepth 100000 in
theorem p_draw {κ : Wc} {l : Launch} {h : Mm} {n : Nat} {o : Nat} {im : Int32} {d : Nat → Int32} {len : Nat} {nc : Nat} {cold : Int32} {wind : Int32} {fo : Nat → Int32} {s : Int32} {bi : Nat → Int32} {ss : Nat → Nat} {nu : Nat → Int32} (K0 : h o = some (.inr (11, [.ref (o + 1), .ref (o + 14), .ref (o + 27), .ref (o + 33), .ref (o + 42), .ref (o + 55), .ref (o + 57), .ref (o + 59), .ref (o + 61), .int im]))) (K1 : h (o + 1) = some (.inr (3, [.ref (o + 1 + 1), .ref (o + 1 + 7), .ref (o + 1 + 9), .ref (o + 1 + 11), .int (d 13)]))) (K2 : h (o + 2) = some (.inr (2, [.ref (o + 3), .ref (o + 4), .ref (o + 5), .ref (o + 6), .ref (o + 7), .int (nI len), .int (d 0), .int (d 2), .int (d 3), .int (nI nc), .int (d 10), .int cold, .int wind]))) (K3 : h (o + 3) = arI κ 40 (win 100 40 d)) (K4 : h (o + 33) = arR κ 3 4 (shF o)) (K5 : h (o + 61) = arI κ 6 fo) (q1 : d 1 = nI len) (q2 : 1 ≤ len) (q3 : len ≤ 40) (hSh : ShO κ o h bi ss nu) : Con κ l yX11_draw cX11_draw 5 (some .int) 5 0 0 [.ref o, .int s] h n (fun q h' n' => q = some (.int (ansOf (opDraw bi ss len s))) ∧ n' = n ∧ (∀ zq : Nat, zq < (o + 76) → zq ≠ (o + 61) → zq ≠ (o + 34) → zq ≠ (o + 35) → zq ≠ (o + 36) → zq ≠ (o + 37) → zq ≠ (o + 38) → zq ≠ (o + 39) → zq ≠ (o + 40) → zq ≠ (o + 41) → h' zq = h zq) ∧ Zr κ (o + 76) h h' ∧ h' (o + 61) = arI κ 6 (bump (opDraw bi ss len s) fo) ∧ ShO κ o h' bi ss (nuDr nu d bi ss len s)) := by
  refine Con.of mk_X11_draw (Nat.le_of_ble_eq_true rfl) (fun G hG X E => ?_)
  subst hG
  refine z_ls (ls' := [(0, .ref o), (1, .int s)]) rfl ?_
  refine z_iload_n X 1 dX11_draw_0 rfl ?_
  refine z_callS X (c_isSheet (κ := κ) (n := n) (v := (s))  ) mk_X11_isSheet dX11_draw_1 wd_288 wd_289 rfl rfl (Nat.le_of_ble_eq_true rfl) (Nat.le_of_ble_eq_true rfl) (Nat.le_of_ble_eq_true rfl) (by omega) (by omega) (fun q zh1 zm3 zp4 => ?_)
  obtain ⟨rfl, ze2, zn5⟩ := zp4
  subst zm3
  subst zh1
  refine z_st (st' := [.int (b2i (0 ≤ (s : Int32).toInt ∧ (s : Int32).toInt ≤ 3))]) rfl ?_
  refine z_if_ne X 13 dX11_draw_4 (by decide) (fun zc6 => ?_) (fun zc6 => ?_)
  · replace zc6 := b2i_t zc6
    obtain ⟨sk, hsk, rfl⟩ := ix_of (c := s) (len := 4) (by omega) (by omega)
    have zS7 := (hSh sk hsk).1
    have zS8 := (hSh sk hsk).2.1
    have hss_sk := (hSh sk hsk).2.2
    refine z_aload_n X 0 dX11_draw_13 rfl ?_
    refine z_get X fl_X11_28_11 dX11_draw_14 K0 rfl ?_
    refine z_iload_n X 1 dX11_draw_17 rfl ?_
    refine z_aald (t := 3) (v := .ref (o + 34 + 2 * sk)) X dX11_draw_18 K4 rfl (vp_in_nI (n := sk) (by omega) (by omega)) (by rw [nI_clamp (by omega)]; rfl) ?_
    refine z_astore_n (ls' := [(2, .ref (o + 34 + 2 * sk)), (0, .ref o), (1, .int (nI sk))]) X dX11_draw_19 (by decide) rfl ?_
    refine z_aload_n X 0 dX11_draw_20 rfl ?_
    refine z_callV X (c_Row_isMissing (κ := κ) (n := n) (r := (o + 34 + 2 * sk)) (sz := (nI (ss sk))) (bt := (bi sk)) zS7 ) mk_X6_isMissing dX11_draw_21 wd_291 wd_292 wd_293 rfl zS7 rfl rfl rfl (Nat.le_of_ble_eq_true rfl) (Nat.le_of_ble_eq_true rfl) (Nat.le_of_ble_eq_true rfl) (by omega) (by omega) (fun q zh9 zm11 zp12 => ?_)
    obtain ⟨rfl, ze10, zn13⟩ := zp12
    subst zm11
    subst zh9
    refine z_st (st' := [.int (b2i ((bi sk) = 0))]) rfl ?_
    refine z_if_eq X 33 dX11_draw_24 (by decide) (fun zc14 => ?_) (fun zc14 => ?_)
    · replace zc14 := b2i_f zc14
      refine z_aload_n X 0 dX11_draw_33 rfl ?_
      refine z_get X fl_X11_95_6 dX11_draw_34 zS7 rfl ?_
      refine z_aload_n X 1 dX11_draw_37 rfl ?_
      refine z_get X fl_X11_10_11 dX11_draw_38 K0 rfl ?_
      refine z_get X fl_X11_56_3 dX11_draw_41 K1 rfl ?_
      refine z_get X fl_X11_98_2 dX11_draw_44 K2 rfl ?_
      refine z_mmin X dX11_draw_47 wd_295 wd_296 wd_63 wd_297 (Nat.le_of_ble_eq_true rfl) (Nat.le_of_ble_eq_true rfl) (Nat.le_of_ble_eq_true rfl) (Nat.le_of_ble_eq_true rfl) ?_
      refine z_toe (y := nI (min (ss sk) len)) (nI_min (by omega) (by omega)) ?_
      refine z_istore_n (ls' := [(3, .int (nI (min (ss sk) len))), (2, .ref (o + 34 + 2 * sk)), (0, .ref o), (1, .int (nI sk))]) X dX11_draw_50 (by decide) rfl ?_
      refine z_iconst (v := 0) X dX11_draw_51 (by decide) ?_
      refine z_istore (ls' := [(4, .int 0), (3, .int (nI (min (ss sk) len))), (2, .ref (o + 34 + 2 * sk)), (0, .ref o), (1, .int (nI sk))]) X dX11_draw_52 (by decide) rfl ?_
      have L54 : ∀ (jj : Nat) (hh54 : Mm) (j : Nat), (40 - j < jj) → (∀ zq : Nat, zq < (o + 76) → zq ≠ (o + 34 + 2 * sk + 1) → hh54 zq = h zq) → Zr κ (o + 76) h hh54 → hh54 (o + 34 + 2 * sk) = some (.inr (6, [.ref (o + 34 + 2 * sk + 1), .int (nI (ss sk)), .int (bi sk)])) → hh54 (o + 34 + 2 * sk + 1) = arI κ 40 (win (40 * sk) 40 (nuDraw nu d bi sk j)) → (hj : j ≤ min (ss sk) len) → Z κ G 5 54 [(0, .ref o), (1, .int (nI sk)), (2, .ref (o + 34 + 2 * sk)), (3, .int (nI (min (ss sk) len))), (4, .int (nI j))] [] hh54 n 0 (0) := by
        intro jj
        induction jj with
        | zero => intro hh54 j hmu; exact absurd hmu (Nat.not_lt_zero _)
        | succ jj ih54 =>
          intro hh54 j hmu zl_54 zr_54 zK15 zK16 hj
          have zK17 : hh54 o = some (.inr (11, [.ref (o + 1), .ref (o + 14), .ref (o + 27), .ref (o + 33), .ref (o + 42), .ref (o + 55), .ref (o + 57), .ref (o + 59), .ref (o + 61), .int im])) := (zl_54 o (by omega) (by omega)).trans K0
          have zK18 : hh54 (o + 1) = some (.inr (3, [.ref (o + 1 + 1), .ref (o + 1 + 7), .ref (o + 1 + 9), .ref (o + 1 + 11), .int (d 13)])) := (zl_54 (o + 1) (by omega) (by omega)).trans K1
          have zK19 : hh54 (o + 2) = some (.inr (2, [.ref (o + 3), .ref (o + 4), .ref (o + 5), .ref (o + 6), .ref (o + 7), .int (nI len), .int (d 0), .int (d 2), .int (d 3), .int (nI nc), .int (d 10), .int cold, .int wind])) := (zl_54 (o + 2) (by omega) (by omega)).trans K2
          have zK20 : hh54 (o + 3) = arI κ 40 (win 100 40 d) := (zl_54 (o + 3) (by omega) (by omega)).trans K3
          have zK21 : hh54 (o + 33) = arR κ 3 4 (shF o) := (zl_54 (o + 33) (by omega) (by omega)).trans K4
          have zK22 : hh54 (o + 61) = arI κ 6 fo := (zl_54 (o + 61) (by omega) (by omega)).trans K5
          refine z_iload X 4 dX11_draw_54 rfl ?_
          refine z_iload_n X 3 dX11_draw_56 rfl ?_
          refine z_icmp_ge X 84 dX11_draw_57 (by decide) (fun zc23 => ?_) (fun zc23 => ?_)
          · try replace zc23 := (nI_leI (a := min (ss sk) len) (b := j) (by omega) (by omega)).mp zc23
            refine z_iload_n X 3 dX11_draw_84 rfl ?_
            have hjm : min len (ss sk) = j := by omega
            have hjn : min (ss sk) len = j := by omega
            refine z_iret X E dX11_draw_85 (by omega) (by omega) ⟨?_, ?_, ?_, ?_, ?_, ?_⟩
            · rw [(nuDr_0 (ss := ss) (nu := nu) (d := d) (len := len) hsk (by assumption)).1, hjm, hjn]; exact congrArg (fun z => some (Value.int z)) (ansOf_0 _).symm
            · rfl
            · exact fun zq hzq zn0 zn1 zn2 zn3 zn4 zn5 zn6 zn7 zn8 => zl_54 zq hzq (by omega)
            · exact zr_54
            · rw [(nuDr_0 (ss := ss) (nu := nu) (d := d) (len := len) hsk (by assumption)).1]; first | (rw [bump_0]; exact zK22) | exact zK22
            · rw [(nuDr_0 (ss := ss) (nu := nu) (d := d) (len := len) hsk (by assumption)).2, hjm]; exact hSh.one hsk (fun zq h1 h2 h3 h4 => zl_54 zq (by omega) h4) zK15 zK16 hss_sk rfl (fun s2 h1 h2 => ⟨rfl, rfl, fun j2 h3 => if_neg (by omega)⟩)
          · try replace zc23 := mt (nI_leI (a := min (ss sk) len) (b := j) (by omega) (by omega)).mpr zc23
            refine z_aload_n X 2 dX11_draw_60 rfl ?_
            refine z_iload X 4 dX11_draw_61 rfl ?_
            refine z_aload_n X 0 dX11_draw_63 rfl ?_
            refine z_get X fl_X11_10_11 dX11_draw_64 zK17 rfl ?_
            refine z_get X fl_X11_56_3 dX11_draw_67 zK18 rfl ?_
            refine z_iload X 4 dX11_draw_70 rfl ?_
            refine z_callV X (c_wideAt (κ := κ) (n := n) (i := (o + 1 + 1)) (len := (len)) (m := (d)) (now := (d 0)) (dd := (d 2)) (dr := (d 3)) (cc := (nI nc)) (on := (d 10)) (cold := (cold)) (wind := (wind)) (k := (j)) zK19 zK20 (by first | assumption | omega) (by first | assumption | omega)) mk_X2_wideAt dX11_draw_72 wd_265 wd_266 wd_267 rfl zK19 rfl rfl rfl (Nat.le_of_ble_eq_true rfl) (Nat.le_of_ble_eq_true rfl) (Nat.le_of_ble_eq_true rfl) (by omega) (by omega) (fun q zh24 zm26 zp27 => ?_)
            obtain ⟨rfl, ze25, zn28⟩ := zp27
            subst zm26
            subst zh24
            refine z_st (st' := [.int (wAt d 100 len j), .int (nI j), .ref (o + 34 + 2 * sk)]) rfl ?_
            refine z_toe (y := d (100 + j)) (wAt_t (by omega)) ?_
            refine z_callV X (c_Row_store (κ := κ) (n := n) (r := (o + 34 + 2 * sk)) (k := (ss sk)) (bt := (bi sk)) (i := (nI j)) (v := (d (100 + j))) (N := (40)) (f := (win (40 * sk) 40 (nuDraw nu d bi sk j))) zK15 zK16 (hss_sk) (by first | assumption | omega)) mk_X6_store dX11_draw_75 wd_878 wd_879 wd_880 rfl zK15 rfl rfl rfl (Nat.le_of_ble_eq_true rfl) (Nat.le_of_ble_eq_true rfl) (Nat.le_of_ble_eq_true rfl) (by omega) (by omega) (fun q zh29 zm31 zp32 => ?_)
            obtain ⟨rfl, ze30, zn33⟩ := zp32
            subst zm31
            refine z_st (st' := []) rfl ?_
            have zK34 : zh29 (o + 34 + 2 * sk) = some (.inr (6, [.ref (o + 34 + 2 * sk + 1), .int (nI (ss sk)), .int (bi sk)])) := by rw [ze30]; rw [va_up_ne _ _ (show o + 34 + 2 * sk ≠ o + 34 + 2 * sk + 1 by omega)]; exact zK15
            have zK35 : zh29 (o + 34 + 2 * sk + 1) = arI κ 40 (rowSet (ss sk) (win (40 * sk) 40 (nuDraw nu d bi sk j)) (bi sk) (nI j) (d (100 + j))) := by rw [ze30]; exact va_up_self _ _ _
            have zK36 : zh29 o = some (.inr (11, [.ref (o + 1), .ref (o + 14), .ref (o + 27), .ref (o + 33), .ref (o + 42), .ref (o + 55), .ref (o + 57), .ref (o + 59), .ref (o + 61), .int im])) := by rw [ze30]; rw [va_up_ne _ _ (show o ≠ o + 34 + 2 * sk + 1 by omega)]; exact zK17
            have zK37 : zh29 (o + 1) = some (.inr (3, [.ref (o + 1 + 1), .ref (o + 1 + 7), .ref (o + 1 + 9), .ref (o + 1 + 11), .int (d 13)])) := by rw [ze30]; rw [va_up_ne _ _ (show o + 1 ≠ o + 34 + 2 * sk + 1 by omega)]; exact zK18
            have zK38 : zh29 (o + 2) = some (.inr (2, [.ref (o + 3), .ref (o + 4), .ref (o + 5), .ref (o + 6), .ref (o + 7), .int (nI len), .int (d 0), .int (d 2), .int (d 3), .int (nI nc), .int (d 10), .int cold, .int wind])) := by rw [ze30]; rw [va_up_ne _ _ (show o + 2 ≠ o + 34 + 2 * sk + 1 by omega)]; exact zK19
            have zK39 : zh29 (o + 3) = arI κ 40 (win 100 40 d) := by rw [ze30]; rw [va_up_ne _ _ (show o + 3 ≠ o + 34 + 2 * sk + 1 by omega)]; exact zK20
            have zK40 : zh29 (o + 33) = arR κ 3 4 (shF o) := by rw [ze30]; rw [va_up_ne _ _ (show o + 33 ≠ o + 34 + 2 * sk + 1 by omega)]; exact zK21
            have zK41 : zh29 (o + 61) = arI κ 6 fo := by rw [ze30]; rw [va_up_ne _ _ (show o + 61 ≠ o + 34 + 2 * sk + 1 by omega)]; exact zK22
            have zl42 : ∀ zq : Nat, zq < (o + 76) → zq ≠ (o + 34 + 2 * sk + 1) → zh29 zq = h zq := by intro zq hzq zn0; rw [ze30, va_up_ne _ _ (show zq ≠ o + 34 + 2 * sk + 1 by omega)]; exact zl_54 zq hzq zn0
            have zr43 : Zr κ (o + 76) h zh29 := (zr_54).trans (Zr.same (fun zq h1 => by rw [ze30, va_up_ne _ _ (show zq ≠ o + 34 + 2 * sk + 1 by omega)]))
            refine z_iinc (v := nI (j + 1)) (ls' := [(4, .int (nI (j + 1))), (0, .ref o), (1, .int (nI sk)), (2, .ref (o + 34 + 2 * sk)), (3, .int (nI (min (ss sk) len)))]) X 4 dX11_draw_78 rfl (nI_1 (j)) (by decide) rfl ?_
            refine z_goto X 54 dX11_draw_81 (by decide) ?_
            refine z_sub (ls' := [(0, .ref o), (1, .int (nI sk)), (2, .ref (o + 34 + 2 * sk)), (3, .int (nI (min (ss sk) len))), (4, .int (nI (j + 1)))]) [1, 2, 3, 4, 0] rfl ?_
            exact ih54 zh29 (j + 1) (by omega) (by exact fun zq hzq zn0 => zl42 zq hzq zn0) (zr43) (by exact zK34) (by rw [← nuDraw_s, win_put (by omega), ← rowSet_0 (k := ss sk) (by omega) hss_sk]; exact zK35) (by first | assumption | rfl | omega)
      refine z_sub (ls' := [(0, .ref o), (1, .int (nI sk)), (2, .ref (o + 34 + 2 * sk)), (3, .int (nI (min (ss sk) len))), (4, .int 0)]) [3, 4, 2, 1, 0] rfl ?_
      exact L54 _ h 0 (Nat.lt_succ_self _) (by exact fun zq hzq zn0 => rfl) (Zr.refl) (by exact zS7) (by rw [nuDraw_0]; exact zS8) (by first | assumption | rfl | omega)
    · replace zc14 := b2i_t zc14
      refine z_aload_n X 1 dX11_draw_27 rfl ?_
      refine z_iconst (v := 2) X dX11_draw_28 (by decide) ?_
      refine z_callV X (c_fail (κ := κ) (n := n) (o := (o)) (im := (im)) (fo := (fo)) (k := (2)) K0 K5 (by first | assumption | omega) (by first | assumption | omega)) mk_X11_fail dX11_draw_29 wd_260 wd_262 wd_0 rfl K0 rfl rfl rfl (Nat.le_of_ble_eq_true rfl) (Nat.le_of_ble_eq_true rfl) (Nat.le_of_ble_eq_true rfl) (by omega) (by omega) (fun q zh44 zm46 zp47 => ?_)
      obtain ⟨rfl, ze45, zn48⟩ := zp47
      subst zm46
      refine z_st (st' := [.int (lowE 2)]) rfl ?_
      have zK49 : zh44 o = some (.inr (11, [.ref (o + 1), .ref (o + 14), .ref (o + 27), .ref (o + 33), .ref (o + 42), .ref (o + 55), .ref (o + 57), .ref (o + 59), .ref (o + 61), .int im])) := by rw [ze45]; rw [va_up_ne _ _ (show o ≠ o + 61 by omega)]; exact K0
      have zK50 : zh44 (o + 1) = some (.inr (3, [.ref (o + 1 + 1), .ref (o + 1 + 7), .ref (o + 1 + 9), .ref (o + 1 + 11), .int (d 13)])) := by rw [ze45]; rw [va_up_ne _ _ (show o + 1 ≠ o + 61 by omega)]; exact K1
      have zK51 : zh44 (o + 2) = some (.inr (2, [.ref (o + 3), .ref (o + 4), .ref (o + 5), .ref (o + 6), .ref (o + 7), .int (nI len), .int (d 0), .int (d 2), .int (d 3), .int (nI nc), .int (d 10), .int cold, .int wind])) := by rw [ze45]; rw [va_up_ne _ _ (show o + 2 ≠ o + 61 by omega)]; exact K2
      have zK52 : zh44 (o + 3) = arI κ 40 (win 100 40 d) := by rw [ze45]; rw [va_up_ne _ _ (show o + 3 ≠ o + 61 by omega)]; exact K3
      have zK53 : zh44 (o + 33) = arR κ 3 4 (shF o) := by rw [ze45]; rw [va_up_ne _ _ (show o + 33 ≠ o + 61 by omega)]; exact K4
      have zK54 : zh44 (o + 61) = arI κ 6 (bmp fo 2) := by rw [ze45]; exact va_up_self _ _ _
      have zK55 : zh44 (o + 34 + 2 * sk) = some (.inr (6, [.ref (o + 34 + 2 * sk + 1), .int (nI (ss sk)), .int (bi sk)])) := by rw [ze45]; rw [va_up_ne _ _ (show o + 34 + 2 * sk ≠ o + 61 by omega)]; exact zS7
      have zK56 : zh44 (o + 34 + 2 * sk + 1) = arI κ 40 (win (40 * sk) 40 nu) := by rw [ze45]; rw [va_up_ne _ _ (show o + 34 + 2 * sk + 1 ≠ o + 61 by omega)]; exact zS8
      have zl57 : ∀ zq : Nat, zq < (o + 76) → zq ≠ (o + 61) → zh44 zq = h zq := by intro zq hzq zn0; rw [ze45, va_up_ne _ _ (show zq ≠ o + 61 by omega)]; try rfl
      have zr58 : Zr κ (o + 76) h zh44 := (Zr.refl).trans (Zr.same (fun zq h1 => by rw [ze45, va_up_ne _ _ (show zq ≠ o + 61 by omega)]))
      refine z_iret X E dX11_draw_32 (by omega) (by omega) ⟨?_, ?_, ?_, ?_, ?_, ?_⟩
      · rw [(nuDr_2 (ss := ss) (nu := nu) (d := d) (len := len) hsk (by assumption)).1]; first | exact congrArg (fun z => some (Value.int z)) (ansOf_0 _).symm | rfl
      · rfl
      · exact fun zq hzq zn0 zn1 zn2 zn3 zn4 zn5 zn6 zn7 zn8 => zl57 zq hzq zn0
      · exact zr58
      · rw [(nuDr_2 (ss := ss) (nu := nu) (d := d) (len := len) hsk (by assumption)).1]; first | (rw [bump_0]; exact zK54) | exact zK54
      · rw [(nuDr_2 (ss := ss) (nu := nu) (d := d) (len := len) hsk (by assumption)).2]; exact hSh.same (fun zq h1 h2 => zl57 zq (by omega) (by omega))
  · replace zc6 := b2i_f zc6
    refine z_aload_n X 0 dX11_draw_7 rfl ?_
    refine z_iconst (v := 1) X dX11_draw_8 (by decide) ?_
    refine z_callV X (c_fail (κ := κ) (n := n) (o := (o)) (im := (im)) (fo := (fo)) (k := (1)) K0 K5 (by first | assumption | omega) (by first | assumption | omega)) mk_X11_fail dX11_draw_9 wd_260 wd_262 wd_0 rfl K0 rfl rfl rfl (Nat.le_of_ble_eq_true rfl) (Nat.le_of_ble_eq_true rfl) (Nat.le_of_ble_eq_true rfl) (by omega) (by omega) (fun q zh59 zm61 zp62 => ?_)
    obtain ⟨rfl, ze60, zn63⟩ := zp62
    subst zm61
    refine z_st (st' := [.int (lowE 1)]) rfl ?_
    have zK64 : zh59 o = some (.inr (11, [.ref (o + 1), .ref (o + 14), .ref (o + 27), .ref (o + 33), .ref (o + 42), .ref (o + 55), .ref (o + 57), .ref (o + 59), .ref (o + 61), .int im])) := by rw [ze60]; rw [va_up_ne _ _ (show o ≠ o + 61 by omega)]; exact K0
    have zK65 : zh59 (o + 1) = some (.inr (3, [.ref (o + 1 + 1), .ref (o + 1 + 7), .ref (o + 1 + 9), .ref (o + 1 + 11), .int (d 13)])) := by rw [ze60]; rw [va_up_ne _ _ (show o + 1 ≠ o + 61 by omega)]; exact K1
    have zK66 : zh59 (o + 2) = some (.inr (2, [.ref (o + 3), .ref (o + 4), .ref (o + 5), .ref (o + 6), .ref (o + 7), .int (nI len), .int (d 0), .int (d 2), .int (d 3), .int (nI nc), .int (d 10), .int cold, .int wind])) := by rw [ze60]; rw [va_up_ne _ _ (show o + 2 ≠ o + 61 by omega)]; exact K2
    have zK67 : zh59 (o + 3) = arI κ 40 (win 100 40 d) := by rw [ze60]; rw [va_up_ne _ _ (show o + 3 ≠ o + 61 by omega)]; exact K3
    have zK68 : zh59 (o + 33) = arR κ 3 4 (shF o) := by rw [ze60]; rw [va_up_ne _ _ (show o + 33 ≠ o + 61 by omega)]; exact K4
    have zK69 : zh59 (o + 61) = arI κ 6 (bmp fo 1) := by rw [ze60]; exact va_up_self _ _ _
    have zl70 : ∀ zq : Nat, zq < (o + 76) → zq ≠ (o + 61) → zh59 zq = h zq := by intro zq hzq zn0; rw [ze60, va_up_ne _ _ (show zq ≠ o + 61 by omega)]; try rfl
    have zr71 : Zr κ (o + 76) h zh59 := (Zr.refl).trans (Zr.same (fun zq h1 => by rw [ze60, va_up_ne _ _ (show zq ≠ o + 61 by omega)]))
    refine z_iret X E dX11_draw_12 (by omega) (by omega) ⟨?_, ?_, ?_, ?_, ?_, ?_⟩
    · rw [(nuDr_1 (bi := bi) (ss := ss) (nu := nu) (d := d) (len := len) (s := s) (by assumption)).1]; first | exact congrArg (fun z => some (Value.int z)) (ansOf_0 _).symm | rfl
    · rfl
    · exact fun zq hzq zn0 zn1 zn2 zn3 zn4 zn5 zn6 zn7 zn8 => zl70 zq hzq zn0
    · exact zr71
    · rw [(nuDr_1 (bi := bi) (ss := ss) (nu := nu) (d := d) (len := len) (s := s) (by assumption)).1]; first | (rw [bump_0]; exact zK69) | exact zK69
    · rw [(nuDr_1 (bi := bi) (ss := ss) (nu := nu) (d := d) (len := len) (s := s) (by assumption)).2]; exact hSh.same (fun zq h1 h2 => zl70 zq (by omega) (by omega))
set_option maxHeartbeats 4000000 in
set_option maxRecDepth 100000 in
theorem p_sheet {κ : Wc} {l : Launch} {h : Mm} {n : Nat} {o : Nat} {im : Int32} {fo : Nat → Int32} {s : Int32} {w : Int32} {j : Int32} {bi : Nat → Int32} {ss : Nat → Nat} {nu : Nat → Int32} (K0 : h o = some (.inr (11, [.ref (o + 1), .ref (o + 14), .ref (o + 27), .ref (o + 33), .ref (o + 42), .ref (o + 55), .ref (o + 57), .ref (o + 59), .ref (o + 61), .int im]))) (K1 : h (o + 33) = arR κ 3 4 (shF o)) (K2 : h (o + 61) = arI κ 6 fo) (hSh : ShO κ o h bi ss nu) : Con κ l yX11_sheet cX11_sheet 4 (some .int) 4 0 0 [.ref o, .int s, .int w, .int j] h n (fun q h' n' => q = some (.int (ansOf (opSheet s w j))) ∧ n' = n ∧ (∀ zq : Nat, zq < (o + 76) → zq ≠ (o + 61) → zq ≠ (o + 34) → zq ≠ (o + 35) → zq ≠ (o + 36) → zq ≠ (o + 37) → zq ≠ (o + 38) → zq ≠ (o + 39) → zq ≠ (o + 40) → zq ≠ (o + 41) → h' zq = h zq) ∧ Zr κ (o + 76) h h' ∧ h' (o + 61) = arI κ 6 (bump (opSheet s w j) fo) ∧ ShO κ o h' (biSheet bi s w j) (ssSheet ss s w j) (nuSheet nu s w j)) := by
  refine Con.of mk_X11_sheet (Nat.le_of_ble_eq_true rfl) (fun G hG X E => ?_)
  subst hG
  refine z_ls (ls' := [(0, .ref o), (1, .int s), (2, .int w), (3, .int j)]) rfl ?_
  refine z_iload_n X 1 dX11_sheet_0 rfl ?_
  refine z_callS X (c_isSheet (κ := κ) (n := n) (v := (s))  ) mk_X11_isSheet dX11_sheet_1 wd_288 wd_289 rfl rfl (Nat.le_of_ble_eq_true rfl) (Nat.le_of_ble_eq_true rfl) (Nat.le_of_ble_eq_true rfl) (by omega) (by omega) (fun q zh1 zm3 zp4 => ?_)
  obtain ⟨rfl, ze2, zn5⟩ := zp4
  subst zm3
  subst zh1
  refine z_st (st' := [.int (b2i (0 ≤ (s : Int32).toInt ∧ (s : Int32).toInt ≤ 3))]) rfl ?_
  refine z_if_eq X 14 dX11_sheet_4 (by decide) (fun zc6 => ?_) (fun zc6 => ?_)
  · replace zc6 := b2i_f zc6
    refine z_aload_n X 0 dX11_sheet_14 rfl ?_
    refine z_iconst (v := 1) X dX11_sheet_15 (by decide) ?_
    refine z_callV X (c_fail (κ := κ) (n := n) (o := (o)) (im := (im)) (fo := (fo)) (k := (1)) K0 K2 (by first | assumption | omega) (by first | assumption | omega)) mk_X11_fail dX11_sheet_16 wd_260 wd_262 wd_0 rfl K0 rfl rfl rfl (Nat.le_of_ble_eq_true rfl) (Nat.le_of_ble_eq_true rfl) (Nat.le_of_ble_eq_true rfl) (by omega) (by omega) (fun q zh7 zm9 zp10 => ?_)
    obtain ⟨rfl, ze8, zn11⟩ := zp10
    subst zm9
    refine z_st (st' := [.int (lowE 1)]) rfl ?_
    have zK12 : zh7 o = some (.inr (11, [.ref (o + 1), .ref (o + 14), .ref (o + 27), .ref (o + 33), .ref (o + 42), .ref (o + 55), .ref (o + 57), .ref (o + 59), .ref (o + 61), .int im])) := by rw [ze8]; rw [va_up_ne _ _ (show o ≠ o + 61 by omega)]; exact K0
    have zK13 : zh7 (o + 33) = arR κ 3 4 (shF o) := by rw [ze8]; rw [va_up_ne _ _ (show o + 33 ≠ o + 61 by omega)]; exact K1
    have zK14 : zh7 (o + 61) = arI κ 6 (bmp fo 1) := by rw [ze8]; exact va_up_self _ _ _
    have zl15 : ∀ zq : Nat, zq < (o + 76) → zq ≠ (o + 61) → zh7 zq = h zq := by intro zq hzq zn0; rw [ze8, va_up_ne _ _ (show zq ≠ o + 61 by omega)]; try rfl
    have zr16 : Zr κ (o + 76) h zh7 := (Zr.refl).trans (Zr.same (fun zq h1 => by rw [ze8, va_up_ne _ _ (show zq ≠ o + 61 by omega)]))
    have hop : opSheet s w j = (1, 0) := by (unfold opSheet; (try simp only [ i_eq, i_lt, i_le, show (-1 : Int32).toInt = -1 by decide, show (0 : Int32).toInt = 0 by decide, show (1 : Int32).toInt = 1 by decide, show (2 : Int32).toInt = 2 by decide, show (3 : Int32).toInt = 3 by decide, show (4 : Int32).toInt = 4 by decide, show (5 : Int32).toInt = 5 by decide, show (6 : Int32).toInt = 6 by decide, show (7 : Int32).toInt = 7 by decide, show (8 : Int32).toInt = 8 by decide, show (9 : Int32).toInt = 9 by decide, show (10 : Int32).toInt = 10 by decide, show (11 : Int32).toInt = 11 by decide, show (12 : Int32).toInt = 12 by decide, show (13 : Int32).toInt = 13 by decide, show (14 : Int32).toInt = 14 by decide, show (15 : Int32).toInt = 15 by decide, show (16 : Int32).toInt = 16 by decide, show (20 : Int32).toInt = 20 by decide, show (39 : Int32).toInt = 39 by decide, show (40 : Int32).toInt = 40 by decide, show (50 : Int32).toInt = 50 by decide, show (60 : Int32).toInt = 60 by decide, show (99 : Int32).toInt = 99 by decide, show (100 : Int32).toInt = 100 by decide, show (999 : Int32).toInt = 999 by decide, show (9999 : Int32).toInt = 9999 by decide, show (99999 : Int32).toInt = 99999 by decide, show (999999 : Int32).toInt = 999999 by decide, show (9999999 : Int32).toInt = 9999999 by decide, show (-50 : Int32).toInt = -50 by decide, show (32 : Int32).toInt = 32 by decide] at *); (repeat first | rw [if_pos (by omega)] | rw [if_neg (by omega)]))
    refine z_iret X E dX11_sheet_19 (by omega) (by omega) ⟨?_, ?_, ?_, ?_, ?_, ?_⟩
    · rw [hop]; first | exact congrArg (fun z => some (Value.int z)) (ansOf_0 _).symm | rfl
    · rfl
    · exact fun zq hzq zn0 zn1 zn2 zn3 zn4 zn5 zn6 zn7 zn8 => zl15 zq hzq zn0
    · exact zr16
    · rw [hop]; first | (rw [bump_0]; exact zK14) | exact zK14
    · rw [(sht_e (bi := bi) (nu := nu) (by decide) hop).1, (sht_e (bi := bi) (nu := nu) (by decide) hop).2, ss_e (by decide) hop]; exact hSh.same (fun zq h1 h2 => zl15 zq (by omega) (by omega))
  · replace zc6 := b2i_t zc6
    refine z_iload_n X 2 dX11_sheet_7 rfl ?_
    refine z_callS X (c_isWidth (κ := κ) (n := n) (v := (w))  ) mk_X11_isWidthOfSheet dX11_sheet_8 wd_864 wd_865 rfl rfl (Nat.le_of_ble_eq_true rfl) (Nat.le_of_ble_eq_true rfl) (Nat.le_of_ble_eq_true rfl) (by omega) (by omega) (fun q zh17 zm19 zp20 => ?_)
    obtain ⟨rfl, ze18, zn21⟩ := zp20
    subst zm19
    subst zh17
    refine z_st (st' := [.int (b2i ((w : Int32).toInt = 0 ∨ (w : Int32).toInt = 8 ∨ (w : Int32).toInt = 16 ∨ (w : Int32).toInt = 32))]) rfl ?_
    refine z_if_ne X 20 dX11_sheet_11 (by decide) (fun zc22 => ?_) (fun zc22 => ?_)
    · replace zc22 := b2i_t zc22
      refine z_iload_n X 2 dX11_sheet_20 rfl ?_
      refine z_if_eq X 34 dX11_sheet_21 (by decide) (fun zc23 => ?_) (fun zc23 => ?_)
      · refine z_iload_n X 2 dX11_sheet_34 rfl ?_
        refine z_if_eq X 50 dX11_sheet_35 (by decide) (fun zc24 => ?_) (fun zc24 => ?_)
        · obtain ⟨sk, hsk, rfl⟩ := ix_of (c := s) (len := 4) (by omega) (by omega)
          have zS25 := (hSh sk hsk).1
          have zS26 := (hSh sk hsk).2.1
          have hss_sk := (hSh sk hsk).2.2
          refine z_aload_n X 0 dX11_sheet_50 rfl ?_
          refine z_get X fl_X11_28_11 dX11_sheet_51 K0 rfl ?_
          refine z_iload_n X 1 dX11_sheet_54 rfl ?_
          refine z_aald (t := 3) (v := .ref (o + 34 + 2 * sk)) X dX11_sheet_55 K1 rfl (vp_in_nI (n := sk) (by omega) (by omega)) (by rw [nI_clamp (by omega)]; rfl) ?_
          refine z_iload_n X 2 dX11_sheet_56 rfl ?_
          refine z_iload_n X 2 dX11_sheet_57 rfl ?_
          refine z_if_ne X 65 dX11_sheet_58 (by decide) (fun zc27 => ?_) (fun zc27 => ?_)
          · first | exact absurd zc27 zc24 | exact absurd zc24 zc27 | (exfalso; omega) | (exfalso; simp only [i_eq, i_lt, i_le] at *; omega)
          · refine z_iconst (v := 0) X dX11_sheet_61 (by decide) ?_
            refine z_goto X 66 dX11_sheet_62 (by decide) ?_
            refine z_callV X (c_Row_reset (κ := κ) (n := n) (r := (o + 34 + 2 * sk)) (k := (ss sk)) (j := (0)) (bt := (bi sk)) (b2 := (w)) (N := (40)) (f := (win (40 * sk) 40 nu)) zS25 zS26 (by omega) (by first | assumption | omega)) mk_X6_reset dX11_sheet_66 wd_867 wd_868 wd_869 rfl zS25 rfl rfl rfl (Nat.le_of_ble_eq_true rfl) (Nat.le_of_ble_eq_true rfl) (Nat.le_of_ble_eq_true rfl) (by omega) (by omega) (fun q zh28 zm30 zp31 => ?_)
            obtain ⟨rfl, ze29, zn32⟩ := zp31
            subst zm30
            refine z_st (st' := []) rfl ?_
            have zK33 : zh28 o = some (.inr (11, [.ref (o + 1), .ref (o + 14), .ref (o + 27), .ref (o + 33), .ref (o + 42), .ref (o + 55), .ref (o + 57), .ref (o + 59), .ref (o + 61), .int im])) := by rw [ze29]; rw [va_up_ne _ _ (show o ≠ o + 34 + 2 * sk + 1 by omega)]; rw [va_up_ne _ _ (show o ≠ o + 34 + 2 * sk by omega)]; exact K0
            have zK34 : zh28 (o + 33) = arR κ 3 4 (shF o) := by rw [ze29]; rw [va_up_ne _ _ (show o + 33 ≠ o + 34 + 2 * sk + 1 by omega)]; rw [va_up_ne _ _ (show o + 33 ≠ o + 34 + 2 * sk by omega)]; exact K1
            have zK35 : zh28 (o + 61) = arI κ 6 fo := by rw [ze29]; rw [va_up_ne _ _ (show o + 61 ≠ o + 34 + 2 * sk + 1 by omega)]; rw [va_up_ne _ _ (show o + 61 ≠ o + 34 + 2 * sk by omega)]; exact K2
            have zK36 : zh28 (o + 34 + 2 * sk) = some (.inr (6, [.ref ((o + 34 + 2 * sk) + 1), .int (nI 0), .int w])) := by rw [ze29]; rw [va_up_ne _ _ (show o + 34 + 2 * sk ≠ o + 34 + 2 * sk + 1 by omega)]; exact va_up_self _ _ _
            have zK37 : zh28 (o + 34 + 2 * sk + 1) = arI κ 40 (fun _ => 0) := by rw [ze29]; exact va_up_self _ _ _
            have zl38 : ∀ zq : Nat, zq < (o + 76) → zq ≠ (o + 34 + 2 * sk) → zq ≠ (o + 34 + 2 * sk + 1) → zh28 zq = h zq := by intro zq hzq zn0 zn1; rw [ze29, va_up_ne _ _ (show zq ≠ o + 34 + 2 * sk + 1 by omega), va_up_ne _ _ (show zq ≠ o + 34 + 2 * sk by omega)]; try rfl
            have zr39 : Zr κ (o + 76) h zh28 := (Zr.refl).trans (Zr.same (fun zq h1 => by rw [ze29, va_up_ne _ _ (show zq ≠ o + 34 + 2 * sk + 1 by omega), va_up_ne _ _ (show zq ≠ o + 34 + 2 * sk by omega)]))
            refine z_iconst (v := 1) X dX11_sheet_69 (by decide) ?_
            have hop : opSheet (nI sk) w j = (0, 1) := by (unfold opSheet; (try simp only [i_nI (n := sk) (by omega),  i_eq, i_lt, i_le, show (-1 : Int32).toInt = -1 by decide, show (0 : Int32).toInt = 0 by decide, show (1 : Int32).toInt = 1 by decide, show (2 : Int32).toInt = 2 by decide, show (3 : Int32).toInt = 3 by decide, show (4 : Int32).toInt = 4 by decide, show (5 : Int32).toInt = 5 by decide, show (6 : Int32).toInt = 6 by decide, show (7 : Int32).toInt = 7 by decide, show (8 : Int32).toInt = 8 by decide, show (9 : Int32).toInt = 9 by decide, show (10 : Int32).toInt = 10 by decide, show (11 : Int32).toInt = 11 by decide, show (12 : Int32).toInt = 12 by decide, show (13 : Int32).toInt = 13 by decide, show (14 : Int32).toInt = 14 by decide, show (15 : Int32).toInt = 15 by decide, show (16 : Int32).toInt = 16 by decide, show (20 : Int32).toInt = 20 by decide, show (39 : Int32).toInt = 39 by decide, show (40 : Int32).toInt = 40 by decide, show (50 : Int32).toInt = 50 by decide, show (60 : Int32).toInt = 60 by decide, show (99 : Int32).toInt = 99 by decide, show (100 : Int32).toInt = 100 by decide, show (999 : Int32).toInt = 999 by decide, show (9999 : Int32).toInt = 9999 by decide, show (99999 : Int32).toInt = 99999 by decide, show (999999 : Int32).toInt = 999999 by decide, show (9999999 : Int32).toInt = 9999999 by decide, show (-50 : Int32).toInt = -50 by decide, show (32 : Int32).toInt = 32 by decide] at *); (repeat first | rw [if_pos (by omega)] | rw [if_neg (by omega)]))
            refine z_iret X E dX11_sheet_70 (by omega) (by omega) ⟨?_, ?_, ?_, ?_, ?_, ?_⟩
            · rw [hop]; first | exact congrArg (fun z => some (Value.int z)) (ansOf_0 _).symm | rfl
            · rfl
            · exact fun zq hzq zn0 zn1 zn2 zn3 zn4 zn5 zn6 zn7 zn8 => zl38 zq hzq (by omega) (by omega)
            · exact zr39
            · rw [hop]; first | (rw [bump_0]; exact zK35) | exact zK35
            · rw [(sht_0 (bi := bi) (nu := nu) hsk hop).1, (sht_0 (bi := bi) (nu := nu) hsk hop).2, ss_0 hsk hop]; exact hSh.one (z2 := 0) (bi2 := upd bi sk w) hsk (fun zq h1 h2 h3 h4 => zl38 zq (by omega) h3 h4) ((zK36).trans (by rw [pk_us])) ((zK37).trans (congrArg (arI κ 40) win_zero.symm)) (by omega) (show (if (sk = sk) then (if w.toInt = 0 then 0 else j.toNatClampNeg) else ss sk) = 0 by (rw [if_pos rfl, if_pos (by rw [(by assumption : w = 0)]; decide)])) (fun s2 h1 h2 => ⟨pk_un h2, if_neg h2, fun j2 h3 => if_neg (by omega)⟩)
        · first | exact absurd zc24 zc23 | exact absurd zc23 zc24 | (exfalso; omega) | (exfalso; simp only [i_eq, i_lt, i_le] at *; omega)
      · refine z_iload_n X 3 dX11_sheet_24 rfl ?_
        refine z_if_ge X 34 dX11_sheet_25 (by decide) (fun zc40 => ?_) (fun zc40 => ?_)
        · refine z_iload_n X 2 dX11_sheet_34 rfl ?_
          refine z_if_eq X 50 dX11_sheet_35 (by decide) (fun zc41 => ?_) (fun zc41 => ?_)
          · first | exact absurd zc41 zc23 | exact absurd zc23 zc41 | (exfalso; omega) | (exfalso; simp only [i_eq, i_lt, i_le] at *; omega)
          · refine z_iload_n X 3 dX11_sheet_38 rfl ?_
            refine z_bipush (v := 40) X dX11_sheet_39 (by decide) ?_
            refine z_icmp_le X 50 dX11_sheet_41 (by decide) (fun zc42 => ?_) (fun zc42 => ?_)
            · have hj0 : 0 ≤ j.toInt ∧ j.toInt ≤ 40 := by (simp only [i_eq, i_lt, i_le, show (-1 : Int32).toInt = -1 by decide, show (0 : Int32).toInt = 0 by decide, show (1 : Int32).toInt = 1 by decide, show (2 : Int32).toInt = 2 by decide, show (3 : Int32).toInt = 3 by decide, show (4 : Int32).toInt = 4 by decide, show (5 : Int32).toInt = 5 by decide, show (6 : Int32).toInt = 6 by decide, show (7 : Int32).toInt = 7 by decide, show (8 : Int32).toInt = 8 by decide, show (9 : Int32).toInt = 9 by decide, show (10 : Int32).toInt = 10 by decide, show (11 : Int32).toInt = 11 by decide, show (12 : Int32).toInt = 12 by decide, show (13 : Int32).toInt = 13 by decide, show (14 : Int32).toInt = 14 by decide, show (15 : Int32).toInt = 15 by decide, show (16 : Int32).toInt = 16 by decide, show (20 : Int32).toInt = 20 by decide, show (39 : Int32).toInt = 39 by decide, show (40 : Int32).toInt = 40 by decide, show (50 : Int32).toInt = 50 by decide, show (60 : Int32).toInt = 60 by decide, show (99 : Int32).toInt = 99 by decide, show (100 : Int32).toInt = 100 by decide, show (999 : Int32).toInt = 999 by decide, show (9999 : Int32).toInt = 9999 by decide, show (99999 : Int32).toInt = 99999 by decide, show (999999 : Int32).toInt = 999999 by decide, show (9999999 : Int32).toInt = 9999999 by decide, show (-50 : Int32).toInt = -50 by decide, show (32 : Int32).toInt = 32 by decide] at *; omega)
              obtain ⟨jk, hjk, rfl⟩ := ix_of (c := j) (len := 41) (by omega) (by omega)
              obtain ⟨sk, hsk, rfl⟩ := ix_of (c := s) (len := 4) (by omega) (by omega)
              have zS43 := (hSh sk hsk).1
              have zS44 := (hSh sk hsk).2.1
              have hss_sk := (hSh sk hsk).2.2
              refine z_aload_n X 0 dX11_sheet_50 rfl ?_
              refine z_get X fl_X11_28_11 dX11_sheet_51 K0 rfl ?_
              refine z_iload_n X 1 dX11_sheet_54 rfl ?_
              refine z_aald (t := 3) (v := .ref (o + 34 + 2 * sk)) X dX11_sheet_55 K1 rfl (vp_in_nI (n := sk) (by omega) (by omega)) (by rw [nI_clamp (by omega)]; rfl) ?_
              refine z_iload_n X 2 dX11_sheet_56 rfl ?_
              refine z_iload_n X 2 dX11_sheet_57 rfl ?_
              refine z_if_ne X 65 dX11_sheet_58 (by decide) (fun zc45 => ?_) (fun zc45 => ?_)
              · refine z_iload_n X 3 dX11_sheet_65 rfl ?_
                refine z_callV X (c_Row_reset (κ := κ) (n := n) (r := (o + 34 + 2 * sk)) (k := (ss sk)) (j := (jk)) (bt := (bi sk)) (b2 := (w)) (N := (40)) (f := (win (40 * sk) 40 nu)) zS43 zS44 (by omega) (by first | assumption | omega)) mk_X6_reset dX11_sheet_66 wd_867 wd_868 wd_869 rfl zS43 rfl rfl rfl (Nat.le_of_ble_eq_true rfl) (Nat.le_of_ble_eq_true rfl) (Nat.le_of_ble_eq_true rfl) (by omega) (by omega) (fun q zh46 zm48 zp49 => ?_)
                obtain ⟨rfl, ze47, zn50⟩ := zp49
                subst zm48
                refine z_st (st' := []) rfl ?_
                have zK51 : zh46 o = some (.inr (11, [.ref (o + 1), .ref (o + 14), .ref (o + 27), .ref (o + 33), .ref (o + 42), .ref (o + 55), .ref (o + 57), .ref (o + 59), .ref (o + 61), .int im])) := by rw [ze47]; rw [va_up_ne _ _ (show o ≠ o + 34 + 2 * sk + 1 by omega)]; rw [va_up_ne _ _ (show o ≠ o + 34 + 2 * sk by omega)]; exact K0
                have zK52 : zh46 (o + 33) = arR κ 3 4 (shF o) := by rw [ze47]; rw [va_up_ne _ _ (show o + 33 ≠ o + 34 + 2 * sk + 1 by omega)]; rw [va_up_ne _ _ (show o + 33 ≠ o + 34 + 2 * sk by omega)]; exact K1
                have zK53 : zh46 (o + 61) = arI κ 6 fo := by rw [ze47]; rw [va_up_ne _ _ (show o + 61 ≠ o + 34 + 2 * sk + 1 by omega)]; rw [va_up_ne _ _ (show o + 61 ≠ o + 34 + 2 * sk by omega)]; exact K2
                have zK54 : zh46 (o + 34 + 2 * sk) = some (.inr (6, [.ref ((o + 34 + 2 * sk) + 1), .int (nI jk), .int w])) := by rw [ze47]; rw [va_up_ne _ _ (show o + 34 + 2 * sk ≠ o + 34 + 2 * sk + 1 by omega)]; exact va_up_self _ _ _
                have zK55 : zh46 (o + 34 + 2 * sk + 1) = arI κ 40 (fun _ => 0) := by rw [ze47]; exact va_up_self _ _ _
                have zl56 : ∀ zq : Nat, zq < (o + 76) → zq ≠ (o + 34 + 2 * sk) → zq ≠ (o + 34 + 2 * sk + 1) → zh46 zq = h zq := by intro zq hzq zn0 zn1; rw [ze47, va_up_ne _ _ (show zq ≠ o + 34 + 2 * sk + 1 by omega), va_up_ne _ _ (show zq ≠ o + 34 + 2 * sk by omega)]; try rfl
                have zr57 : Zr κ (o + 76) h zh46 := (Zr.refl).trans (Zr.same (fun zq h1 => by rw [ze47, va_up_ne _ _ (show zq ≠ o + 34 + 2 * sk + 1 by omega), va_up_ne _ _ (show zq ≠ o + 34 + 2 * sk by omega)]))
                refine z_iconst (v := 1) X dX11_sheet_69 (by decide) ?_
                have hop : opSheet (nI sk) w (nI jk) = (0, 1) := by (unfold opSheet; (try simp only [i_nI (n := sk) (by omega), i_nI (n := jk) (by omega),  i_eq, i_lt, i_le, show (-1 : Int32).toInt = -1 by decide, show (0 : Int32).toInt = 0 by decide, show (1 : Int32).toInt = 1 by decide, show (2 : Int32).toInt = 2 by decide, show (3 : Int32).toInt = 3 by decide, show (4 : Int32).toInt = 4 by decide, show (5 : Int32).toInt = 5 by decide, show (6 : Int32).toInt = 6 by decide, show (7 : Int32).toInt = 7 by decide, show (8 : Int32).toInt = 8 by decide, show (9 : Int32).toInt = 9 by decide, show (10 : Int32).toInt = 10 by decide, show (11 : Int32).toInt = 11 by decide, show (12 : Int32).toInt = 12 by decide, show (13 : Int32).toInt = 13 by decide, show (14 : Int32).toInt = 14 by decide, show (15 : Int32).toInt = 15 by decide, show (16 : Int32).toInt = 16 by decide, show (20 : Int32).toInt = 20 by decide, show (39 : Int32).toInt = 39 by decide, show (40 : Int32).toInt = 40 by decide, show (50 : Int32).toInt = 50 by decide, show (60 : Int32).toInt = 60 by decide, show (99 : Int32).toInt = 99 by decide, show (100 : Int32).toInt = 100 by decide, show (999 : Int32).toInt = 999 by decide, show (9999 : Int32).toInt = 9999 by decide, show (99999 : Int32).toInt = 99999 by decide, show (999999 : Int32).toInt = 999999 by decide, show (9999999 : Int32).toInt = 9999999 by decide, show (-50 : Int32).toInt = -50 by decide, show (32 : Int32).toInt = 32 by decide] at *); (repeat first | rw [if_pos (by omega)] | rw [if_neg (by omega)]))
                refine z_iret X E dX11_sheet_70 (by omega) (by omega) ⟨?_, ?_, ?_, ?_, ?_, ?_⟩
                · rw [hop]; first | exact congrArg (fun z => some (Value.int z)) (ansOf_0 _).symm | rfl
                · rfl
                · exact fun zq hzq zn0 zn1 zn2 zn3 zn4 zn5 zn6 zn7 zn8 => zl56 zq hzq (by omega) (by omega)
                · exact zr57
                · rw [hop]; first | (rw [bump_0]; exact zK53) | exact zK53
                · rw [(sht_0 (bi := bi) (nu := nu) hsk hop).1, (sht_0 (bi := bi) (nu := nu) hsk hop).2, ss_0 hsk hop]; exact hSh.one (z2 := jk) (bi2 := upd bi sk w) hsk (fun zq h1 h2 h3 h4 => zl56 zq (by omega) h3 h4) ((zK54).trans (by rw [pk_us])) ((zK55).trans (congrArg (arI κ 40) win_zero.symm)) (by omega) (show (if (sk = sk) then (if w.toInt = 0 then 0 else (nI jk).toNatClampNeg) else ss sk) = jk by (rw [if_pos rfl, if_neg (fun zq => (by assumption : ¬ w = 0) (eq0_of zq)), nI_clamp (by omega)])) (fun s2 h1 h2 => ⟨pk_un h2, if_neg h2, fun j2 h3 => if_neg (by omega)⟩)
              · first | exact absurd zc45 zc41 | exact absurd zc41 zc45 | (exfalso; omega) | (exfalso; simp only [i_eq, i_lt, i_le] at *; omega)
            · refine z_aload_n X 0 dX11_sheet_44 rfl ?_
              refine z_iconst (v := 1) X dX11_sheet_45 (by decide) ?_
              refine z_callV X (c_fail (κ := κ) (n := n) (o := (o)) (im := (im)) (fo := (fo)) (k := (1)) K0 K2 (by first | assumption | omega) (by first | assumption | omega)) mk_X11_fail dX11_sheet_46 wd_260 wd_262 wd_0 rfl K0 rfl rfl rfl (Nat.le_of_ble_eq_true rfl) (Nat.le_of_ble_eq_true rfl) (Nat.le_of_ble_eq_true rfl) (by omega) (by omega) (fun q zh58 zm60 zp61 => ?_)
              obtain ⟨rfl, ze59, zn62⟩ := zp61
              subst zm60
              refine z_st (st' := [.int (lowE 1)]) rfl ?_
              have zK63 : zh58 o = some (.inr (11, [.ref (o + 1), .ref (o + 14), .ref (o + 27), .ref (o + 33), .ref (o + 42), .ref (o + 55), .ref (o + 57), .ref (o + 59), .ref (o + 61), .int im])) := by rw [ze59]; rw [va_up_ne _ _ (show o ≠ o + 61 by omega)]; exact K0
              have zK64 : zh58 (o + 33) = arR κ 3 4 (shF o) := by rw [ze59]; rw [va_up_ne _ _ (show o + 33 ≠ o + 61 by omega)]; exact K1
              have zK65 : zh58 (o + 61) = arI κ 6 (bmp fo 1) := by rw [ze59]; exact va_up_self _ _ _
              have zl66 : ∀ zq : Nat, zq < (o + 76) → zq ≠ (o + 61) → zh58 zq = h zq := by intro zq hzq zn0; rw [ze59, va_up_ne _ _ (show zq ≠ o + 61 by omega)]; try rfl
              have zr67 : Zr κ (o + 76) h zh58 := (Zr.refl).trans (Zr.same (fun zq h1 => by rw [ze59, va_up_ne _ _ (show zq ≠ o + 61 by omega)]))
              have hop : opSheet s w j = (1, 0) := by (unfold opSheet; (try simp only [ i_eq, i_lt, i_le, show (-1 : Int32).toInt = -1 by decide, show (0 : Int32).toInt = 0 by decide, show (1 : Int32).toInt = 1 by decide, show (2 : Int32).toInt = 2 by decide, show (3 : Int32).toInt = 3 by decide, show (4 : Int32).toInt = 4 by decide, show (5 : Int32).toInt = 5 by decide, show (6 : Int32).toInt = 6 by decide, show (7 : Int32).toInt = 7 by decide, show (8 : Int32).toInt = 8 by decide, show (9 : Int32).toInt = 9 by decide, show (10 : Int32).toInt = 10 by decide, show (11 : Int32).toInt = 11 by decide, show (12 : Int32).toInt = 12 by decide, show (13 : Int32).toInt = 13 by decide, show (14 : Int32).toInt = 14 by decide, show (15 : Int32).toInt = 15 by decide, show (16 : Int32).toInt = 16 by decide, show (20 : Int32).toInt = 20 by decide, show (39 : Int32).toInt = 39 by decide, show (40 : Int32).toInt = 40 by decide, show (50 : Int32).toInt = 50 by decide, show (60 : Int32).toInt = 60 by decide, show (99 : Int32).toInt = 99 by decide, show (100 : Int32).toInt = 100 by decide, show (999 : Int32).toInt = 999 by decide, show (9999 : Int32).toInt = 9999 by decide, show (99999 : Int32).toInt = 99999 by decide, show (999999 : Int32).toInt = 999999 by decide, show (9999999 : Int32).toInt = 9999999 by decide, show (-50 : Int32).toInt = -50 by decide, show (32 : Int32).toInt = 32 by decide] at *); (repeat first | rw [if_pos (by omega)] | rw [if_neg (by omega)]))
              refine z_iret X E dX11_sheet_49 (by omega) (by omega) ⟨?_, ?_, ?_, ?_, ?_, ?_⟩
              · rw [hop]; first | exact congrArg (fun z => some (Value.int z)) (ansOf_0 _).symm | rfl
              · rfl
              · exact fun zq hzq zn0 zn1 zn2 zn3 zn4 zn5 zn6 zn7 zn8 => zl66 zq hzq zn0
              · exact zr67
              · rw [hop]; first | (rw [bump_0]; exact zK65) | exact zK65
              · rw [(sht_e (bi := bi) (nu := nu) (by decide) hop).1, (sht_e (bi := bi) (nu := nu) (by decide) hop).2, ss_e (by decide) hop]; exact hSh.same (fun zq h1 h2 => zl66 zq (by omega) (by omega))
        · refine z_aload_n X 0 dX11_sheet_28 rfl ?_
          refine z_iconst (v := 3) X dX11_sheet_29 (by decide) ?_
          refine z_callV X (c_fail (κ := κ) (n := n) (o := (o)) (im := (im)) (fo := (fo)) (k := (3)) K0 K2 (by first | assumption | omega) (by first | assumption | omega)) mk_X11_fail dX11_sheet_30 wd_260 wd_262 wd_0 rfl K0 rfl rfl rfl (Nat.le_of_ble_eq_true rfl) (Nat.le_of_ble_eq_true rfl) (Nat.le_of_ble_eq_true rfl) (by omega) (by omega) (fun q zh68 zm70 zp71 => ?_)
          obtain ⟨rfl, ze69, zn72⟩ := zp71
          subst zm70
          refine z_st (st' := [.int (lowE 3)]) rfl ?_
          have zK73 : zh68 o = some (.inr (11, [.ref (o + 1), .ref (o + 14), .ref (o + 27), .ref (o + 33), .ref (o + 42), .ref (o + 55), .ref (o + 57), .ref (o + 59), .ref (o + 61), .int im])) := by rw [ze69]; rw [va_up_ne _ _ (show o ≠ o + 61 by omega)]; exact K0
          have zK74 : zh68 (o + 33) = arR κ 3 4 (shF o) := by rw [ze69]; rw [va_up_ne _ _ (show o + 33 ≠ o + 61 by omega)]; exact K1
          have zK75 : zh68 (o + 61) = arI κ 6 (bmp fo 3) := by rw [ze69]; exact va_up_self _ _ _
          have zl76 : ∀ zq : Nat, zq < (o + 76) → zq ≠ (o + 61) → zh68 zq = h zq := by intro zq hzq zn0; rw [ze69, va_up_ne _ _ (show zq ≠ o + 61 by omega)]; try rfl
          have zr77 : Zr κ (o + 76) h zh68 := (Zr.refl).trans (Zr.same (fun zq h1 => by rw [ze69, va_up_ne _ _ (show zq ≠ o + 61 by omega)]))
          have hop : opSheet s w j = (3, 0) := by (unfold opSheet; (try simp only [ i_eq, i_lt, i_le, show (-1 : Int32).toInt = -1 by decide, show (0 : Int32).toInt = 0 by decide, show (1 : Int32).toInt = 1 by decide, show (2 : Int32).toInt = 2 by decide, show (3 : Int32).toInt = 3 by decide, show (4 : Int32).toInt = 4 by decide, show (5 : Int32).toInt = 5 by decide, show (6 : Int32).toInt = 6 by decide, show (7 : Int32).toInt = 7 by decide, show (8 : Int32).toInt = 8 by decide, show (9 : Int32).toInt = 9 by decide, show (10 : Int32).toInt = 10 by decide, show (11 : Int32).toInt = 11 by decide, show (12 : Int32).toInt = 12 by decide, show (13 : Int32).toInt = 13 by decide, show (14 : Int32).toInt = 14 by decide, show (15 : Int32).toInt = 15 by decide, show (16 : Int32).toInt = 16 by decide, show (20 : Int32).toInt = 20 by decide, show (39 : Int32).toInt = 39 by decide, show (40 : Int32).toInt = 40 by decide, show (50 : Int32).toInt = 50 by decide, show (60 : Int32).toInt = 60 by decide, show (99 : Int32).toInt = 99 by decide, show (100 : Int32).toInt = 100 by decide, show (999 : Int32).toInt = 999 by decide, show (9999 : Int32).toInt = 9999 by decide, show (99999 : Int32).toInt = 99999 by decide, show (999999 : Int32).toInt = 999999 by decide, show (9999999 : Int32).toInt = 9999999 by decide, show (-50 : Int32).toInt = -50 by decide, show (32 : Int32).toInt = 32 by decide] at *); (repeat first | rw [if_pos (by omega)] | rw [if_neg (by omega)]))
          refine z_iret X E dX11_sheet_33 (by omega) (by omega) ⟨?_, ?_, ?_, ?_, ?_, ?_⟩
          · rw [hop]; first | exact congrArg (fun z => some (Value.int z)) (ansOf_0 _).symm | rfl
          · rfl
          · exact fun zq hzq zn0 zn1 zn2 zn3 zn4 zn5 zn6 zn7 zn8 => zl76 zq hzq zn0
          · exact zr77
          · rw [hop]; first | (rw [bump_0]; exact zK75) | exact zK75
          · rw [(sht_e (bi := bi) (nu := nu) (by decide) hop).1, (sht_e (bi := bi) (nu := nu) (by decide) hop).2, ss_e (by decide) hop]; exact hSh.same (fun zq h1 h2 => zl76 zq (by omega) (by omega))
    · replace zc22 := b2i_f zc22
      refine z_aload_n X 0 dX11_sheet_14 rfl ?_
      refine z_iconst (v := 1) X dX11_sheet_15 (by decide) ?_
      refine z_callV X (c_fail (κ := κ) (n := n) (o := (o)) (im := (im)) (fo := (fo)) (k := (1)) K0 K2 (by first | assumption | omega) (by first | assumption | omega)) mk_X11_fail dX11_sheet_16 wd_260 wd_262 wd_0 rfl K0 rfl rfl rfl (Nat.le_of_ble_eq_true rfl) (Nat.le_of_ble_eq_true rfl) (Nat.le_of_ble_eq_true rfl) (by omega) (by omega) (fun q zh78 zm80 zp81 => ?_)
      obtain ⟨rfl, ze79, zn82⟩ := zp81
      subst zm80
      refine z_st (st' := [.int (lowE 1)]) rfl ?_
      have zK83 : zh78 o = some (.inr (11, [.ref (o + 1), .ref (o + 14), .ref (o + 27), .ref (o + 33), .ref (o + 42), .ref (o + 55), .ref (o + 57), .ref (o + 59), .ref (o + 61), .int im])) := by rw [ze79]; rw [va_up_ne _ _ (show o ≠ o + 61 by omega)]; exact K0
      have zK84 : zh78 (o + 33) = arR κ 3 4 (shF o) := by rw [ze79]; rw [va_up_ne _ _ (show o + 33 ≠ o + 61 by omega)]; exact K1
      have zK85 : zh78 (o + 61) = arI κ 6 (bmp fo 1) := by rw [ze79]; exact va_up_self _ _ _
      have zl86 : ∀ zq : Nat, zq < (o + 76) → zq ≠ (o + 61) → zh78 zq = h zq := by intro zq hzq zn0; rw [ze79, va_up_ne _ _ (show zq ≠ o + 61 by omega)]; try rfl
      have zr87 : Zr κ (o + 76) h zh78 := (Zr.refl).trans (Zr.same (fun zq h1 => by rw [ze79, va_up_ne _ _ (show zq ≠ o + 61 by omega)]))
      have hop : opSheet s w j = (1, 0) := by (unfold opSheet; (try simp only [ i_eq, i_lt, i_le, show (-1 : Int32).toInt = -1 by decide, show (0 : Int32).toInt = 0 by decide, show (1 : Int32).toInt = 1 by decide, show (2 : Int32).toInt = 2 by decide, show (3 : Int32).toInt = 3 by decide, show (4 : Int32).toInt = 4 by decide, show (5 : Int32).toInt = 5 by decide, show (6 : Int32).toInt = 6 by decide, show (7 : Int32).toInt = 7 by decide, show (8 : Int32).toInt = 8 by decide, show (9 : Int32).toInt = 9 by decide, show (10 : Int32).toInt = 10 by decide, show (11 : Int32).toInt = 11 by decide, show (12 : Int32).toInt = 12 by decide, show (13 : Int32).toInt = 13 by decide, show (14 : Int32).toInt = 14 by decide, show (15 : Int32).toInt = 15 by decide, show (16 : Int32).toInt = 16 by decide, show (20 : Int32).toInt = 20 by decide, show (39 : Int32).toInt = 39 by decide, show (40 : Int32).toInt = 40 by decide, show (50 : Int32).toInt = 50 by decide, show (60 : Int32).toInt = 60 by decide, show (99 : Int32).toInt = 99 by decide, show (100 : Int32).toInt = 100 by decide, show (999 : Int32).toInt = 999 by decide, show (9999 : Int32).toInt = 9999 by decide, show (99999 : Int32).toInt = 99999 by decide, show (999999 : Int32).toInt = 999999 by decide, show (9999999 : Int32).toInt = 9999999 by decide, show (-50 : Int32).toInt = -50 by decide, show (32 : Int32).toInt = 32 by decide] at *); (repeat first | rw [if_pos (by omega)] | rw [if_neg (by omega)]))
      refine z_iret X E dX11_sheet_19 (by omega) (by omega) ⟨?_, ?_, ?_, ?_, ?_, ?_⟩
      · rw [hop]; first | exact congrArg (fun z => some (Value.int z)) (ansOf_0 _).symm | rfl
      · rfl
      · exact fun zq hzq zn0 zn1 zn2 zn3 zn4 zn5 zn6 zn7 zn8 => zl86 zq hzq zn0
      · exact zr87
      · rw [hop]; first | (rw [bump_0]; exact zK85) | exact zK85
      · rw [(sht_e (bi := bi) (nu := nu) (by decide) hop).1, (sht_e (bi := bi) (nu := nu) (by decide) hop).2, ss_e (by decide) hop]; exact hSh.same (fun zq h1 h2 => zl86 zq (by omega) (by omega))
