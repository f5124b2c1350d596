/-- the least so far, as the class keeps it -/
def AN (f : Nat → Int32) (s : Nat) (b l : Int32) : Prop := (s = 0 ∧ b = 0 ∧ l = -1) ∨ ∃ s', s = s' + 1 ∧ b = nI (argm f s').1 ∧ l = (argm f s').2
theorem AN_0 {f : Nat → Int32} : AN f 0 0 (-1) := Or.inl ⟨rfl, rfl, rfl⟩
theorem argm_nn {f : Nat → Int32} (hf : ∀ s, 0 ≤ (f s).toInt) : ∀ s, 0 ≤ (argm f s).2.toInt := by
  intro s
  induction s with
  | zero => exact hf 0
  | succ s ih =>
    unfold argm
    split
    · exact hf _
    · exact ih
theorem AN_t {f : Nat → Int32} {s : Nat} {b l : Int32} (hf : ∀ s, 0 ≤ (f s).toInt) (h : AN f s b l) (hq : l < 0 ∨ f s < l) : AN f (s + 1) (nI s) (f s) := by
  refine Or.inr ⟨s, rfl, ?_⟩
  rcases h with ⟨rfl, -, -⟩ | ⟨s', rfl, rfl, rfl⟩
  · exact ⟨rfl, rfl⟩
  · have hn := argm_nn hf s'
    have h2 : f (s' + 1) < (argm f s').2 := hq.resolve_left (by rw [i_lt, show (0 : Int32).toInt = 0 by decide]; omega)
    have e : argm f (s' + 1) = (s' + 1, f (s' + 1)) := if_pos h2
    rw [e]
    exact ⟨rfl, rfl⟩
theorem AN_f {f : Nat → Int32} {s : Nat} {b l : Int32} (h : AN f s b l) (h1 : ¬ l < 0) (h2 : ¬ f s < l) : AN f (s + 1) b l := by
  refine Or.inr ⟨s, rfl, ?_⟩
  rcases h with ⟨rfl, rfl, rfl⟩ | ⟨s', rfl, rfl, rfl⟩
  · exact absurd (by decide) h1
  · have e : argm f (s' + 1) = argm f s' := if_neg h2
    rw [e]
    exact ⟨rfl, rfl⟩
theorem AN_e {f : Nat → Int32} {s t : Nat} {b l : Int32} (h : AN f s b l) (hs : s = t + 1) : b = nI (argm f t).1 ∧ l = (argm f t).2 := by
  rcases h with ⟨rfl, -, -⟩ | ⟨s', rfl, rfl, rfl⟩
  · omega
  · have : s' = t := by omega
    subst this
    exact ⟨rfl, rfl⟩
theorem offI_b (a b : Int) : 0 ≤ (offI a b).toInt ∧ (offI a b).toInt ≤ 1000000 := by
  unfold offI
  rw [i_nI (by omega)]
  omega
theorem sumN_b {f : Nat → Int32} (hf : ∀ k, 0 ≤ (f k).toInt ∧ (f k).toInt ≤ 1000000) : ∀ n : Nat, n ≤ 40 → 0 ≤ (sumN f n).toInt ∧ (sumN f n).toInt ≤ 1000000 * n := by
  intro n
  induction n with
  | zero => intro _; show 0 ≤ (0 : Int32).toInt ∧ (0 : Int32).toInt ≤ 1000000 * ((0 : Nat) : Int); decide
  | succ n ih =>
    intro hn
    have h1 := ih (by omega)
    have h2 := hf n
    show 0 ≤ (sumN f n + f n).toInt ∧ (sumN f n + f n).toInt ≤ 1000000 * ((n + 1 : Nat) : Int)
    rw [i_add] <;> omega
theorem offE_nn (m nu : Nat → Int32) (sz s : Nat) : 0 ≤ (offE m nu sz s).toInt := (sumN_b (fun k => offI_b _ _) 40 (by omega)).1
section MD
variable {T : Nat → Nat → Int32} {tx : Nat → Nat} {d bi nu : Nat → Int32} {ss : Nat → Nat} {nc sk vn : Nat} {s v w b l : Int32}
theorem made_e (h : ¬ (0 ≤ s.toInt ∧ s.toInt ≤ 3 ∧ 0 ≤ v.toInt ∧ v.toInt ≤ 60 ∧ 0 ≤ w.toInt ∧ w.toInt ≤ 1)) : opMade T tx d bi nu ss nc s v w = (1, 0) := if_pos h
theorem made_2 (hs : sk < 4) (hv : vn ≤ 60) (hw : 0 ≤ w.toInt ∧ w.toInt ≤ 1) (hb : bi sk = 0) : opMade T tx d bi nu ss nc (nI sk) (nI vn) w = (2, 0) := by
  have e1 := i_nI (n := sk) (by omega)
  have e2 := i_nI (n := vn) (by omega)
  unfold opMade
  rw [if_neg (by omega), nI_clamp (by omega), hb, if_pos (by decide)]
theorem made_0 (hs : sk < 4) (hv : vn ≤ 60) (hw : 0 ≤ w.toInt ∧ w.toInt ≤ 1) (hb : ¬ bi sk = 0) (h : AN (madV T tx d nu ss sk vn) (2 ^ nc) b l) (hn : 1 ≤ 2 ^ nc) : opMade T tx d bi nu ss nc (nI sk) (nI vn) w = (0, if w = 0 then b else l) := by
  have e1 := i_nI (n := sk) (by omega)
  have e2 := i_nI (n := vn) (by omega)
  obtain ⟨h1, h2⟩ := AN_e h (t := 2 ^ nc - 1) (by omega)
  unfold opMade
  rw [if_neg (by omega), nI_clamp (by omega), nI_clamp (by omega), if_neg (fun q => hb (eq0_of q))]
  by_cases hw0 : w = 0
  · rw [if_pos (by rw [hw0]; decide), if_pos hw0, h1]
  · rw [if_neg (fun q => hw0 (eq0_of q)), if_neg hw0, h2]
theorem blown_e (h : ¬ (0 ≤ s.toInt ∧ s.toInt ≤ 3 ∧ 0 ≤ v.toInt ∧ v.toInt ≤ 60)) : opBlown T tx d bi nu ss s v = (1, 0) := if_pos h
theorem blown_2 (hs : sk < 4) (hv : vn ≤ 60) (hb : bi sk = 0) : opBlown T tx d bi nu ss (nI sk) (nI vn) = (2, 0) := by
  have e1 := i_nI (n := sk) (by omega)
  have e2 := i_nI (n := vn) (by omega)
  unfold opBlown
  rw [if_neg (by omega), nI_clamp (by omega), hb, if_pos (by decide)]
theorem blown_0 (hs : sk < 4) (hv : vn ≤ 60) (hb : ¬ bi sk = 0) (h : AN (bloV T tx d nu ss sk vn) 100 b l) : opBlown T tx d bi nu ss (nI sk) (nI vn) = (0, b) := by
  have e1 := i_nI (n := sk) (by omega)
  have e2 := i_nI (n := vn) (by omega)
  obtain ⟨h1, -⟩ := AN_e h (t := 99) (by omega)
  unfold opBlown
  rw [if_neg (by omega), nI_clamp (by omega), nI_clamp (by omega), if_neg (fun q => hb (eq0_of q)), h1]
theorem mad_eq (x : Nat) : offS (gbyN T tx vn (upd (bg2 d) 10 (nI x))) nu (lnO (gbyN T tx vn (upd (bg2 d) 10 (nI x)))) (ss sk) sk 40 = madV T tx d nu ss sk vn x := offE_Ag (gbyN_Ag (Ag_bg d).upd vn) nu (ss sk) sk
theorem blo_eq (x : Nat) : offS (gbyN T tx vn (upd (bg2 d) 7 (nI x))) nu (lnO (gbyN T tx vn (upd (bg2 d) 7 (nI x)))) (ss sk) sk 40 = bloV T tx d nu ss sk vn x := offE_Ag (gbyN_Ag (Ag_bg d).upd vn) nu (ss sk) sk
theorem mad_nn (x : Nat) : 0 ≤ (madV T tx d nu ss sk vn x).toInt := offE_nn _ _ _ _
theorem blo_nn (x : Nat) : 0 ≤ (bloV T tx d nu ss sk vn x).toInt := offE_nn _ _ _ _
theorem bg2_set : win 4 6 d = win 4 6 (bg2 d) := win_ext (fun k hk => (bg2_off (by omega)).symm)
end MD
set_option maxHeartbeats 4000000 in
set_option maxRecDepth 100000 in
theorem p_made {κ : Wc} {l : Launch} {h : Mm} {n : Nat} {o : Nat} {im : Int32} {d : Nat → Int32} {len : Nat} {nc : Nat} {cold : Int32} {wind : Int32} {cs : Nat → Option Nat} {ts : Nat → Option Nat} {alen : Int32} {anow : Int32} {add : Int32} {adr : Int32} {acc : Int32} {aon : Int32} {acold : Int32} {awind : Int32} {af1 : Nat → Int32} {af2 : Nat → Int32} {af3 : Nat → Int32} {ac1 : Nat → Option Nat} {at1 : Nat → Option Nat} {fo : Nat → Int32} {s : Int32} {v : Int32} {w : Int32} {tx : Nat → Nat} {bi : Nat → Int32} {ss : Nat → Nat} {nu : Nat → Int32} (K0 : h o = some (.inr (11, [.ref (o + 1), .ref (o + 14), .ref (o + 27), .ref (o + 33), .ref (o + 42), .ref (o + 55), .ref (o + 57), .ref (o + 59), .ref (o + 61), .int im]))) (K1 : h (o + 1) = some (.inr (3, [.ref (o + 1 + 1), .ref (o + 1 + 7), .ref (o + 1 + 9), .ref (o + 1 + 11), .int (d 13)]))) (K2 : h (o + 2) = some (.inr (2, [.ref (o + 3), .ref (o + 4), .ref (o + 5), .ref (o + 6), .ref (o + 7), .int (nI len), .int (d 0), .int (d 2), .int (d 3), .int (nI nc), .int (d 10), .int cold, .int wind]))) (K3 : h (o + 3) = arI κ 40 (win 100 40 d)) (K4 : h (o + 4) = arI κ 40 (win 140 40 d)) (K5 : h (o + 5) = arI κ 6 (win 4 6 d)) (K6 : h (o + 6) = arR κ 1 6 cs) (K7 : h (o + 7) = arR κ 2 2 ts) (K8 : h (o + 27) = some (.inr (2, [.ref (o + 28), .ref (o + 29), .ref (o + 30), .ref (o + 31), .ref (o + 32), .int alen, .int anow, .int add, .int adr, .int acc, .int aon, .int acold, .int awind]))) (K9 : h (o + 28) = arI κ 40 af1) (K10 : h (o + 29) = arI κ 40 af2) (K11 : h (o + 30) = arI κ 6 af3) (K12 : h (o + 31) = arR κ 1 6 ac1) (K13 : h (o + 32) = arR κ 2 2 at1) (K14 : h (o + 33) = arR κ 3 4 (shF o)) (K15 : h (o + 61) = arI κ 6 fo) (q1 : d 1 = nI len) (q2 : 1 ≤ len) (q3 : len ≤ 40) (q4 : d 11 = nI nc) (q5 : nc ≤ 6) (hTs : TsO κ (o + 76) h ts (Tx d) tx) (hCs : CsO (o + 76) h cs d nc) (hCA : CsA (o + 76) h cs) (hS : wfS d) (hC : wfC d) (hSh : ShO κ o h bi ss nu) : Con κ l yX11_made cX11_made 9 (some .int) 14 0 0 [.ref o, .int s, .int v, .int w] h n (fun q h' n' => ∃ x1' : Int32, ∃ x2' : Int32, ∃ x3' : Int32, ∃ x4' : Int32, ∃ x5' : Int32, ∃ x6' : Int32, ∃ x7' : Int32, ∃ x8' : Int32, ∃ af1' : Nat → Int32, ∃ af2' : Nat → Int32, ∃ af3' : Nat → Int32, ∃ ac1' : Nat → Option Nat, ∃ at1' : Nat → Option Nat, q = some (.int (ansOf (opMade (Tx d) tx d bi nu ss nc s v w))) ∧ n' = n ∧ (∀ zq : Nat, zq < (o + 76) → zq ≠ (o + 27) → zq ≠ (o + 28) → zq ≠ (o + 29) → zq ≠ (o + 30) → zq ≠ (o + 31) → zq ≠ (o + 32) → zq ≠ (o + 61) → h' zq = h zq) ∧ Zr κ (o + 76) h h' ∧ h' (o + 27) = some (.inr (2, [.ref (o + 28), .ref (o + 29), .ref (o + 30), .ref (o + 31), .ref (o + 32), .int x1', .int x2', .int x3', .int x4', .int x5', .int x6', .int x7', .int x8'])) ∧ h' (o + 28) = arI κ 40 af1' ∧ h' (o + 29) = arI κ 40 af2' ∧ h' (o + 30) = arI κ 6 af3' ∧ h' (o + 31) = arR κ 1 6 ac1' ∧ h' (o + 32) = arR κ 2 2 at1' ∧ h' (o + 61) = arI κ 6 (bump (opMade (Tx d) tx d bi nu ss nc s v w) fo)) := by
  refine Con.of mk_X11_made (Nat.le_of_ble_eq_true rfl) (fun G hG X E => ?_)
  subst hG
  refine z_ls (ls' := [(0, .ref o), (1, .int s), (2, .int v), (3, .int w)]) rfl ?_
  have hOk : lnOk d := lnOk_of q1 q2 q3
  refine z_iload_n X 1 dX11_made_0 rfl ?_
  refine z_callS X (c_isSheet (κ := κ) (n := n) (v := (s))  ) mk_X11_isSheet dX11_made_1 wd_288 wd_289 rfl rfl (Nat.le_of_ble_eq_true rfl) (Nat.le_of_ble_eq_true rfl) (Nat.le_of_ble_eq_true rfl) (by omega) (by omega) (fun q zh1 zm3 zp4 => ?_)
  obtain ⟨rfl, ze2, zn5⟩ := zp4
  subst zm3
  subst zh1
  refine z_st (st' := [.int (b2i (0 ≤ (s : Int32).toInt ∧ (s : Int32).toInt ≤ 3))]) rfl ?_
  refine z_if_eq X 23 dX11_made_4 (by decide) (fun zc6 => ?_) (fun zc6 => ?_)
  · replace zc6 := b2i_f zc6
    refine z_aload_n X 0 dX11_made_23 rfl ?_
    refine z_iconst (v := 1) X dX11_made_24 (by decide) ?_
    refine z_callV X (c_fail (κ := κ) (n := n) (o := (o)) (im := (im)) (fo := (fo)) (k := (1)) K0 K15 (by first | assumption | omega) (by first | assumption | omega)) mk_X11_fail dX11_made_25 wd_260 wd_262 wd_0 rfl K0 rfl rfl rfl (Nat.le_of_ble_eq_true rfl) (Nat.le_of_ble_eq_true rfl) (Nat.le_of_ble_eq_true rfl) (by omega) (by omega) (fun q zh7 zm9 zp10 => ?_)
    obtain ⟨rfl, ze8, zn11⟩ := zp10
    subst zm9
    refine z_st (st' := [.int (lowE 1)]) rfl ?_
    have zK12 : zh7 o = some (.inr (11, [.ref (o + 1), .ref (o + 14), .ref (o + 27), .ref (o + 33), .ref (o + 42), .ref (o + 55), .ref (o + 57), .ref (o + 59), .ref (o + 61), .int im])) := by rw [ze8]; rw [va_up_ne _ _ (show o ≠ o + 61 by omega)]; exact K0
    have zK13 : zh7 (o + 1) = some (.inr (3, [.ref (o + 1 + 1), .ref (o + 1 + 7), .ref (o + 1 + 9), .ref (o + 1 + 11), .int (d 13)])) := by rw [ze8]; rw [va_up_ne _ _ (show o + 1 ≠ o + 61 by omega)]; exact K1
    have zK14 : zh7 (o + 2) = some (.inr (2, [.ref (o + 3), .ref (o + 4), .ref (o + 5), .ref (o + 6), .ref (o + 7), .int (nI len), .int (d 0), .int (d 2), .int (d 3), .int (nI nc), .int (d 10), .int cold, .int wind])) := by rw [ze8]; rw [va_up_ne _ _ (show o + 2 ≠ o + 61 by omega)]; exact K2
    have zK15 : zh7 (o + 3) = arI κ 40 (win 100 40 d) := by rw [ze8]; rw [va_up_ne _ _ (show o + 3 ≠ o + 61 by omega)]; exact K3
    have zK16 : zh7 (o + 4) = arI κ 40 (win 140 40 d) := by rw [ze8]; rw [va_up_ne _ _ (show o + 4 ≠ o + 61 by omega)]; exact K4
    have zK17 : zh7 (o + 5) = arI κ 6 (win 4 6 d) := by rw [ze8]; rw [va_up_ne _ _ (show o + 5 ≠ o + 61 by omega)]; exact K5
    have zK18 : zh7 (o + 6) = arR κ 1 6 cs := by rw [ze8]; rw [va_up_ne _ _ (show o + 6 ≠ o + 61 by omega)]; exact K6
    have zK19 : zh7 (o + 7) = arR κ 2 2 ts := by rw [ze8]; rw [va_up_ne _ _ (show o + 7 ≠ o + 61 by omega)]; exact K7
    have zK20 : zh7 (o + 27) = some (.inr (2, [.ref (o + 28), .ref (o + 29), .ref (o + 30), .ref (o + 31), .ref (o + 32), .int alen, .int anow, .int add, .int adr, .int acc, .int aon, .int acold, .int awind])) := by rw [ze8]; rw [va_up_ne _ _ (show o + 27 ≠ o + 61 by omega)]; exact K8
    have zK21 : zh7 (o + 28) = arI κ 40 af1 := by rw [ze8]; rw [va_up_ne _ _ (show o + 28 ≠ o + 61 by omega)]; exact K9
    have zK22 : zh7 (o + 29) = arI κ 40 af2 := by rw [ze8]; rw [va_up_ne _ _ (show o + 29 ≠ o + 61 by omega)]; exact K10
    have zK23 : zh7 (o + 30) = arI κ 6 af3 := by rw [ze8]; rw [va_up_ne _ _ (show o + 30 ≠ o + 61 by omega)]; exact K11
    have zK24 : zh7 (o + 31) = arR κ 1 6 ac1 := by rw [ze8]; rw [va_up_ne _ _ (show o + 31 ≠ o + 61 by omega)]; exact K12
    have zK25 : zh7 (o + 32) = arR κ 2 2 at1 := by rw [ze8]; rw [va_up_ne _ _ (show o + 32 ≠ o + 61 by omega)]; exact K13
    have zK26 : zh7 (o + 33) = arR κ 3 4 (shF o) := by rw [ze8]; rw [va_up_ne _ _ (show o + 33 ≠ o + 61 by omega)]; exact K14
    have zK27 : zh7 (o + 61) = arI κ 6 (bmp fo 1) := by rw [ze8]; exact va_up_self _ _ _
    have zl28 : ∀ zq : Nat, zq < (o + 76) → zq ≠ (o + 61) → zh7 zq = h zq := by intro zq hzq zn0; rw [ze8, va_up_ne _ _ (show zq ≠ o + 61 by omega)]; try rfl
    have zr29 : Zr κ (o + 76) h zh7 := (Zr.refl).trans (Zr.same (fun zq h1 => by rw [ze8, va_up_ne _ _ (show zq ≠ o + 61 by omega)]))
    refine z_iret X E dX11_made_28 (by omega) (by omega) ⟨alen, anow, add, adr, acc, aon, acold, awind, af1, af2, af3, ac1, at1, ?_, ?_, ?_, ?_, ?_, ?_, ?_, ?_, ?_, ?_, ?_⟩
    · rw [made_e (T := Tx d) (tx := tx) (d := d) (nu := nu) (ss := ss) (nc := nc) (by omega)]; first | exact congrArg (fun z => some (Value.int z)) (ansOf_0 _).symm | rfl
    · rfl
    · exact fun zq hzq zn0 zn1 zn2 zn3 zn4 zn5 zn6 => zl28 zq hzq zn6
    · exact zr29
    · exact zK20
    · exact zK21
    · exact zK22
    · exact zK23
    · exact zK24
    · exact zK25
    · rw [made_e (T := Tx d) (tx := tx) (d := d) (nu := nu) (ss := ss) (nc := nc) (by omega)]; first | (rw [bump_0]; exact zK27) | exact zK27
  · replace zc6 := b2i_t zc6
    refine z_iload_n X 2 dX11_made_7 rfl ?_
    refine z_callS X (c_isAhead (κ := κ) (n := n) (v := (v))  ) mk_X11_isAhead dX11_made_8 wd_658 wd_659 rfl rfl (Nat.le_of_ble_eq_true rfl) (Nat.le_of_ble_eq_true rfl) (Nat.le_of_ble_eq_true rfl) (by omega) (by omega) (fun q zh30 zm32 zp33 => ?_)
    obtain ⟨rfl, ze31, zn34⟩ := zp33
    subst zm32
    subst zh30
    refine z_st (st' := [.int (b2i (0 ≤ (v : Int32).toInt ∧ (v : Int32).toInt ≤ 60))]) rfl ?_
    refine z_if_eq X 23 dX11_made_11 (by decide) (fun zc35 => ?_) (fun zc35 => ?_)
    · replace zc35 := b2i_f zc35
      refine z_aload_n X 0 dX11_made_23 rfl ?_
      refine z_iconst (v := 1) X dX11_made_24 (by decide) ?_
      refine z_callV X (c_fail (κ := κ) (n := n) (o := (o)) (im := (im)) (fo := (fo)) (k := (1)) K0 K15 (by first | assumption | omega) (by first | assumption | omega)) mk_X11_fail dX11_made_25 wd_260 wd_262 wd_0 rfl K0 rfl rfl rfl (Nat.le_of_ble_eq_true rfl) (Nat.le_of_ble_eq_true rfl) (Nat.le_of_ble_eq_true rfl) (by omega) (by omega) (fun q zh36 zm38 zp39 => ?_)
      obtain ⟨rfl, ze37, zn40⟩ := zp39
      subst zm38
      refine z_st (st' := [.int (lowE 1)]) rfl ?_
      have zK41 : zh36 o = some (.inr (11, [.ref (o + 1), .ref (o + 14), .ref (o + 27), .ref (o + 33), .ref (o + 42), .ref (o + 55), .ref (o + 57), .ref (o + 59), .ref (o + 61), .int im])) := by rw [ze37]; rw [va_up_ne _ _ (show o ≠ o + 61 by omega)]; exact K0
      have zK42 : zh36 (o + 1) = some (.inr (3, [.ref (o + 1 + 1), .ref (o + 1 + 7), .ref (o + 1 + 9), .ref (o + 1 + 11), .int (d 13)])) := by rw [ze37]; rw [va_up_ne _ _ (show o + 1 ≠ o + 61 by omega)]; exact K1
      have zK43 : zh36 (o + 2) = some (.inr (2, [.ref (o + 3), .ref (o + 4), .ref (o + 5), .ref (o + 6), .ref (o + 7), .int (nI len), .int (d 0), .int (d 2), .int (d 3), .int (nI nc), .int (d 10), .int cold, .int wind])) := by rw [ze37]; rw [va_up_ne _ _ (show o + 2 ≠ o + 61 by omega)]; exact K2
      have zK44 : zh36 (o + 3) = arI κ 40 (win 100 40 d) := by rw [ze37]; rw [va_up_ne _ _ (show o + 3 ≠ o + 61 by omega)]; exact K3
      have zK45 : zh36 (o + 4) = arI κ 40 (win 140 40 d) := by rw [ze37]; rw [va_up_ne _ _ (show o + 4 ≠ o + 61 by omega)]; exact K4
      have zK46 : zh36 (o + 5) = arI κ 6 (win 4 6 d) := by rw [ze37]; rw [va_up_ne _ _ (show o + 5 ≠ o + 61 by omega)]; exact K5
      have zK47 : zh36 (o + 6) = arR κ 1 6 cs := by rw [ze37]; rw [va_up_ne _ _ (show o + 6 ≠ o + 61 by omega)]; exact K6
      have zK48 : zh36 (o + 7) = arR κ 2 2 ts := by rw [ze37]; rw [va_up_ne _ _ (show o + 7 ≠ o + 61 by omega)]; exact K7
      have zK49 : zh36 (o + 27) = some (.inr (2, [.ref (o + 28), .ref (o + 29), .ref (o + 30), .ref (o + 31), .ref (o + 32), .int alen, .int anow, .int add, .int adr, .int acc, .int aon, .int acold, .int awind])) := by rw [ze37]; rw [va_up_ne _ _ (show o + 27 ≠ o + 61 by omega)]; exact K8
      have zK50 : zh36 (o + 28) = arI κ 40 af1 := by rw [ze37]; rw [va_up_ne _ _ (show o + 28 ≠ o + 61 by omega)]; exact K9
      have zK51 : zh36 (o + 29) = arI κ 40 af2 := by rw [ze37]; rw [va_up_ne _ _ (show o + 29 ≠ o + 61 by omega)]; exact K10
      have zK52 : zh36 (o + 30) = arI κ 6 af3 := by rw [ze37]; rw [va_up_ne _ _ (show o + 30 ≠ o + 61 by omega)]; exact K11
      have zK53 : zh36 (o + 31) = arR κ 1 6 ac1 := by rw [ze37]; rw [va_up_ne _ _ (show o + 31 ≠ o + 61 by omega)]; exact K12
      have zK54 : zh36 (o + 32) = arR κ 2 2 at1 := by rw [ze37]; rw [va_up_ne _ _ (show o + 32 ≠ o + 61 by omega)]; exact K13
      have zK55 : zh36 (o + 33) = arR κ 3 4 (shF o) := by rw [ze37]; rw [va_up_ne _ _ (show o + 33 ≠ o + 61 by omega)]; exact K14
      have zK56 : zh36 (o + 61) = arI κ 6 (bmp fo 1) := by rw [ze37]; exact va_up_self _ _ _
      have zl57 : ∀ zq : Nat, zq < (o + 76) → zq ≠ (o + 61) → zh36 zq = h zq := by intro zq hzq zn0; rw [ze37, va_up_ne _ _ (show zq ≠ o + 61 by omega)]; try rfl
      have zr58 : Zr κ (o + 76) h zh36 := (Zr.refl).trans (Zr.same (fun zq h1 => by rw [ze37, va_up_ne _ _ (show zq ≠ o + 61 by omega)]))
      refine z_iret X E dX11_made_28 (by omega) (by omega) ⟨alen, anow, add, adr, acc, aon, acold, awind, af1, af2, af3, ac1, at1, ?_, ?_, ?_, ?_, ?_, ?_, ?_, ?_, ?_, ?_, ?_⟩
      · rw [made_e (T := Tx d) (tx := tx) (d := d) (nu := nu) (ss := ss) (nc := nc) (by omega)]; first | exact congrArg (fun z => some (Value.int z)) (ansOf_0 _).symm | rfl
      · rfl
      · exact fun zq hzq zn0 zn1 zn2 zn3 zn4 zn5 zn6 => zl57 zq hzq zn6
      · exact zr58
      · exact zK49
      · exact zK50
      · exact zK51
      · exact zK52
      · exact zK53
      · exact zK54
      · rw [made_e (T := Tx d) (tx := tx) (d := d) (nu := nu) (ss := ss) (nc := nc) (by omega)]; first | (rw [bump_0]; exact zK56) | exact zK56
    · replace zc35 := b2i_t zc35
      refine z_iload_n X 3 dX11_made_14 rfl ?_
      refine z_iconst (v := 0) X dX11_made_15 (by decide) ?_
      refine z_iconst (v := 1) X dX11_made_16 (by decide) ?_
      refine z_callS X (c_within (κ := κ) (n := n) (v := (w)) (lo := (0)) (hi := (1))  ) mk_X11_within dX11_made_17 wd_259 wd_257 rfl rfl (Nat.le_of_ble_eq_true rfl) (Nat.le_of_ble_eq_true rfl) (Nat.le_of_ble_eq_true rfl) (by omega) (by omega) (fun q zh59 zm61 zp62 => ?_)
      obtain ⟨rfl, ze60, zn63⟩ := zp62
      subst zm61
      subst zh59
      refine z_st (st' := [.int (b2i ((0 : Int32).toInt ≤ (w : Int32).toInt ∧ (w : Int32).toInt ≤ (1 : Int32).toInt))]) rfl ?_
      refine z_toe (y := b2i (0 ≤ w.toInt ∧ w.toInt ≤ 1)) (by simp only [show (0 : Int32).toInt = 0 by decide, show (1 : Int32).toInt = 1 by decide]) ?_
      refine z_if_ne X 29 dX11_made_20 (by decide) (fun zc64 => ?_) (fun zc64 => ?_)
      · replace zc64 := b2i_t zc64
        have hww : 0 ≤ w.toInt ∧ w.toInt ≤ 1 := by assumption
        obtain ⟨sk, hsk, rfl⟩ := ix_of (c := s) (len := 4) (by omega) (by omega)
        obtain ⟨vk, hvk, rfl⟩ := ix_of (c := v) (len := 61) (by omega) (by omega)
        have zS65 := (hSh sk hsk).1
        have zS66 := (hSh sk hsk).2.1
        have hss_sk := (hSh sk hsk).2.2
        refine z_aload_n X 0 dX11_made_29 rfl ?_
        refine z_get X fl_X11_28_11 dX11_made_30 K0 rfl ?_
        refine z_iload_n X 1 dX11_made_33 rfl ?_
        refine z_aald (t := 3) (v := .ref (o + 34 + 2 * sk)) X dX11_made_34 K14 rfl (vp_in_nI (n := sk) (by omega) (by omega)) (by rw [nI_clamp (by omega)]; rfl) ?_
        refine z_callV X (c_Row_isMissing (κ := κ) (n := n) (r := (o + 34 + 2 * sk)) (sz := (nI (ss sk))) (bt := (bi sk)) zS65 ) mk_X6_isMissing dX11_made_35 wd_291 wd_292 wd_293 rfl zS65 rfl rfl rfl (Nat.le_of_ble_eq_true rfl) (Nat.le_of_ble_eq_true rfl) (Nat.le_of_ble_eq_true rfl) (by omega) (by omega) (fun q zh67 zm69 zp70 => ?_)
        obtain ⟨rfl, ze68, zn71⟩ := zp70
        subst zm69
        subst zh67
        refine z_st (st' := [.int (b2i ((bi sk) = 0))]) rfl ?_
        refine z_if_eq X 47 dX11_made_38 (by decide) (fun zc72 => ?_) (fun zc72 => ?_)
        · replace zc72 := b2i_f zc72
          have hp6 := pow_le6 q5
          refine z_iconst (v := 0) X dX11_made_47 (by decide) ?_
          refine z_istore (ls' := [(4, .int 0), (0, .ref o), (1, .int (nI sk)), (2, .int (nI vk)), (3, .int w)]) X dX11_made_48 (by decide) rfl ?_
          refine z_iconst (v := -1) X dX11_made_50 (by decide) ?_
          refine z_istore (ls' := [(5, .int ((-1))), (4, .int 0), (0, .ref o), (1, .int (nI sk)), (2, .int (nI vk)), (3, .int w)]) X dX11_made_51 (by decide) rfl ?_
          refine z_iconst (v := 1) X dX11_made_53 (by decide) ?_
          refine z_aload_n X 2 dX11_made_54 rfl ?_
          refine z_get X fl_X11_10_11 dX11_made_55 K0 rfl ?_
          refine z_get X fl_X11_56_3 dX11_made_58 K1 rfl ?_
          refine z_get X fl_X11_117_2 dX11_made_61 K2 rfl ?_
          refine z_ishl X dX11_made_64 ?_
          refine z_toe (y := nI (2 ^ nc)) (shl_pow q5) ?_
          refine z_istore (ls' := [(6, .int (nI (2 ^ nc))), (5, .int ((-1))), (4, .int 0), (0, .ref o), (1, .int (nI sk)), (2, .int (nI vk)), (3, .int w)]) X dX11_made_65 (by decide) rfl ?_
          refine z_iconst (v := 0) X dX11_made_67 (by decide) ?_
          refine z_istore (ls' := [(7, .int 0), (6, .int (nI (2 ^ nc))), (5, .int ((-1))), (4, .int 0), (0, .ref o), (1, .int (nI sk)), (2, .int (nI vk)), (3, .int w)]) X dX11_made_68 (by decide) rfl ?_
          have L70 : ∀ (jj : Nat) (hh70 : Mm) (x : Nat) (b : Int32) (l : Int32) (y1 : Int32) (y2 : Int32) (y3 : Int32) (y4 : Int32) (y5 : Int32) (y6 : Int32) (y7 : Int32) (y8 : Int32) (b1 : Nat → Int32) (b2 : Nat → Int32) (b3 : Nat → Int32) (b4 : Nat → Option Nat) (b5 : Nat → Option Nat), (2 ^ nc - x < jj) → (∀ zq : Nat, zq < (o + 76) → zq ≠ (o + 27) → zq ≠ (o + 28) → zq ≠ (o + 29) → zq ≠ (o + 30) → zq ≠ (o + 31) → zq ≠ (o + 32) → hh70 zq = h zq) → Zr κ (o + 76) h hh70 → hh70 (o + 27) = some (.inr (2, [.ref (o + 28), .ref (o + 29), .ref (o + 30), .ref (o + 31), .ref (o + 32), .int y1, .int y2, .int y3, .int y4, .int y5, .int y6, .int y7, .int y8])) → hh70 (o + 28) = arI κ 40 b1 → hh70 (o + 29) = arI κ 40 b2 → hh70 (o + 30) = arI κ 6 b3 → hh70 (o + 31) = arR κ 1 6 b4 → hh70 (o + 32) = arR κ 2 2 b5 → (hx : x ≤ 2 ^ nc) → (hA : AN (madV (Tx d) tx d nu ss sk vk) x b l) → Z κ G 9 70 [(0, .ref o), (1, .int (nI sk)), (2, .int (nI vk)), (3, .int w), (4, .int b), (5, .int l), (6, .int (nI (2 ^ nc))), (7, .int (nI x))] [] hh70 n 0 (0) := by
            intro jj
            induction jj with
            | zero => intro hh70 x b l y1 y2 y3 y4 y5 y6 y7 y8 b1 b2 b3 b4 b5 hmu; exact absurd hmu (Nat.not_lt_zero _)
            | succ jj ih70 =>
              intro hh70 x b l y1 y2 y3 y4 y5 y6 y7 y8 b1 b2 b3 b4 b5 hmu zl_70 zr_70 zK73 zK74 zK75 zK76 zK77 zK78 hx hA
              have zK79 : hh70 o = some (.inr (11, [.ref (o + 1), .ref (o + 14), .ref (o + 27), .ref (o + 33), .ref (o + 42), .ref (o + 55), .ref (o + 57), .ref (o + 59), .ref (o + 61), .int im])) := (zl_70 o (by omega) (by omega) (by omega) (by omega) (by omega) (by omega) (by omega)).trans K0
              have zK80 : hh70 (o + 1) = some (.inr (3, [.ref (o + 1 + 1), .ref (o + 1 + 7), .ref (o + 1 + 9), .ref (o + 1 + 11), .int (d 13)])) := (zl_70 (o + 1) (by omega) (by omega) (by omega) (by omega) (by omega) (by omega) (by omega)).trans K1
              have zK81 : hh70 (o + 2) = some (.inr (2, [.ref (o + 3), .ref (o + 4), .ref (o + 5), .ref (o + 6), .ref (o + 7), .int (nI len), .int (d 0), .int (d 2), .int (d 3), .int (nI nc), .int (d 10), .int cold, .int wind])) := (zl_70 (o + 2) (by omega) (by omega) (by omega) (by omega) (by omega) (by omega) (by omega)).trans K2
              have zK82 : hh70 (o + 3) = arI κ 40 (win 100 40 d) := (zl_70 (o + 3) (by omega) (by omega) (by omega) (by omega) (by omega) (by omega) (by omega)).trans K3
              have zK83 : hh70 (o + 4) = arI κ 40 (win 140 40 d) := (zl_70 (o + 4) (by omega) (by omega) (by omega) (by omega) (by omega) (by omega) (by omega)).trans K4
              have zK84 : hh70 (o + 5) = arI κ 6 (win 4 6 d) := (zl_70 (o + 5) (by omega) (by omega) (by omega) (by omega) (by omega) (by omega) (by omega)).trans K5
              have zK85 : hh70 (o + 6) = arR κ 1 6 cs := (zl_70 (o + 6) (by omega) (by omega) (by omega) (by omega) (by omega) (by omega) (by omega)).trans K6
              have zK86 : hh70 (o + 7) = arR κ 2 2 ts := (zl_70 (o + 7) (by omega) (by omega) (by omega) (by omega) (by omega) (by omega) (by omega)).trans K7
              have zK87 : hh70 (o + 33) = arR κ 3 4 (shF o) := (zl_70 (o + 33) (by omega) (by omega) (by omega) (by omega) (by omega) (by omega) (by omega)).trans K14
              have zK88 : hh70 (o + 61) = arI κ 6 fo := (zl_70 (o + 61) (by omega) (by omega) (by omega) (by omega) (by omega) (by omega) (by omega)).trans K15
              refine z_iload X 7 dX11_made_70 rfl ?_
              refine z_iload X 6 dX11_made_72 rfl ?_
              refine z_icmp_ge X 139 dX11_made_74 (by decide) (fun zc89 => ?_) (fun zc89 => ?_)
              · try replace zc89 := (nI_leI (a := 2 ^ nc) (b := x) (by omega) (by omega)).mp zc89
                refine z_iload_n X 3 dX11_made_139 rfl ?_
                refine z_if_ne X 148 dX11_made_140 (by decide) (fun zc90 => ?_) (fun zc90 => ?_)
                · refine z_iload X 5 dX11_made_148 rfl ?_
                  refine z_iret X E dX11_made_150 (by omega) (by omega) ⟨y1, y2, y3, y4, y5, y6, y7, y8, b1, b2, b3, b4, b5, ?_, ?_, ?_, ?_, ?_, ?_, ?_, ?_, ?_, ?_, ?_⟩
                  · rw [(made_0 (T := Tx d) (tx := tx) (d := d) (nu := nu) (ss := ss) (nc := nc) hsk (by omega) hww (by assumption) (by rw [show 2 ^ nc = x by omega]; exact hA) hp6.1).trans (congrArg (fun z => (0, z)) (if_neg (by assumption)))]; first | exact congrArg (fun z => some (Value.int z)) (ansOf_0 _).symm | rfl
                  · rfl
                  · exact fun zq hzq zn0 zn1 zn2 zn3 zn4 zn5 zn6 => zl_70 zq hzq zn0 zn1 zn2 zn3 zn4 zn5
                  · exact zr_70
                  · exact zK73
                  · exact zK74
                  · exact zK75
                  · exact zK76
                  · exact zK77
                  · exact zK78
                  · rw [(made_0 (T := Tx d) (tx := tx) (d := d) (nu := nu) (ss := ss) (nc := nc) hsk (by omega) hww (by assumption) (by rw [show 2 ^ nc = x by omega]; exact hA) hp6.1).trans (congrArg (fun z => (0, z)) (if_neg (by assumption)))]; first | (rw [bump_0]; exact zK88) | exact zK88
                · refine z_iload X 4 dX11_made_143 rfl ?_
                  refine z_goto X 150 dX11_made_145 (by decide) ?_
                  refine z_iret X E dX11_made_150 (by omega) (by omega) ⟨y1, y2, y3, y4, y5, y6, y7, y8, b1, b2, b3, b4, b5, ?_, ?_, ?_, ?_, ?_, ?_, ?_, ?_, ?_, ?_, ?_⟩
                  · rw [(made_0 (T := Tx d) (tx := tx) (d := d) (nu := nu) (ss := ss) (nc := nc) hsk (by omega) hww (by assumption) (by rw [show 2 ^ nc = x by omega]; exact hA) hp6.1).trans (congrArg (fun z => (0, z)) (if_pos (by assumption)))]; first | exact congrArg (fun z => some (Value.int z)) (ansOf_0 _).symm | rfl
                  · rfl
                  · exact fun zq hzq zn0 zn1 zn2 zn3 zn4 zn5 zn6 => zl_70 zq hzq zn0 zn1 zn2 zn3 zn4 zn5
                  · exact zr_70
                  · exact zK73
                  · exact zK74
                  · exact zK75
                  · exact zK76
                  · exact zK77
                  · exact zK78
                  · rw [(made_0 (T := Tx d) (tx := tx) (d := d) (nu := nu) (ss := ss) (nc := nc) hsk (by omega) hww (by assumption) (by rw [show 2 ^ nc = x by omega]; exact hA) hp6.1).trans (congrArg (fun z => (0, z)) (if_pos (by assumption)))]; first | (rw [bump_0]; exact zK88) | exact zK88
              · try replace zc89 := mt (nI_leI (a := 2 ^ nc) (b := x) (by omega) (by omega)).mpr zc89
                refine z_aload_n X 0 dX11_made_77 rfl ?_
                refine z_callV X (c_startAnew (κ := κ) (n := n) (o := (o)) (im := (im)) (d := (d)) (len := (len)) (nc := (nc)) (cold := (cold)) (wind := (wind)) (cs := (cs)) (ts := (ts)) (alen := (y1)) (anow := (y2)) (add := (y3)) (adr := (y4)) (acc := (y5)) (aon := (y6)) (acold := (y7)) (awind := (y8)) (af1 := (b1)) (af2 := (b2)) (af3 := (b3)) (ac1 := (b4)) (at1 := (b5)) (tx := (tx)) zK79 zK80 zK81 zK82 zK83 zK84 zK85 zK86 zK73 zK74 zK75 zK76 zK77 zK78 (TsO.mono zr_70 hTs) (CsO.mono zr_70 hCs) (CsA.mono zr_70 hCA)) mk_X11_startAnew dX11_made_78 wd_728 wd_730 wd_21 rfl zK79 rfl rfl rfl (Nat.le_of_ble_eq_true rfl) (Nat.le_of_ble_eq_true rfl) (Nat.le_of_ble_eq_true rfl) (by omega) (by omega) (fun q zh91 zm93 zp94 => ?_)
                obtain ⟨rfl, zn95, zf96, zr97, zK98, zK99, zK100, zK101, zK102, zK103⟩ := zp94
                subst zm93
                refine z_st (st' := []) rfl ?_
                have zK104 : zh91 o = some (.inr (11, [.ref (o + 1), .ref (o + 14), .ref (o + 27), .ref (o + 33), .ref (o + 42), .ref (o + 55), .ref (o + 57), .ref (o + 59), .ref (o + 61), .int im])) := (zf96 o (by omega) (by omega) (by omega) (by omega) (by omega) (by omega) (by omega)).trans zK79
                have zK105 : zh91 (o + 1) = some (.inr (3, [.ref (o + 1 + 1), .ref (o + 1 + 7), .ref (o + 1 + 9), .ref (o + 1 + 11), .int (d 13)])) := (zf96 (o + 1) (by omega) (by omega) (by omega) (by omega) (by omega) (by omega) (by omega)).trans zK80
                have zK106 : zh91 (o + 2) = some (.inr (2, [.ref (o + 3), .ref (o + 4), .ref (o + 5), .ref (o + 6), .ref (o + 7), .int (nI len), .int (d 0), .int (d 2), .int (d 3), .int (nI nc), .int (d 10), .int cold, .int wind])) := (zf96 (o + 2) (by omega) (by omega) (by omega) (by omega) (by omega) (by omega) (by omega)).trans zK81
                have zK107 : zh91 (o + 3) = arI κ 40 (win 100 40 d) := (zf96 (o + 3) (by omega) (by omega) (by omega) (by omega) (by omega) (by omega) (by omega)).trans zK82
                have zK108 : zh91 (o + 4) = arI κ 40 (win 140 40 d) := (zf96 (o + 4) (by omega) (by omega) (by omega) (by omega) (by omega) (by omega) (by omega)).trans zK83
                have zK109 : zh91 (o + 5) = arI κ 6 (win 4 6 d) := (zf96 (o + 5) (by omega) (by omega) (by omega) (by omega) (by omega) (by omega) (by omega)).trans zK84
                have zK110 : zh91 (o + 6) = arR κ 1 6 cs := (zf96 (o + 6) (by omega) (by omega) (by omega) (by omega) (by omega) (by omega) (by omega)).trans zK85
                have zK111 : zh91 (o + 7) = arR κ 2 2 ts := (zf96 (o + 7) (by omega) (by omega) (by omega) (by omega) (by omega) (by omega) (by omega)).trans zK86
                have zK112 : zh91 (o + 33) = arR κ 3 4 (shF o) := (zf96 (o + 33) (by omega) (by omega) (by omega) (by omega) (by omega) (by omega) (by omega)).trans zK87
                have zK113 : zh91 (o + 61) = arI κ 6 fo := (zf96 (o + 61) (by omega) (by omega) (by omega) (by omega) (by omega) (by omega) (by omega)).trans zK88
                have zl114 : ∀ zq : Nat, zq < (o + 76) → zq ≠ (o + 27) → zq ≠ (o + 28) → zq ≠ (o + 29) → zq ≠ (o + 30) → zq ≠ (o + 31) → zq ≠ (o + 32) → zh91 zq = h zq := by intro zq hzq zn0 zn1 zn2 zn3 zn4 zn5; rw [zf96 zq (by omega) (by omega) (by omega) (by omega) (by omega) (by omega) (by omega)]; exact zl_70 zq hzq zn0 zn1 zn2 zn3 zn4 zn5
                have zr115 : Zr κ (o + 76) h zh91 := (zr_70).trans zr97
                refine z_aload_n X 0 dX11_made_81 rfl ?_
                refine z_get X fl_X11_22_11 dX11_made_82 zK104 rfl ?_
                refine z_iload X 7 dX11_made_85 rfl ?_
                refine z_put X fp_X11_128_2 dX11_made_87 zK98 (by first | rfl | decide) (by first | rfl | decide) (Nat.le_of_ble_eq_true rfl) rfl ?_
                obtain ⟨zh116, ze117⟩ : ∃ z : Mm, z = va_up zh91 (o + 27) (some (.inr (2, [.ref (o + 28), .ref (o + 29), .ref (o + 30), .ref (o + 31), .ref (o + 32), .int (nI 1), .int ((bg2 d) 0), .int ((bg2 d) 2), .int ((bg2 d) 3), .int (nI nc), .int (nI x), .int y7, .int y8]))) := ⟨_, rfl⟩
                refine z_heap (h' := zh116) ze117.symm ?_
                have zK118 := up_off ze117 (show o ≠ o + 27 by omega) zK104
                have zK119 := up_off ze117 (show o + 1 ≠ o + 27 by omega) zK105
                have zK120 := up_off ze117 (show o + 2 ≠ o + 27 by omega) zK106
                have zK121 := up_off ze117 (show o + 3 ≠ o + 27 by omega) zK107
                have zK122 := up_off ze117 (show o + 4 ≠ o + 27 by omega) zK108
                have zK123 := up_off ze117 (show o + 5 ≠ o + 27 by omega) zK109
                have zK124 := up_off ze117 (show o + 6 ≠ o + 27 by omega) zK110
                have zK125 := up_off ze117 (show o + 7 ≠ o + 27 by omega) zK111
                have zK126 := up_off ze117 (show o + 33 ≠ o + 27 by omega) zK112
                have zK127 := up_off ze117 (show o + 61 ≠ o + 27 by omega) zK113
                have zK128 := up_at ze117
                have zK129 := up_off ze117 (show o + 28 ≠ o + 27 by omega) zK99
                have zK130 := up_off ze117 (show o + 29 ≠ o + 27 by omega) zK100
                have zK131 := up_off ze117 (show o + 30 ≠ o + 27 by omega) zK101
                have zK132 := up_off ze117 (show o + 31 ≠ o + 27 by omega) zK102
                have zK133 := up_off ze117 (show o + 32 ≠ o + 27 by omega) zK103
                have zl134 : ∀ zq : Nat, zq < (o + 76) → zq ≠ (o + 27) → zq ≠ (o + 28) → zq ≠ (o + 29) → zq ≠ (o + 30) → zq ≠ (o + 31) → zq ≠ (o + 32) → zh116 zq = h zq := by intro zq hzq zn0 zn1 zn2 zn3 zn4 zn5; rw [ze117, va_up_ne _ _ (show zq ≠ o + 27 by omega)]; exact zl114 zq hzq zn0 zn1 zn2 zn3 zn4 zn5
                have zr135 : Zr κ (o + 76) h zh116 := (zr115).trans (Zr.same (fun zq h1 => by rw [ze117, va_up_ne _ _ (show zq ≠ o + 27 by omega)]))
                refine z_aload_n X 0 dX11_made_90 rfl ?_
                refine z_get X fl_X11_22_11 dX11_made_91 zK118 rfl ?_
                refine z_iload_n X 2 dX11_made_94 rfl ?_
                refine z_callV X (c_go (κ := κ) (n := n) (i := (o + 27)) (len := (1)) (nc := (nc)) (v := (vk)) (m := (upd (bg2 d) 10 (nI x))) (ts := (ts)) (cs := (cs)) (T := (Tx d)) (tx := (tx)) (cold := (y7)) (wind := (y8)) (zK128) ((zK129).trans (congrArg (arI κ 40) (win_off (by omega)).symm)) ((zK130).trans (congrArg (arI κ 40) (win_off (by omega)).symm)) ((zK131).trans (congrArg (arI κ 6) (bg2_set.trans (win_off (by omega)).symm))) zK132 zK133 (by first | assumption | omega) (TsO.mono zr135 hTs) ((CsO.mono zr135 hCs).row (fun z h1 h2 => (pk_un (by omega)).trans (bg2_off (by omega))) q5) ((pk_un (by omega)).trans (bg2_1 d)) (by first | assumption | omega) (by first | assumption | omega) ((pk_un (by omega)).trans ((bg2_off (by omega)).trans q4)) (by first | assumption | omega) (wfS_upd (wfS_bg2 hS) (by omega)) (wfC_upd (wfC_bg2 hC) (by omega)) (by first | assumption | omega)) mk_X2_go dX11_made_95 wd_596 wd_597 wd_598 rfl zK128 rfl rfl rfl (Nat.le_of_ble_eq_true rfl) (Nat.le_of_ble_eq_true rfl) (Nat.le_of_ble_eq_true rfl) (by omega) (by omega) (fun q zh138 zm140 zp141 => ?_)
                obtain ⟨cold'136, wind'137, rfl, zn142, zf143, zr144, zK145, zK146, zK147⟩ := zp141
                subst zm140
                refine z_st (st' := []) rfl ?_
                have zK148 : zh138 o = some (.inr (11, [.ref (o + 1), .ref (o + 14), .ref (o + 27), .ref (o + 33), .ref (o + 42), .ref (o + 55), .ref (o + 57), .ref (o + 59), .ref (o + 61), .int im])) := (zf143 o (by omega) (by omega) (by omega) (by omega)).trans zK118
                have zK149 : zh138 (o + 1) = some (.inr (3, [.ref (o + 1 + 1), .ref (o + 1 + 7), .ref (o + 1 + 9), .ref (o + 1 + 11), .int (d 13)])) := (zf143 (o + 1) (by omega) (by omega) (by omega) (by omega)).trans zK119
                have zK150 : zh138 (o + 2) = some (.inr (2, [.ref (o + 3), .ref (o + 4), .ref (o + 5), .ref (o + 6), .ref (o + 7), .int (nI len), .int (d 0), .int (d 2), .int (d 3), .int (nI nc), .int (d 10), .int cold, .int wind])) := (zf143 (o + 2) (by omega) (by omega) (by omega) (by omega)).trans zK120
                have zK151 : zh138 (o + 3) = arI κ 40 (win 100 40 d) := (zf143 (o + 3) (by omega) (by omega) (by omega) (by omega)).trans zK121
                have zK152 : zh138 (o + 4) = arI κ 40 (win 140 40 d) := (zf143 (o + 4) (by omega) (by omega) (by omega) (by omega)).trans zK122
                have zK153 : zh138 (o + 5) = arI κ 6 (win 4 6 d) := (zf143 (o + 5) (by omega) (by omega) (by omega) (by omega)).trans zK123
                have zK154 : zh138 (o + 6) = arR κ 1 6 cs := (zf143 (o + 6) (by omega) (by omega) (by omega) (by omega)).trans zK124
                have zK155 : zh138 (o + 7) = arR κ 2 2 ts := (zf143 (o + 7) (by omega) (by omega) (by omega) (by omega)).trans zK125
                have zK156 : zh138 (o + 33) = arR κ 3 4 (shF o) := (zf143 (o + 33) (by omega) (by omega) (by omega) (by omega)).trans zK126
                have zK157 : zh138 (o + 61) = arI κ 6 fo := (zf143 (o + 61) (by omega) (by omega) (by omega) (by omega)).trans zK127
                have zK158 : zh138 (o + 30) = arI κ 6 (win 4 6 d) := (zf143 (o + 30) (by omega) (by omega) (by omega) (by omega)).trans zK131
                have zK159 : zh138 (o + 31) = arR κ 1 6 cs := (zf143 (o + 31) (by omega) (by omega) (by omega) (by omega)).trans zK132
                have zK160 : zh138 (o + 32) = arR κ 2 2 ts := (zf143 (o + 32) (by omega) (by omega) (by omega) (by omega)).trans zK133
                have zl161 : ∀ zq : Nat, zq < (o + 76) → zq ≠ (o + 27) → zq ≠ (o + 28) → zq ≠ (o + 29) → zq ≠ (o + 30) → zq ≠ (o + 31) → zq ≠ (o + 32) → zh138 zq = h zq := by intro zq hzq zn0 zn1 zn2 zn3 zn4 zn5; rw [zf143 zq (by omega) (by omega) (by omega) (by omega)]; exact zl134 zq hzq zn0 zn1 zn2 zn3 zn4 zn5
                have zr162 : Zr κ (o + 76) h zh138 := (zr135).trans zr144
                have zS163 : zh138 (o + 34 + 2 * sk) = some (.inr (6, [.ref (o + 34 + 2 * sk + 1), .int (nI (ss sk)), .int (bi sk)])) := (zl161 (o + 34 + 2 * sk) (by omega) (by omega) (by omega) (by omega) (by omega) (by omega) (by omega)).trans (hSh sk hsk).1
                have zS164 : zh138 (o + 34 + 2 * sk + 1) = arI κ 40 (win (40 * sk) 40 nu) := (zl161 (o + 34 + 2 * sk + 1) (by omega) (by omega) (by omega) (by omega) (by omega) (by omega) (by omega)).trans (hSh sk hsk).2.1
                refine z_aload_n X 0 dX11_made_98 rfl ?_
                refine z_get X fl_X11_22_11 dX11_made_99 zK148 rfl ?_
                refine z_aload_n X 0 dX11_made_102 rfl ?_
                refine z_get X fl_X11_28_11 dX11_made_103 zK148 rfl ?_
                refine z_iload_n X 1 dX11_made_106 rfl ?_
                refine z_aald (t := 3) (v := .ref (o + 34 + 2 * sk)) X dX11_made_107 zK156 rfl (vp_in_nI (n := sk) (by omega) (by omega)) (by rw [nI_clamp (by omega)]; rfl) ?_
                refine z_callV X (c_offBy (κ := κ) (n := n) (i := (o + 27)) (len := (lnO (gbyN (Tx d) tx vk (upd (bg2 d) 10 (nI x))))) (m := (gbyN (Tx d) tx vk (upd (bg2 d) 10 (nI x)))) (now := ((gbyN (Tx d) tx vk (upd (bg2 d) 10 (nI x))) 0)) (dd := ((gbyN (Tx d) tx vk (upd (bg2 d) 10 (nI x))) 2)) (dr := ((gbyN (Tx d) tx vk (upd (bg2 d) 10 (nI x))) 3)) (cc := (nI nc)) (on := ((upd (bg2 d) 10 (nI x)) 10)) (cold := (cold'136)) (wind := (wind'137)) (r := (o + 34 + 2 * sk)) (bt := (bi sk)) (sz := (ss sk)) (s := (sk)) (nu := (nu)) zK145 zK146 zS163 zS164 ((gbyN_ok (T := Tx d) (tx := tx) (lnOk_upd (q := 10) (x := nI x) (bg2_ok d) (by omega)) vk).2.2) (hss_sk)) mk_X2_offBy dX11_made_108 wd_711 wd_712 wd_713 rfl zK145 rfl rfl rfl (Nat.le_of_ble_eq_true rfl) (Nat.le_of_ble_eq_true rfl) (Nat.le_of_ble_eq_true rfl) (by omega) (by omega) (fun q zh165 zm167 zp168 => ?_)
                obtain ⟨rfl, ze166, zn169⟩ := zp168
                subst zm167
                subst zh165
                refine z_st (st' := [.int (offS (gbyN (Tx d) tx vk (upd (bg2 d) 10 (nI x))) nu (lnO (gbyN (Tx d) tx vk (upd (bg2 d) 10 (nI x)))) (ss sk) sk 40)]) rfl ?_
                refine z_toe (y := madV (Tx d) tx d nu ss sk vk x) (mad_eq x) ?_
                refine z_istore (ls' := [(8, .int (madV (Tx d) tx d nu ss sk vk x)), (0, .ref o), (1, .int (nI sk)), (2, .int (nI vk)), (3, .int w), (4, .int b), (5, .int l), (6, .int (nI (2 ^ nc))), (7, .int (nI x))]) X dX11_made_111 (by decide) rfl ?_
                refine z_iload X 6 dX11_made_113 rfl ?_
                refine z_if_lt X 125 dX11_made_115 (by decide) (fun zc170 => ?_) (fun zc170 => ?_)
                · refine z_iload X 0 dX11_made_125 rfl ?_
                  refine z_istore (ls' := [(5, .int (madV (Tx d) tx d nu ss sk vk x)), (8, .int (madV (Tx d) tx d nu ss sk vk x)), (0, .ref o), (1, .int (nI sk)), (2, .int (nI vk)), (3, .int w), (4, .int b), (6, .int (nI (2 ^ nc))), (7, .int (nI x))]) X dX11_made_127 (by decide) rfl ?_
                  refine z_iload X 8 dX11_made_129 rfl ?_
                  refine z_istore (ls' := [(4, .int (nI x)), (5, .int (madV (Tx d) tx d nu ss sk vk x)), (8, .int (madV (Tx d) tx d nu ss sk vk x)), (0, .ref o), (1, .int (nI sk)), (2, .int (nI vk)), (3, .int w), (6, .int (nI (2 ^ nc))), (7, .int (nI x))]) X dX11_made_131 (by decide) rfl ?_
                  refine z_iinc (v := nI (x + 1)) (ls' := [(7, .int (nI (x + 1))), (4, .int (nI x)), (5, .int (madV (Tx d) tx d nu ss sk vk x)), (8, .int (madV (Tx d) tx d nu ss sk vk x)), (0, .ref o), (1, .int (nI sk)), (2, .int (nI vk)), (3, .int w), (6, .int (nI (2 ^ nc)))]) X 8 dX11_made_133 rfl (nI_1 (x)) (by decide) rfl ?_
                  refine z_goto X 70 dX11_made_136 (by decide) ?_
                  refine z_sub (ls' := [(0, .ref o), (1, .int (nI sk)), (2, .int (nI vk)), (3, .int w), (4, .int (nI x)), (5, .int (madV (Tx d) tx d nu ss sk vk x)), (6, .int (nI (2 ^ nc))), (7, .int (nI (x + 1)))]) [4, 5, 6, 7, 1, 2, 8, 0] rfl ?_
                  exact ih70 zh138 (x + 1) (nI x) (madV (Tx d) tx d nu ss sk vk x) (nI (lnO (gbyN (Tx d) tx vk (upd (bg2 d) 10 (nI x))))) ((gbyN (Tx d) tx vk (upd (bg2 d) 10 (nI x))) 0) ((gbyN (Tx d) tx vk (upd (bg2 d) 10 (nI x))) 2) ((gbyN (Tx d) tx vk (upd (bg2 d) 10 (nI x))) 3) (nI nc) ((upd (bg2 d) 10 (nI x)) 10) cold'136 wind'137 (win 100 40 (gbyN (Tx d) tx vk (upd (bg2 d) 10 (nI x)))) (win 140 40 (gbyN (Tx d) tx vk (upd (bg2 d) 10 (nI x)))) (win 4 6 d) cs ts (by omega) (by exact fun zq hzq zn0 zn1 zn2 zn3 zn4 zn5 => zl161 zq hzq zn0 zn1 zn2 zn3 zn4 zn5) (zr162) (by exact zK145) (by exact zK146) (by exact zK147) (by exact zK158) (by exact zK159) (by exact zK160) (by first | assumption | rfl | omega) (by first | exact AN_t (fun s => mad_nn s) hA (Or.inl (by assumption)) | exact AN_t (fun s => mad_nn s) hA (Or.inr (Int32.not_le.mp (by assumption))) | exact AN_f hA (by first | assumption | exact Int32.not_lt.mpr (by assumption)) (Int32.not_lt.mpr (by assumption)))
                · refine z_iload X 0 dX11_made_118 rfl ?_
                  refine z_iload X 6 dX11_made_120 rfl ?_
                  refine z_icmp_ge X 133 dX11_made_122 (by decide) (fun zc171 => ?_) (fun zc171 => ?_)
                  · refine z_iinc (v := nI (x + 1)) (ls' := [(7, .int (nI (x + 1))), (8, .int (madV (Tx d) tx d nu ss sk vk x)), (0, .ref o), (1, .int (nI sk)), (2, .int (nI vk)), (3, .int w), (4, .int b), (5, .int l), (6, .int (nI (2 ^ nc)))]) X 8 dX11_made_133 rfl (nI_1 (x)) (by decide) rfl ?_
                    refine z_goto X 70 dX11_made_136 (by decide) ?_
                    refine z_sub (ls' := [(0, .ref o), (1, .int (nI sk)), (2, .int (nI vk)), (3, .int w), (4, .int b), (5, .int l), (6, .int (nI (2 ^ nc))), (7, .int (nI (x + 1)))]) [2, 3, 4, 5, 6, 7, 8, 0] rfl ?_
                    exact ih70 zh138 (x + 1) b l (nI (lnO (gbyN (Tx d) tx vk (upd (bg2 d) 10 (nI x))))) ((gbyN (Tx d) tx vk (upd (bg2 d) 10 (nI x))) 0) ((gbyN (Tx d) tx vk (upd (bg2 d) 10 (nI x))) 2) ((gbyN (Tx d) tx vk (upd (bg2 d) 10 (nI x))) 3) (nI nc) ((upd (bg2 d) 10 (nI x)) 10) cold'136 wind'137 (win 100 40 (gbyN (Tx d) tx vk (upd (bg2 d) 10 (nI x)))) (win 140 40 (gbyN (Tx d) tx vk (upd (bg2 d) 10 (nI x)))) (win 4 6 d) cs ts (by omega) (by exact fun zq hzq zn0 zn1 zn2 zn3 zn4 zn5 => zl161 zq hzq zn0 zn1 zn2 zn3 zn4 zn5) (zr162) (by exact zK145) (by exact zK146) (by exact zK147) (by exact zK158) (by exact zK159) (by exact zK160) (by first | assumption | rfl | omega) (by first | exact AN_t (fun s => mad_nn s) hA (Or.inl (by assumption)) | exact AN_t (fun s => mad_nn s) hA (Or.inr (Int32.not_le.mp (by assumption))) | exact AN_f hA (by first | assumption | exact Int32.not_lt.mpr (by assumption)) (Int32.not_lt.mpr (by assumption)))
                  · refine z_iload X 0 dX11_made_125 rfl ?_
                    refine z_istore (ls' := [(5, .int (madV (Tx d) tx d nu ss sk vk x)), (8, .int (madV (Tx d) tx d nu ss sk vk x)), (0, .ref o), (1, .int (nI sk)), (2, .int (nI vk)), (3, .int w), (4, .int b), (6, .int (nI (2 ^ nc))), (7, .int (nI x))]) X dX11_made_127 (by decide) rfl ?_
                    refine z_iload X 8 dX11_made_129 rfl ?_
                    refine z_istore (ls' := [(4, .int (nI x)), (5, .int (madV (Tx d) tx d nu ss sk vk x)), (8, .int (madV (Tx d) tx d nu ss sk vk x)), (0, .ref o), (1, .int (nI sk)), (2, .int (nI vk)), (3, .int w), (6, .int (nI (2 ^ nc))), (7, .int (nI x))]) X dX11_made_131 (by decide) rfl ?_
                    refine z_iinc (v := nI (x + 1)) (ls' := [(7, .int (nI (x + 1))), (4, .int (nI x)), (5, .int (madV (Tx d) tx d nu ss sk vk x)), (8, .int (madV (Tx d) tx d nu ss sk vk x)), (0, .ref o), (1, .int (nI sk)), (2, .int (nI vk)), (3, .int w), (6, .int (nI (2 ^ nc)))]) X 8 dX11_made_133 rfl (nI_1 (x)) (by decide) rfl ?_
                    refine z_goto X 70 dX11_made_136 (by decide) ?_
                    refine z_sub (ls' := [(0, .ref o), (1, .int (nI sk)), (2, .int (nI vk)), (3, .int w), (4, .int (nI x)), (5, .int (madV (Tx d) tx d nu ss sk vk x)), (6, .int (nI (2 ^ nc))), (7, .int (nI (x + 1)))]) [4, 5, 6, 7, 1, 2, 8, 0] rfl ?_
                    exact ih70 zh138 (x + 1) (nI x) (madV (Tx d) tx d nu ss sk vk x) (nI (lnO (gbyN (Tx d) tx vk (upd (bg2 d) 10 (nI x))))) ((gbyN (Tx d) tx vk (upd (bg2 d) 10 (nI x))) 0) ((gbyN (Tx d) tx vk (upd (bg2 d) 10 (nI x))) 2) ((gbyN (Tx d) tx vk (upd (bg2 d) 10 (nI x))) 3) (nI nc) ((upd (bg2 d) 10 (nI x)) 10) cold'136 wind'137 (win 100 40 (gbyN (Tx d) tx vk (upd (bg2 d) 10 (nI x)))) (win 140 40 (gbyN (Tx d) tx vk (upd (bg2 d) 10 (nI x)))) (win 4 6 d) cs ts (by omega) (by exact fun zq hzq zn0 zn1 zn2 zn3 zn4 zn5 => zl161 zq hzq zn0 zn1 zn2 zn3 zn4 zn5) (zr162) (by exact zK145) (by exact zK146) (by exact zK147) (by exact zK158) (by exact zK159) (by exact zK160) (by first | assumption | rfl | omega) (by first | exact AN_t (fun s => mad_nn s) hA (Or.inl (by assumption)) | exact AN_t (fun s => mad_nn s) hA (Or.inr (Int32.not_le.mp (by assumption))) | exact AN_f hA (by first | assumption | exact Int32.not_lt.mpr (by assumption)) (Int32.not_lt.mpr (by assumption)))
          refine z_sub (ls' := [(0, .ref o), (1, .int (nI sk)), (2, .int (nI vk)), (3, .int w), (4, .int 0), (5, .int ((-1))), (6, .int (nI (2 ^ nc))), (7, .int 0)]) [4, 5, 6, 7, 3, 2, 1, 0] rfl ?_
          exact L70 _ h 0 0 ((-1)) alen anow add adr acc aon acold awind af1 af2 af3 ac1 at1 (Nat.lt_succ_self _) (by exact fun zq hzq zn0 zn1 zn2 zn3 zn4 zn5 => rfl) (Zr.refl) (by exact K8) (by exact K9) (by exact K10) (by exact K11) (by exact K12) (by exact K13) (by first | assumption | rfl | omega) (by exact AN_0)
        · replace zc72 := b2i_t zc72
          refine z_aload_n X 0 dX11_made_41 rfl ?_
          refine z_iconst (v := 2) X dX11_made_42 (by decide) ?_
          refine z_callV X (c_fail (κ := κ) (n := n) (o := (o)) (im := (im)) (fo := (fo)) (k := (2)) K0 K15 (by first | assumption | omega) (by first | assumption | omega)) mk_X11_fail dX11_made_43 wd_260 wd_262 wd_0 rfl K0 rfl rfl rfl (Nat.le_of_ble_eq_true rfl) (Nat.le_of_ble_eq_true rfl) (Nat.le_of_ble_eq_true rfl) (by omega) (by omega) (fun q zh172 zm174 zp175 => ?_)
          obtain ⟨rfl, ze173, zn176⟩ := zp175
          subst zm174
          refine z_st (st' := [.int (lowE 2)]) rfl ?_
          have zK177 : zh172 o = some (.inr (11, [.ref (o + 1), .ref (o + 14), .ref (o + 27), .ref (o + 33), .ref (o + 42), .ref (o + 55), .ref (o + 57), .ref (o + 59), .ref (o + 61), .int im])) := by rw [ze173]; rw [va_up_ne _ _ (show o ≠ o + 61 by omega)]; exact K0
          have zK178 : zh172 (o + 1) = some (.inr (3, [.ref (o + 1 + 1), .ref (o + 1 + 7), .ref (o + 1 + 9), .ref (o + 1 + 11), .int (d 13)])) := by rw [ze173]; rw [va_up_ne _ _ (show o + 1 ≠ o + 61 by omega)]; exact K1
          have zK179 : zh172 (o + 2) = some (.inr (2, [.ref (o + 3), .ref (o + 4), .ref (o + 5), .ref (o + 6), .ref (o + 7), .int (nI len), .int (d 0), .int (d 2), .int (d 3), .int (nI nc), .int (d 10), .int cold, .int wind])) := by rw [ze173]; rw [va_up_ne _ _ (show o + 2 ≠ o + 61 by omega)]; exact K2
          have zK180 : zh172 (o + 3) = arI κ 40 (win 100 40 d) := by rw [ze173]; rw [va_up_ne _ _ (show o + 3 ≠ o + 61 by omega)]; exact K3
          have zK181 : zh172 (o + 4) = arI κ 40 (win 140 40 d) := by rw [ze173]; rw [va_up_ne _ _ (show o + 4 ≠ o + 61 by omega)]; exact K4
          have zK182 : zh172 (o + 5) = arI κ 6 (win 4 6 d) := by rw [ze173]; rw [va_up_ne _ _ (show o + 5 ≠ o + 61 by omega)]; exact K5
          have zK183 : zh172 (o + 6) = arR κ 1 6 cs := by rw [ze173]; rw [va_up_ne _ _ (show o + 6 ≠ o + 61 by omega)]; exact K6
          have zK184 : zh172 (o + 7) = arR κ 2 2 ts := by rw [ze173]; rw [va_up_ne _ _ (show o + 7 ≠ o + 61 by omega)]; exact K7
          have zK185 : zh172 (o + 27) = some (.inr (2, [.ref (o + 28), .ref (o + 29), .ref (o + 30), .ref (o + 31), .ref (o + 32), .int alen, .int anow, .int add, .int adr, .int acc, .int aon, .int acold, .int awind])) := by rw [ze173]; rw [va_up_ne _ _ (show o + 27 ≠ o + 61 by omega)]; exact K8
          have zK186 : zh172 (o + 28) = arI κ 40 af1 := by rw [ze173]; rw [va_up_ne _ _ (show o + 28 ≠ o + 61 by omega)]; exact K9
          have zK187 : zh172 (o + 29) = arI κ 40 af2 := by rw [ze173]; rw [va_up_ne _ _ (show o + 29 ≠ o + 61 by omega)]; exact K10
          have zK188 : zh172 (o + 30) = arI κ 6 af3 := by rw [ze173]; rw [va_up_ne _ _ (show o + 30 ≠ o + 61 by omega)]; exact K11
          have zK189 : zh172 (o + 31) = arR κ 1 6 ac1 := by rw [ze173]; rw [va_up_ne _ _ (show o + 31 ≠ o + 61 by omega)]; exact K12
          have zK190 : zh172 (o + 32) = arR κ 2 2 at1 := by rw [ze173]; rw [va_up_ne _ _ (show o + 32 ≠ o + 61 by omega)]; exact K13
          have zK191 : zh172 (o + 33) = arR κ 3 4 (shF o) := by rw [ze173]; rw [va_up_ne _ _ (show o + 33 ≠ o + 61 by omega)]; exact K14
          have zK192 : zh172 (o + 61) = arI κ 6 (bmp fo 2) := by rw [ze173]; exact va_up_self _ _ _
          have zK193 : zh172 (o + 34 + 2 * sk) = some (.inr (6, [.ref (o + 34 + 2 * sk + 1), .int (nI (ss sk)), .int (bi sk)])) := by rw [ze173]; rw [va_up_ne _ _ (show o + 34 + 2 * sk ≠ o + 61 by omega)]; exact zS65
          have zK194 : zh172 (o + 34 + 2 * sk + 1) = arI κ 40 (win (40 * sk) 40 nu) := by rw [ze173]; rw [va_up_ne _ _ (show o + 34 + 2 * sk + 1 ≠ o + 61 by omega)]; exact zS66
          have zl195 : ∀ zq : Nat, zq < (o + 76) → zq ≠ (o + 61) → zh172 zq = h zq := by intro zq hzq zn0; rw [ze173, va_up_ne _ _ (show zq ≠ o + 61 by omega)]; try rfl
          have zr196 : Zr κ (o + 76) h zh172 := (Zr.refl).trans (Zr.same (fun zq h1 => by rw [ze173, va_up_ne _ _ (show zq ≠ o + 61 by omega)]))
          refine z_iret X E dX11_made_46 (by omega) (by omega) ⟨alen, anow, add, adr, acc, aon, acold, awind, af1, af2, af3, ac1, at1, ?_, ?_, ?_, ?_, ?_, ?_, ?_, ?_, ?_, ?_, ?_⟩
          · rw [made_2 (T := Tx d) (tx := tx) (d := d) (nu := nu) (ss := ss) (nc := nc) (w := w) hsk (by omega) hww (by assumption)]; first | exact congrArg (fun z => some (Value.int z)) (ansOf_0 _).symm | rfl
          · rfl
          · exact fun zq hzq zn0 zn1 zn2 zn3 zn4 zn5 zn6 => zl195 zq hzq zn6
          · exact zr196
          · exact zK185
          · exact zK186
          · exact zK187
          · exact zK188
          · exact zK189
          · exact zK190
          · rw [made_2 (T := Tx d) (tx := tx) (d := d) (nu := nu) (ss := ss) (nc := nc) (w := w) hsk (by omega) hww (by assumption)]; first | (rw [bump_0]; exact zK192) | exact zK192
      · replace zc64 := b2i_f zc64
        refine z_aload_n X 0 dX11_made_23 rfl ?_
        refine z_iconst (v := 1) X dX11_made_24 (by decide) ?_
        refine z_callV X (c_fail (κ := κ) (n := n) (o := (o)) (im := (im)) (fo := (fo)) (k := (1)) K0 K15 (by first | assumption | omega) (by first | assumption | omega)) mk_X11_fail dX11_made_25 wd_260 wd_262 wd_0 rfl K0 rfl rfl rfl (Nat.le_of_ble_eq_true rfl) (Nat.le_of_ble_eq_true rfl) (Nat.le_of_ble_eq_true rfl) (by omega) (by omega) (fun q zh197 zm199 zp200 => ?_)
        obtain ⟨rfl, ze198, zn201⟩ := zp200
        subst zm199
        refine z_st (st' := [.int (lowE 1)]) rfl ?_
        have zK202 : zh197 o = some (.inr (11, [.ref (o + 1), .ref (o + 14), .ref (o + 27), .ref (o + 33), .ref (o + 42), .ref (o + 55), .ref (o + 57), .ref (o + 59), .ref (o + 61), .int im])) := by rw [ze198]; rw [va_up_ne _ _ (show o ≠ o + 61 by omega)]; exact K0
        have zK203 : zh197 (o + 1) = some (.inr (3, [.ref (o + 1 + 1), .ref (o + 1 + 7), .ref (o + 1 + 9), .ref (o + 1 + 11), .int (d 13)])) := by rw [ze198]; rw [va_up_ne _ _ (show o + 1 ≠ o + 61 by omega)]; exact K1
        have zK204 : zh197 (o + 2) = some (.inr (2, [.ref (o + 3), .ref (o + 4), .ref (o + 5), .ref (o + 6), .ref (o + 7), .int (nI len), .int (d 0), .int (d 2), .int (d 3), .int (nI nc), .int (d 10), .int cold, .int wind])) := by rw [ze198]; rw [va_up_ne _ _ (show o + 2 ≠ o + 61 by omega)]; exact K2
        have zK205 : zh197 (o + 3) = arI κ 40 (win 100 40 d) := by rw [ze198]; rw [va_up_ne _ _ (show o + 3 ≠ o + 61 by omega)]; exact K3
        have zK206 : zh197 (o + 4) = arI κ 40 (win 140 40 d) := by rw [ze198]; rw [va_up_ne _ _ (show o + 4 ≠ o + 61 by omega)]; exact K4
        have zK207 : zh197 (o + 5) = arI κ 6 (win 4 6 d) := by rw [ze198]; rw [va_up_ne _ _ (show o + 5 ≠ o + 61 by omega)]; exact K5
        have zK208 : zh197 (o + 6) = arR κ 1 6 cs := by rw [ze198]; rw [va_up_ne _ _ (show o + 6 ≠ o + 61 by omega)]; exact K6
        have zK209 : zh197 (o + 7) = arR κ 2 2 ts := by rw [ze198]; rw [va_up_ne _ _ (show o + 7 ≠ o + 61 by omega)]; exact K7
        have zK210 : zh197 (o + 27) = some (.inr (2, [.ref (o + 28), .ref (o + 29), .ref (o + 30), .ref (o + 31), .ref (o + 32), .int alen, .int anow, .int add, .int adr, .int acc, .int aon, .int acold, .int awind])) := by rw [ze198]; rw [va_up_ne _ _ (show o + 27 ≠ o + 61 by omega)]; exact K8
        have zK211 : zh197 (o + 28) = arI κ 40 af1 := by rw [ze198]; rw [va_up_ne _ _ (show o + 28 ≠ o + 61 by omega)]; exact K9
        have zK212 : zh197 (o + 29) = arI κ 40 af2 := by rw [ze198]; rw [va_up_ne _ _ (show o + 29 ≠ o + 61 by omega)]; exact K10
        have zK213 : zh197 (o + 30) = arI κ 6 af3 := by rw [ze198]; rw [va_up_ne _ _ (show o + 30 ≠ o + 61 by omega)]; exact K11
        have zK214 : zh197 (o + 31) = arR κ 1 6 ac1 := by rw [ze198]; rw [va_up_ne _ _ (show o + 31 ≠ o + 61 by omega)]; exact K12
        have zK215 : zh197 (o + 32) = arR κ 2 2 at1 := by rw [ze198]; rw [va_up_ne _ _ (show o + 32 ≠ o + 61 by omega)]; exact K13
        have zK216 : zh197 (o + 33) = arR κ 3 4 (shF o) := by rw [ze198]; rw [va_up_ne _ _ (show o + 33 ≠ o + 61 by omega)]; exact K14
        have zK217 : zh197 (o + 61) = arI κ 6 (bmp fo 1) := by rw [ze198]; exact va_up_self _ _ _
        have zl218 : ∀ zq : Nat, zq < (o + 76) → zq ≠ (o + 61) → zh197 zq = h zq := by intro zq hzq zn0; rw [ze198, va_up_ne _ _ (show zq ≠ o + 61 by omega)]; try rfl
        have zr219 : Zr κ (o + 76) h zh197 := (Zr.refl).trans (Zr.same (fun zq h1 => by rw [ze198, va_up_ne _ _ (show zq ≠ o + 61 by omega)]))
        refine z_iret X E dX11_made_28 (by omega) (by omega) ⟨alen, anow, add, adr, acc, aon, acold, awind, af1, af2, af3, ac1, at1, ?_, ?_, ?_, ?_, ?_, ?_, ?_, ?_, ?_, ?_, ?_⟩
        · rw [made_e (T := Tx d) (tx := tx) (d := d) (nu := nu) (ss := ss) (nc := nc) (by omega)]; first | exact congrArg (fun z => some (Value.int z)) (ansOf_0 _).symm | rfl
        · rfl
        · exact fun zq hzq zn0 zn1 zn2 zn3 zn4 zn5 zn6 => zl218 zq hzq zn6
        · exact zr219
        · exact zK210
        · exact zK211
        · exact zK212
        · exact zK213
        · exact zK214
        · exact zK215
        · rw [made_e (T := Tx d) (tx := tx) (d := d) (nu := nu) (ss := ss) (nc := nc) (by omega)]; first | (rw [bump_0]; exact zK217) | exact zK217
set_option maxHeartbeats 4000000 in
set_option maxRecDepth 100000 in
theorem p_blown {κ : Wc} {l : Launch} {h : Mm} {n : Nat} {o : Nat} {im : Int32} {d : Nat → Int32} {len : Nat} {nc : Nat} {cold : Int32} {wind : Int32} {cs : Nat → Option Nat} {ts : Nat → Option Nat} {alen : Int32} {anow : Int32} {add : Int32} {adr : Int32} {acc : Int32} {aon : Int32} {acold : Int32} {awind : Int32} {af1 : Nat → Int32} {af2 : Nat → Int32} {af3 : Nat → Int32} {ac1 : Nat → Option Nat} {at1 : Nat → Option Nat} {fo : Nat → Int32} {s : Int32} {v : Int32} {tx : Nat → Nat} {bi : Nat → Int32} {ss : Nat → Nat} {nu : Nat → Int32} (K0 : h o = some (.inr (11, [.ref (o + 1), .ref (o + 14), .ref (o + 27), .ref (o + 33), .ref (o + 42), .ref (o + 55), .ref (o + 57), .ref (o + 59), .ref (o + 61), .int im]))) (K1 : h (o + 1) = some (.inr (3, [.ref (o + 1 + 1), .ref (o + 1 + 7), .ref (o + 1 + 9), .ref (o + 1 + 11), .int (d 13)]))) (K2 : h (o + 2) = some (.inr (2, [.ref (o + 3), .ref (o + 4), .ref (o + 5), .ref (o + 6), .ref (o + 7), .int (nI len), .int (d 0), .int (d 2), .int (d 3), .int (nI nc), .int (d 10), .int cold, .int wind]))) (K3 : h (o + 3) = arI κ 40 (win 100 40 d)) (K4 : h (o + 4) = arI κ 40 (win 140 40 d)) (K5 : h (o + 5) = arI κ 6 (win 4 6 d)) (K6 : h (o + 6) = arR κ 1 6 cs) (K7 : h (o + 7) = arR κ 2 2 ts) (K8 : h (o + 27) = some (.inr (2, [.ref (o + 28), .ref (o + 29), .ref (o + 30), .ref (o + 31), .ref (o + 32), .int alen, .int anow, .int add, .int adr, .int acc, .int aon, .int acold, .int awind]))) (K9 : h (o + 28) = arI κ 40 af1) (K10 : h (o + 29) = arI κ 40 af2) (K11 : h (o + 30) = arI κ 6 af3) (K12 : h (o + 31) = arR κ 1 6 ac1) (K13 : h (o + 32) = arR κ 2 2 at1) (K14 : h (o + 33) = arR κ 3 4 (shF o)) (K15 : h (o + 61) = arI κ 6 fo) (q1 : d 1 = nI len) (q2 : 1 ≤ len) (q3 : len ≤ 40) (q4 : d 11 = nI nc) (q5 : nc ≤ 6) (hTs : TsO κ (o + 76) h ts (Tx d) tx) (hCs : CsO (o + 76) h cs d nc) (hCA : CsA (o + 76) h cs) (hS : wfS d) (hC : wfC d) (hSh : ShO κ o h bi ss nu) : Con κ l yX11_blown cX11_blown 7 (some .int) 14 0 0 [.ref o, .int s, .int v] h n (fun q h' n' => ∃ x1' : Int32, ∃ x2' : Int32, ∃ x3' : Int32, ∃ x4' : Int32, ∃ x5' : Int32, ∃ x6' : Int32, ∃ x7' : Int32, ∃ x8' : Int32, ∃ af1' : Nat → Int32, ∃ af2' : Nat → Int32, ∃ af3' : Nat → Int32, ∃ ac1' : Nat → Option Nat, ∃ at1' : Nat → Option Nat, q = some (.int (ansOf (opBlown (Tx d) tx d bi nu ss s v))) ∧ n' = n ∧ (∀ zq : Nat, zq < (o + 76) → zq ≠ (o + 27) → zq ≠ (o + 28) → zq ≠ (o + 29) → zq ≠ (o + 30) → zq ≠ (o + 31) → zq ≠ (o + 32) → zq ≠ (o + 61) → h' zq = h zq) ∧ Zr κ (o + 76) h h' ∧ h' (o + 27) = some (.inr (2, [.ref (o + 28), .ref (o + 29), .ref (o + 30), .ref (o + 31), .ref (o + 32), .int x1', .int x2', .int x3', .int x4', .int x5', .int x6', .int x7', .int x8'])) ∧ h' (o + 28) = arI κ 40 af1' ∧ h' (o + 29) = arI κ 40 af2' ∧ h' (o + 30) = arI κ 6 af3' ∧ h' (o + 31) = arR κ 1 6 ac1' ∧ h' (o + 32) = arR κ 2 2 at1' ∧ h' (o + 61) = arI κ 6 (bump (opBlown (Tx d) tx d bi nu ss s v) fo)) := by
  refine Con.of mk_X11_blown (Nat.le_of_ble_eq_true rfl) (fun G hG X E => ?_)
  subst hG
  refine z_ls (ls' := [(0, .ref o), (1, .int s), (2, .int v)]) rfl ?_
  have hOk : lnOk d := lnOk_of q1 q2 q3
  refine z_iload_n X 1 dX11_blown_0 rfl ?_
  refine z_callS X (c_isSheet (κ := κ) (n := n) (v := (s))  ) mk_X11_isSheet dX11_blown_1 wd_288 wd_289 rfl rfl (Nat.le_of_ble_eq_true rfl) (Nat.le_of_ble_eq_true rfl) (Nat.le_of_ble_eq_true rfl) (by omega) (by omega) (fun q zh1 zm3 zp4 => ?_)
  obtain ⟨rfl, ze2, zn5⟩ := zp4
  subst zm3
  subst zh1
  refine z_st (st' := [.int (b2i (0 ≤ (s : Int32).toInt ∧ (s : Int32).toInt ≤ 3))]) rfl ?_
  refine z_if_eq X 14 dX11_blown_4 (by decide) (fun zc6 => ?_) (fun zc6 => ?_)
  · replace zc6 := b2i_f zc6
    refine z_aload_n X 0 dX11_blown_14 rfl ?_
    refine z_iconst (v := 1) X dX11_blown_15 (by decide) ?_
    refine z_callV X (c_fail (κ := κ) (n := n) (o := (o)) (im := (im)) (fo := (fo)) (k := (1)) K0 K15 (by first | assumption | omega) (by first | assumption | omega)) mk_X11_fail dX11_blown_16 wd_260 wd_262 wd_0 rfl K0 rfl rfl rfl (Nat.le_of_ble_eq_true rfl) (Nat.le_of_ble_eq_true rfl) (Nat.le_of_ble_eq_true rfl) (by omega) (by omega) (fun q zh7 zm9 zp10 => ?_)
    obtain ⟨rfl, ze8, zn11⟩ := zp10
    subst zm9
    refine z_st (st' := [.int (lowE 1)]) rfl ?_
    have zK12 : zh7 o = some (.inr (11, [.ref (o + 1), .ref (o + 14), .ref (o + 27), .ref (o + 33), .ref (o + 42), .ref (o + 55), .ref (o + 57), .ref (o + 59), .ref (o + 61), .int im])) := by rw [ze8]; rw [va_up_ne _ _ (show o ≠ o + 61 by omega)]; exact K0
    have zK13 : zh7 (o + 1) = some (.inr (3, [.ref (o + 1 + 1), .ref (o + 1 + 7), .ref (o + 1 + 9), .ref (o + 1 + 11), .int (d 13)])) := by rw [ze8]; rw [va_up_ne _ _ (show o + 1 ≠ o + 61 by omega)]; exact K1
    have zK14 : zh7 (o + 2) = some (.inr (2, [.ref (o + 3), .ref (o + 4), .ref (o + 5), .ref (o + 6), .ref (o + 7), .int (nI len), .int (d 0), .int (d 2), .int (d 3), .int (nI nc), .int (d 10), .int cold, .int wind])) := by rw [ze8]; rw [va_up_ne _ _ (show o + 2 ≠ o + 61 by omega)]; exact K2
    have zK15 : zh7 (o + 3) = arI κ 40 (win 100 40 d) := by rw [ze8]; rw [va_up_ne _ _ (show o + 3 ≠ o + 61 by omega)]; exact K3
    have zK16 : zh7 (o + 4) = arI κ 40 (win 140 40 d) := by rw [ze8]; rw [va_up_ne _ _ (show o + 4 ≠ o + 61 by omega)]; exact K4
    have zK17 : zh7 (o + 5) = arI κ 6 (win 4 6 d) := by rw [ze8]; rw [va_up_ne _ _ (show o + 5 ≠ o + 61 by omega)]; exact K5
    have zK18 : zh7 (o + 6) = arR κ 1 6 cs := by rw [ze8]; rw [va_up_ne _ _ (show o + 6 ≠ o + 61 by omega)]; exact K6
    have zK19 : zh7 (o + 7) = arR κ 2 2 ts := by rw [ze8]; rw [va_up_ne _ _ (show o + 7 ≠ o + 61 by omega)]; exact K7
    have zK20 : zh7 (o + 27) = some (.inr (2, [.ref (o + 28), .ref (o + 29), .ref (o + 30), .ref (o + 31), .ref (o + 32), .int alen, .int anow, .int add, .int adr, .int acc, .int aon, .int acold, .int awind])) := by rw [ze8]; rw [va_up_ne _ _ (show o + 27 ≠ o + 61 by omega)]; exact K8
    have zK21 : zh7 (o + 28) = arI κ 40 af1 := by rw [ze8]; rw [va_up_ne _ _ (show o + 28 ≠ o + 61 by omega)]; exact K9
    have zK22 : zh7 (o + 29) = arI κ 40 af2 := by rw [ze8]; rw [va_up_ne _ _ (show o + 29 ≠ o + 61 by omega)]; exact K10
    have zK23 : zh7 (o + 30) = arI κ 6 af3 := by rw [ze8]; rw [va_up_ne _ _ (show o + 30 ≠ o + 61 by omega)]; exact K11
    have zK24 : zh7 (o + 31) = arR κ 1 6 ac1 := by rw [ze8]; rw [va_up_ne _ _ (show o + 31 ≠ o + 61 by omega)]; exact K12
    have zK25 : zh7 (o + 32) = arR κ 2 2 at1 := by rw [ze8]; rw [va_up_ne _ _ (show o + 32 ≠ o + 61 by omega)]; exact K13
    have zK26 : zh7 (o + 33) = arR κ 3 4 (shF o) := by rw [ze8]; rw [va_up_ne _ _ (show o + 33 ≠ o + 61 by omega)]; exact K14
    have zK27 : zh7 (o + 61) = arI κ 6 (bmp fo 1) := by rw [ze8]; exact va_up_self _ _ _
    have zl28 : ∀ zq : Nat, zq < (o + 76) → zq ≠ (o + 61) → zh7 zq = h zq := by intro zq hzq zn0; rw [ze8, va_up_ne _ _ (show zq ≠ o + 61 by omega)]; try rfl
    have zr29 : Zr κ (o + 76) h zh7 := (Zr.refl).trans (Zr.same (fun zq h1 => by rw [ze8, va_up_ne _ _ (show zq ≠ o + 61 by omega)]))
    refine z_iret X E dX11_blown_19 (by omega) (by omega) ⟨alen, anow, add, adr, acc, aon, acold, awind, af1, af2, af3, ac1, at1, ?_, ?_, ?_, ?_, ?_, ?_, ?_, ?_, ?_, ?_, ?_⟩
    · rw [blown_e (T := Tx d) (tx := tx) (d := d) (nu := nu) (ss := ss) (by omega)]; first | exact congrArg (fun z => some (Value.int z)) (ansOf_0 _).symm | rfl
    · rfl
    · exact fun zq hzq zn0 zn1 zn2 zn3 zn4 zn5 zn6 => zl28 zq hzq zn6
    · exact zr29
    · exact zK20
    · exact zK21
    · exact zK22
    · exact zK23
    · exact zK24
    · exact zK25
    · rw [blown_e (T := Tx d) (tx := tx) (d := d) (nu := nu) (ss := ss) (by omega)]; first | (rw [bump_0]; exact zK27) | exact zK27
  · replace zc6 := b2i_t zc6
    refine z_iload_n X 2 dX11_blown_7 rfl ?_
    refine z_callS X (c_isAhead (κ := κ) (n := n) (v := (v))  ) mk_X11_isAhead dX11_blown_8 wd_658 wd_659 rfl rfl (Nat.le_of_ble_eq_true rfl) (Nat.le_of_ble_eq_true rfl) (Nat.le_of_ble_eq_true rfl) (by omega) (by omega) (fun q zh30 zm32 zp33 => ?_)
    obtain ⟨rfl, ze31, zn34⟩ := zp33
    subst zm32
    subst zh30
    refine z_st (st' := [.int (b2i (0 ≤ (v : Int32).toInt ∧ (v : Int32).toInt ≤ 60))]) rfl ?_
    refine z_if_ne X 20 dX11_blown_11 (by decide) (fun zc35 => ?_) (fun zc35 => ?_)
    · replace zc35 := b2i_t zc35
      obtain ⟨sk, hsk, rfl⟩ := ix_of (c := s) (len := 4) (by omega) (by omega)
      obtain ⟨vk, hvk, rfl⟩ := ix_of (c := v) (len := 61) (by omega) (by omega)
      have zS36 := (hSh sk hsk).1
      have zS37 := (hSh sk hsk).2.1
      have hss_sk := (hSh sk hsk).2.2
      refine z_aload_n X 0 dX11_blown_20 rfl ?_
      refine z_get X fl_X11_28_11 dX11_blown_21 K0 rfl ?_
      refine z_iload_n X 1 dX11_blown_24 rfl ?_
      refine z_aald (t := 3) (v := .ref (o + 34 + 2 * sk)) X dX11_blown_25 K14 rfl (vp_in_nI (n := sk) (by omega) (by omega)) (by rw [nI_clamp (by omega)]; rfl) ?_
      refine z_callV X (c_Row_isMissing (κ := κ) (n := n) (r := (o + 34 + 2 * sk)) (sz := (nI (ss sk))) (bt := (bi sk)) zS36 ) mk_X6_isMissing dX11_blown_26 wd_291 wd_292 wd_293 rfl zS36 rfl rfl rfl (Nat.le_of_ble_eq_true rfl) (Nat.le_of_ble_eq_true rfl) (Nat.le_of_ble_eq_true rfl) (by omega) (by omega) (fun q zh38 zm40 zp41 => ?_)
      obtain ⟨rfl, ze39, zn42⟩ := zp41
      subst zm40
      subst zh38
      refine z_st (st' := [.int (b2i ((bi sk) = 0))]) rfl ?_
      refine z_if_eq X 38 dX11_blown_29 (by decide) (fun zc43 => ?_) (fun zc43 => ?_)
      · replace zc43 := b2i_f zc43
        refine z_iconst (v := 0) X dX11_blown_38 (by decide) ?_
        refine z_istore_n (ls' := [(3, .int 0), (0, .ref o), (1, .int (nI sk)), (2, .int (nI vk))]) X dX11_blown_39 (by decide) rfl ?_
        refine z_iconst (v := -1) X dX11_blown_40 (by decide) ?_
        refine z_istore (ls' := [(4, .int ((-1))), (3, .int 0), (0, .ref o), (1, .int (nI sk)), (2, .int (nI vk))]) X dX11_blown_41 (by decide) rfl ?_
        refine z_gets X 0 rfl dX11_blown_43 wd_310 ?_
        refine z_iconst (v := 3) X dX11_blown_46 (by decide) ?_
        refine z_ti (v := .int 0) X 0 rfl dX11_blown_47 (vp_in_nI (n := 3) (by decide) (by decide)) (rfl) ?_
        refine z_istore (ls' := [(5, .int 0), (4, .int ((-1))), (3, .int 0), (0, .ref o), (1, .int (nI sk)), (2, .int (nI vk))]) X dX11_blown_48 (by decide) rfl ?_
        have L50 : ∀ (jj : Nat) (hh50 : Mm) (x : Nat) (b : Int32) (l : Int32) (y1 : Int32) (y2 : Int32) (y3 : Int32) (y4 : Int32) (y5 : Int32) (y6 : Int32) (y7 : Int32) (y8 : Int32) (b1 : Nat → Int32) (b2 : Nat → Int32) (b3 : Nat → Int32) (b4 : Nat → Option Nat) (b5 : Nat → Option Nat), (100 - x < jj) → (∀ zq : Nat, zq < (o + 76) → zq ≠ (o + 27) → zq ≠ (o + 28) → zq ≠ (o + 29) → zq ≠ (o + 30) → zq ≠ (o + 31) → zq ≠ (o + 32) → hh50 zq = h zq) → Zr κ (o + 76) h hh50 → hh50 (o + 27) = some (.inr (2, [.ref (o + 28), .ref (o + 29), .ref (o + 30), .ref (o + 31), .ref (o + 32), .int y1, .int y2, .int y3, .int y4, .int y5, .int y6, .int y7, .int y8])) → hh50 (o + 28) = arI κ 40 b1 → hh50 (o + 29) = arI κ 40 b2 → hh50 (o + 30) = arI κ 6 b3 → hh50 (o + 31) = arR κ 1 6 b4 → hh50 (o + 32) = arR κ 2 2 b5 → (hx : x ≤ 100) → (hA : AN (bloV (Tx d) tx d nu ss sk vk) x b l) → Z κ G 7 50 [(0, .ref o), (1, .int (nI sk)), (2, .int (nI vk)), (3, .int b), (4, .int l), (5, .int (nI x))] [] hh50 n 0 (0) := by
          intro jj
          induction jj with
          | zero => intro hh50 x b l y1 y2 y3 y4 y5 y6 y7 y8 b1 b2 b3 b4 b5 hmu; exact absurd hmu (Nat.not_lt_zero _)
          | succ jj ih50 =>
            intro hh50 x b l y1 y2 y3 y4 y5 y6 y7 y8 b1 b2 b3 b4 b5 hmu zl_50 zr_50 zK44 zK45 zK46 zK47 zK48 zK49 hx hA
            have zK50 : hh50 o = some (.inr (11, [.ref (o + 1), .ref (o + 14), .ref (o + 27), .ref (o + 33), .ref (o + 42), .ref (o + 55), .ref (o + 57), .ref (o + 59), .ref (o + 61), .int im])) := (zl_50 o (by omega) (by omega) (by omega) (by omega) (by omega) (by omega) (by omega)).trans K0
            have zK51 : hh50 (o + 1) = some (.inr (3, [.ref (o + 1 + 1), .ref (o + 1 + 7), .ref (o + 1 + 9), .ref (o + 1 + 11), .int (d 13)])) := (zl_50 (o + 1) (by omega) (by omega) (by omega) (by omega) (by omega) (by omega) (by omega)).trans K1
            have zK52 : hh50 (o + 2) = some (.inr (2, [.ref (o + 3), .ref (o + 4), .ref (o + 5), .ref (o + 6), .ref (o + 7), .int (nI len), .int (d 0), .int (d 2), .int (d 3), .int (nI nc), .int (d 10), .int cold, .int wind])) := (zl_50 (o + 2) (by omega) (by omega) (by omega) (by omega) (by omega) (by omega) (by omega)).trans K2
            have zK53 : hh50 (o + 3) = arI κ 40 (win 100 40 d) := (zl_50 (o + 3) (by omega) (by omega) (by omega) (by omega) (by omega) (by omega) (by omega)).trans K3
            have zK54 : hh50 (o + 4) = arI κ 40 (win 140 40 d) := (zl_50 (o + 4) (by omega) (by omega) (by omega) (by omega) (by omega) (by omega) (by omega)).trans K4
            have zK55 : hh50 (o + 5) = arI κ 6 (win 4 6 d) := (zl_50 (o + 5) (by omega) (by omega) (by omega) (by omega) (by omega) (by omega) (by omega)).trans K5
            have zK56 : hh50 (o + 6) = arR κ 1 6 cs := (zl_50 (o + 6) (by omega) (by omega) (by omega) (by omega) (by omega) (by omega) (by omega)).trans K6
            have zK57 : hh50 (o + 7) = arR κ 2 2 ts := (zl_50 (o + 7) (by omega) (by omega) (by omega) (by omega) (by omega) (by omega) (by omega)).trans K7
            have zK58 : hh50 (o + 33) = arR κ 3 4 (shF o) := (zl_50 (o + 33) (by omega) (by omega) (by omega) (by omega) (by omega) (by omega) (by omega)).trans K14
            have zK59 : hh50 (o + 61) = arI κ 6 fo := (zl_50 (o + 61) (by omega) (by omega) (by omega) (by omega) (by omega) (by omega) (by omega)).trans K15
            refine z_iload X 5 dX11_blown_50 rfl ?_
            refine z_gets X 1 rfl dX11_blown_52 wd_312 ?_
            refine z_iconst (v := 3) X dX11_blown_55 (by decide) ?_
            refine z_ti (v := .int 99) X 1 rfl dX11_blown_56 (vp_in_nI (n := 3) (by decide) (by decide)) (rfl) ?_
            refine z_icmp_gt X 123 dX11_blown_57 (by decide) (fun zc60 => ?_) (fun zc60 => ?_)
            · try replace zc60 := (nI_ltI (a := 99) (b := x) (by omega) (by omega)).mp zc60
              refine z_iload_n X 3 dX11_blown_123 rfl ?_
              refine z_iret X E dX11_blown_124 (by omega) (by omega) ⟨y1, y2, y3, y4, y5, y6, y7, y8, b1, b2, b3, b4, b5, ?_, ?_, ?_, ?_, ?_, ?_, ?_, ?_, ?_, ?_, ?_⟩
              · rw [blown_0 (T := Tx d) (tx := tx) (d := d) (nu := nu) (ss := ss) (b := b) (l := l) hsk (by omega) (by assumption) (by rw [show 100 = x by omega]; exact hA)]; first | exact congrArg (fun z => some (Value.int z)) (ansOf_0 _).symm | rfl
              · rfl
              · exact fun zq hzq zn0 zn1 zn2 zn3 zn4 zn5 zn6 => zl_50 zq hzq zn0 zn1 zn2 zn3 zn4 zn5
              · exact zr_50
              · exact zK44
              · exact zK45
              · exact zK46
              · exact zK47
              · exact zK48
              · exact zK49
              · rw [blown_0 (T := Tx d) (tx := tx) (d := d) (nu := nu) (ss := ss) (b := b) (l := l) hsk (by omega) (by assumption) (by rw [show 100 = x by omega]; exact hA)]; first | (rw [bump_0]; exact zK59) | exact zK59
            · try replace zc60 := mt (nI_ltI (a := 99) (b := x) (by omega) (by omega)).mpr zc60
              refine z_aload_n X 0 dX11_blown_60 rfl ?_
              refine z_callV X (c_startAnew (κ := κ) (n := n) (o := (o)) (im := (im)) (d := (d)) (len := (len)) (nc := (nc)) (cold := (cold)) (wind := (wind)) (cs := (cs)) (ts := (ts)) (alen := (y1)) (anow := (y2)) (add := (y3)) (adr := (y4)) (acc := (y5)) (aon := (y6)) (acold := (y7)) (awind := (y8)) (af1 := (b1)) (af2 := (b2)) (af3 := (b3)) (ac1 := (b4)) (at1 := (b5)) (tx := (tx)) zK50 zK51 zK52 zK53 zK54 zK55 zK56 zK57 zK44 zK45 zK46 zK47 zK48 zK49 (TsO.mono zr_50 hTs) (CsO.mono zr_50 hCs) (CsA.mono zr_50 hCA)) mk_X11_startAnew dX11_blown_61 wd_728 wd_730 wd_21 rfl zK50 rfl rfl rfl (Nat.le_of_ble_eq_true rfl) (Nat.le_of_ble_eq_true rfl) (Nat.le_of_ble_eq_true rfl) (by omega) (by omega) (fun q zh61 zm63 zp64 => ?_)
              obtain ⟨rfl, zn65, zf66, zr67, zK68, zK69, zK70, zK71, zK72, zK73⟩ := zp64
              subst zm63
              refine z_st (st' := []) rfl ?_
              have zK74 : zh61 o = some (.inr (11, [.ref (o + 1), .ref (o + 14), .ref (o + 27), .ref (o + 33), .ref (o + 42), .ref (o + 55), .ref (o + 57), .ref (o + 59), .ref (o + 61), .int im])) := (zf66 o (by omega) (by omega) (by omega) (by omega) (by omega) (by omega) (by omega)).trans zK50
              have zK75 : zh61 (o + 1) = some (.inr (3, [.ref (o + 1 + 1), .ref (o + 1 + 7), .ref (o + 1 + 9), .ref (o + 1 + 11), .int (d 13)])) := (zf66 (o + 1) (by omega) (by omega) (by omega) (by omega) (by omega) (by omega) (by omega)).trans zK51
              have zK76 : zh61 (o + 2) = some (.inr (2, [.ref (o + 3), .ref (o + 4), .ref (o + 5), .ref (o + 6), .ref (o + 7), .int (nI len), .int (d 0), .int (d 2), .int (d 3), .int (nI nc), .int (d 10), .int cold, .int wind])) := (zf66 (o + 2) (by omega) (by omega) (by omega) (by omega) (by omega) (by omega) (by omega)).trans zK52
              have zK77 : zh61 (o + 3) = arI κ 40 (win 100 40 d) := (zf66 (o + 3) (by omega) (by omega) (by omega) (by omega) (by omega) (by omega) (by omega)).trans zK53
              have zK78 : zh61 (o + 4) = arI κ 40 (win 140 40 d) := (zf66 (o + 4) (by omega) (by omega) (by omega) (by omega) (by omega) (by omega) (by omega)).trans zK54
              have zK79 : zh61 (o + 5) = arI κ 6 (win 4 6 d) := (zf66 (o + 5) (by omega) (by omega) (by omega) (by omega) (by omega) (by omega) (by omega)).trans zK55
              have zK80 : zh61 (o + 6) = arR κ 1 6 cs := (zf66 (o + 6) (by omega) (by omega) (by omega) (by omega) (by omega) (by omega) (by omega)).trans zK56
              have zK81 : zh61 (o + 7) = arR κ 2 2 ts := (zf66 (o + 7) (by omega) (by omega) (by omega) (by omega) (by omega) (by omega) (by omega)).trans zK57
              have zK82 : zh61 (o + 33) = arR κ 3 4 (shF o) := (zf66 (o + 33) (by omega) (by omega) (by omega) (by omega) (by omega) (by omega) (by omega)).trans zK58
              have zK83 : zh61 (o + 61) = arI κ 6 fo := (zf66 (o + 61) (by omega) (by omega) (by omega) (by omega) (by omega) (by omega) (by omega)).trans zK59
              have zl84 : ∀ zq : Nat, zq < (o + 76) → zq ≠ (o + 27) → zq ≠ (o + 28) → zq ≠ (o + 29) → zq ≠ (o + 30) → zq ≠ (o + 31) → zq ≠ (o + 32) → zh61 zq = h zq := by intro zq hzq zn0 zn1 zn2 zn3 zn4 zn5; rw [zf66 zq (by omega) (by omega) (by omega) (by omega) (by omega) (by omega) (by omega)]; exact zl_50 zq hzq zn0 zn1 zn2 zn3 zn4 zn5
              have zr85 : Zr κ (o + 76) h zh61 := (zr_50).trans zr67
              refine z_aload_n X 0 dX11_blown_64 rfl ?_
              refine z_get X fl_X11_22_11 dX11_blown_65 zK74 rfl ?_
              refine z_get X fl_X11_114_2 dX11_blown_68 zK68 rfl ?_
              refine z_iconst (v := 3) X dX11_blown_71 (by decide) ?_
              refine z_iload X 5 dX11_blown_72 rfl ?_
              refine z_iast X dX11_blown_74 zK71 (vp_in_nI (n := 3) (by omega) (by omega)) (congrArg (fun z => va_up zh61 (o + 30) (arI κ 6 (upd (win 4 6 d) z (nI x)))) (nI_clamp (n := 3) (by omega))) ?_
              obtain ⟨zh86, ze87⟩ : ∃ z : Mm, z = va_up zh61 (o + 30) (arI κ 6 (upd (win 4 6 d) 3 (nI x))) := ⟨_, rfl⟩
              refine z_heap (h' := zh86) ze87.symm ?_
              have zK88 := up_off ze87 (show o ≠ o + 30 by omega) zK74
              have zK89 := up_off ze87 (show o + 1 ≠ o + 30 by omega) zK75
              have zK90 := up_off ze87 (show o + 2 ≠ o + 30 by omega) zK76
              have zK91 := up_off ze87 (show o + 3 ≠ o + 30 by omega) zK77
              have zK92 := up_off ze87 (show o + 4 ≠ o + 30 by omega) zK78
              have zK93 := up_off ze87 (show o + 5 ≠ o + 30 by omega) zK79
              have zK94 := up_off ze87 (show o + 6 ≠ o + 30 by omega) zK80
              have zK95 := up_off ze87 (show o + 7 ≠ o + 30 by omega) zK81
              have zK96 := up_off ze87 (show o + 33 ≠ o + 30 by omega) zK82
              have zK97 := up_off ze87 (show o + 61 ≠ o + 30 by omega) zK83
              have zK98 := up_off ze87 (show o + 27 ≠ o + 30 by omega) zK68
              have zK99 := up_off ze87 (show o + 28 ≠ o + 30 by omega) zK69
              have zK100 := up_off ze87 (show o + 29 ≠ o + 30 by omega) zK70
              have zK101 := up_at ze87
              have zK102 := up_off ze87 (show o + 31 ≠ o + 30 by omega) zK72
              have zK103 := up_off ze87 (show o + 32 ≠ o + 30 by omega) zK73
              have zl104 : ∀ zq : Nat, zq < (o + 76) → zq ≠ (o + 27) → zq ≠ (o + 28) → zq ≠ (o + 29) → zq ≠ (o + 30) → zq ≠ (o + 31) → zq ≠ (o + 32) → zh86 zq = h zq := by intro zq hzq zn0 zn1 zn2 zn3 zn4 zn5; rw [ze87, va_up_ne _ _ (show zq ≠ o + 30 by omega)]; exact zl84 zq hzq zn0 zn1 zn2 zn3 zn4 zn5
              have zr105 : Zr κ (o + 76) h zh86 := (zr85).trans (Zr.same (fun zq h1 => by rw [ze87, va_up_ne _ _ (show zq ≠ o + 30 by omega)]))
              refine z_aload_n X 0 dX11_blown_75 rfl ?_
              refine z_get X fl_X11_22_11 dX11_blown_76 zK88 rfl ?_
              refine z_iload_n X 2 dX11_blown_79 rfl ?_
              refine z_callV X (c_go (κ := κ) (n := n) (i := (o + 27)) (len := (1)) (nc := (nc)) (v := (vk)) (m := (upd (bg2 d) 7 (nI x))) (ts := (ts)) (cs := (cs)) (T := (Tx d)) (tx := (tx)) (cold := (y7)) (wind := (y8)) (zK98) ((zK99).trans (congrArg (arI κ 40) (win_off (by omega)).symm)) ((zK100).trans (congrArg (arI κ 40) (win_off (by omega)).symm)) ((zK101).trans (congrArg (arI κ 6) ((congrArg (fun z => upd z 3 _) bg2_set).trans (win_us (b := 4) (m := bg2 d) (show 3 < 6 by omega)).symm))) zK102 zK103 (by first | assumption | omega) (TsO.mono zr105 hTs) ((CsO.mono zr105 hCs).row (fun z h1 h2 => (pk_un (by omega)).trans (bg2_off (by omega))) q5) ((pk_un (by omega)).trans (bg2_1 d)) (by first | assumption | omega) (by first | assumption | omega) ((pk_un (by omega)).trans ((bg2_off (by omega)).trans q4)) (by first | assumption | omega) (wfS_upd (wfS_bg2 hS) (by omega)) (wfC_upd (wfC_bg2 hC) (by omega)) (by first | assumption | omega)) mk_X2_go dX11_blown_80 wd_596 wd_597 wd_598 rfl zK98 rfl rfl rfl (Nat.le_of_ble_eq_true rfl) (Nat.le_of_ble_eq_true rfl) (Nat.le_of_ble_eq_true rfl) (by omega) (by omega) (fun q zh108 zm110 zp111 => ?_)
              obtain ⟨cold'106, wind'107, rfl, zn112, zf113, zr114, zK115, zK116, zK117⟩ := zp111
              subst zm110
              refine z_st (st' := []) rfl ?_
              have zK118 : zh108 o = some (.inr (11, [.ref (o + 1), .ref (o + 14), .ref (o + 27), .ref (o + 33), .ref (o + 42), .ref (o + 55), .ref (o + 57), .ref (o + 59), .ref (o + 61), .int im])) := (zf113 o (by omega) (by omega) (by omega) (by omega)).trans zK88
              have zK119 : zh108 (o + 1) = some (.inr (3, [.ref (o + 1 + 1), .ref (o + 1 + 7), .ref (o + 1 + 9), .ref (o + 1 + 11), .int (d 13)])) := (zf113 (o + 1) (by omega) (by omega) (by omega) (by omega)).trans zK89
              have zK120 : zh108 (o + 2) = some (.inr (2, [.ref (o + 3), .ref (o + 4), .ref (o + 5), .ref (o + 6), .ref (o + 7), .int (nI len), .int (d 0), .int (d 2), .int (d 3), .int (nI nc), .int (d 10), .int cold, .int wind])) := (zf113 (o + 2) (by omega) (by omega) (by omega) (by omega)).trans zK90
              have zK121 : zh108 (o + 3) = arI κ 40 (win 100 40 d) := (zf113 (o + 3) (by omega) (by omega) (by omega) (by omega)).trans zK91
              have zK122 : zh108 (o + 4) = arI κ 40 (win 140 40 d) := (zf113 (o + 4) (by omega) (by omega) (by omega) (by omega)).trans zK92
              have zK123 : zh108 (o + 5) = arI κ 6 (win 4 6 d) := (zf113 (o + 5) (by omega) (by omega) (by omega) (by omega)).trans zK93
              have zK124 : zh108 (o + 6) = arR κ 1 6 cs := (zf113 (o + 6) (by omega) (by omega) (by omega) (by omega)).trans zK94
              have zK125 : zh108 (o + 7) = arR κ 2 2 ts := (zf113 (o + 7) (by omega) (by omega) (by omega) (by omega)).trans zK95
              have zK126 : zh108 (o + 33) = arR κ 3 4 (shF o) := (zf113 (o + 33) (by omega) (by omega) (by omega) (by omega)).trans zK96
              have zK127 : zh108 (o + 61) = arI κ 6 fo := (zf113 (o + 61) (by omega) (by omega) (by omega) (by omega)).trans zK97
              have zK128 : zh108 (o + 30) = arI κ 6 (upd (win 4 6 d) 3 (nI x)) := (zf113 (o + 30) (by omega) (by omega) (by omega) (by omega)).trans zK101
              have zK129 : zh108 (o + 31) = arR κ 1 6 cs := (zf113 (o + 31) (by omega) (by omega) (by omega) (by omega)).trans zK102
              have zK130 : zh108 (o + 32) = arR κ 2 2 ts := (zf113 (o + 32) (by omega) (by omega) (by omega) (by omega)).trans zK103
              have zl131 : ∀ zq : Nat, zq < (o + 76) → zq ≠ (o + 27) → zq ≠ (o + 28) → zq ≠ (o + 29) → zq ≠ (o + 30) → zq ≠ (o + 31) → zq ≠ (o + 32) → zh108 zq = h zq := by intro zq hzq zn0 zn1 zn2 zn3 zn4 zn5; rw [zf113 zq (by omega) (by omega) (by omega) (by omega)]; exact zl104 zq hzq zn0 zn1 zn2 zn3 zn4 zn5
              have zr132 : Zr κ (o + 76) h zh108 := (zr105).trans zr114
              have zS133 : zh108 (o + 34 + 2 * sk) = some (.inr (6, [.ref (o + 34 + 2 * sk + 1), .int (nI (ss sk)), .int (bi sk)])) := (zl131 (o + 34 + 2 * sk) (by omega) (by omega) (by omega) (by omega) (by omega) (by omega) (by omega)).trans (hSh sk hsk).1
              have zS134 : zh108 (o + 34 + 2 * sk + 1) = arI κ 40 (win (40 * sk) 40 nu) := (zl131 (o + 34 + 2 * sk + 1) (by omega) (by omega) (by omega) (by omega) (by omega) (by omega) (by omega)).trans (hSh sk hsk).2.1
              refine z_aload_n X 0 dX11_blown_83 rfl ?_
              refine z_get X fl_X11_22_11 dX11_blown_84 zK118 rfl ?_
              refine z_aload_n X 0 dX11_blown_87 rfl ?_
              refine z_get X fl_X11_28_11 dX11_blown_88 zK118 rfl ?_
              refine z_iload_n X 1 dX11_blown_91 rfl ?_
              refine z_aald (t := 3) (v := .ref (o + 34 + 2 * sk)) X dX11_blown_92 zK126 rfl (vp_in_nI (n := sk) (by omega) (by omega)) (by rw [nI_clamp (by omega)]; rfl) ?_
              refine z_callV X (c_offBy (κ := κ) (n := n) (i := (o + 27)) (len := (lnO (gbyN (Tx d) tx vk (upd (bg2 d) 7 (nI x))))) (m := (gbyN (Tx d) tx vk (upd (bg2 d) 7 (nI x)))) (now := ((gbyN (Tx d) tx vk (upd (bg2 d) 7 (nI x))) 0)) (dd := ((gbyN (Tx d) tx vk (upd (bg2 d) 7 (nI x))) 2)) (dr := ((gbyN (Tx d) tx vk (upd (bg2 d) 7 (nI x))) 3)) (cc := (nI nc)) (on := ((upd (bg2 d) 7 (nI x)) 10)) (cold := (cold'106)) (wind := (wind'107)) (r := (o + 34 + 2 * sk)) (bt := (bi sk)) (sz := (ss sk)) (s := (sk)) (nu := (nu)) zK115 zK116 zS133 zS134 ((gbyN_ok (T := Tx d) (tx := tx) (lnOk_upd (q := 7) (x := nI x) (bg2_ok d) (by omega)) vk).2.2) (hss_sk)) mk_X2_offBy dX11_blown_93 wd_711 wd_712 wd_713 rfl zK115 rfl rfl rfl (Nat.le_of_ble_eq_true rfl) (Nat.le_of_ble_eq_true rfl) (Nat.le_of_ble_eq_true rfl) (by omega) (by omega) (fun q zh135 zm137 zp138 => ?_)
              obtain ⟨rfl, ze136, zn139⟩ := zp138
              subst zm137
              subst zh135
              refine z_st (st' := [.int (offS (gbyN (Tx d) tx vk (upd (bg2 d) 7 (nI x))) nu (lnO (gbyN (Tx d) tx vk (upd (bg2 d) 7 (nI x)))) (ss sk) sk 40)]) rfl ?_
              refine z_toe (y := bloV (Tx d) tx d nu ss sk vk x) (blo_eq x) ?_
              refine z_istore (ls' := [(6, .int (bloV (Tx d) tx d nu ss sk vk x)), (0, .ref o), (1, .int (nI sk)), (2, .int (nI vk)), (3, .int b), (4, .int l), (5, .int (nI x))]) X dX11_blown_96 (by decide) rfl ?_
              refine z_iload X 5 dX11_blown_98 rfl ?_
              refine z_if_lt X 110 dX11_blown_100 (by decide) (fun zc140 => ?_) (fun zc140 => ?_)
              · refine z_iload X 0 dX11_blown_110 rfl ?_
                refine z_istore (ls' := [(4, .int (bloV (Tx d) tx d nu ss sk vk x)), (6, .int (bloV (Tx d) tx d nu ss sk vk x)), (0, .ref o), (1, .int (nI sk)), (2, .int (nI vk)), (3, .int b), (5, .int (nI x))]) X dX11_blown_112 (by decide) rfl ?_
                refine z_iload X 6 dX11_blown_114 rfl ?_
                refine z_istore_n (ls' := [(3, .int (nI x)), (4, .int (bloV (Tx d) tx d nu ss sk vk x)), (6, .int (bloV (Tx d) tx d nu ss sk vk x)), (0, .ref o), (1, .int (nI sk)), (2, .int (nI vk)), (5, .int (nI x))]) X dX11_blown_116 (by decide) rfl ?_
                refine z_iinc (v := nI (x + 1)) (ls' := [(5, .int (nI (x + 1))), (3, .int (nI x)), (4, .int (bloV (Tx d) tx d nu ss sk vk x)), (6, .int (bloV (Tx d) tx d nu ss sk vk x)), (0, .ref o), (1, .int (nI sk)), (2, .int (nI vk))]) X 6 dX11_blown_117 rfl (nI_1 (x)) (by decide) rfl ?_
                refine z_goto X 50 dX11_blown_120 (by decide) ?_
                refine z_sub (ls' := [(0, .ref o), (1, .int (nI sk)), (2, .int (nI vk)), (3, .int (nI x)), (4, .int (bloV (Tx d) tx d nu ss sk vk x)), (5, .int (nI (x + 1)))]) [4, 5, 6, 1, 2, 0] rfl ?_
                exact ih50 zh108 (x + 1) (nI x) (bloV (Tx d) tx d nu ss sk vk x) (nI (lnO (gbyN (Tx d) tx vk (upd (bg2 d) 7 (nI x))))) ((gbyN (Tx d) tx vk (upd (bg2 d) 7 (nI x))) 0) ((gbyN (Tx d) tx vk (upd (bg2 d) 7 (nI x))) 2) ((gbyN (Tx d) tx vk (upd (bg2 d) 7 (nI x))) 3) (nI nc) ((upd (bg2 d) 7 (nI x)) 10) cold'106 wind'107 (win 100 40 (gbyN (Tx d) tx vk (upd (bg2 d) 7 (nI x)))) (win 140 40 (gbyN (Tx d) tx vk (upd (bg2 d) 7 (nI x)))) (upd (win 4 6 d) 3 (nI x)) cs ts (by omega) (by exact fun zq hzq zn0 zn1 zn2 zn3 zn4 zn5 => zl131 zq hzq zn0 zn1 zn2 zn3 zn4 zn5) (zr132) (by exact zK115) (by exact zK116) (by exact zK117) (by exact zK128) (by exact zK129) (by exact zK130) (by first | assumption | rfl | omega) (by first | exact AN_t (fun s => blo_nn s) hA (Or.inl (by assumption)) | exact AN_t (fun s => blo_nn s) hA (Or.inr (Int32.not_le.mp (by assumption))) | exact AN_f hA (by first | assumption | exact Int32.not_lt.mpr (by assumption)) (Int32.not_lt.mpr (by assumption)))
              · refine z_iload X 0 dX11_blown_103 rfl ?_
                refine z_iload X 5 dX11_blown_105 rfl ?_
                refine z_icmp_ge X 117 dX11_blown_107 (by decide) (fun zc141 => ?_) (fun zc141 => ?_)
                · refine z_iinc (v := nI (x + 1)) (ls' := [(5, .int (nI (x + 1))), (6, .int (bloV (Tx d) tx d nu ss sk vk x)), (0, .ref o), (1, .int (nI sk)), (2, .int (nI vk)), (3, .int b), (4, .int l)]) X 6 dX11_blown_117 rfl (nI_1 (x)) (by decide) rfl ?_
                  refine z_goto X 50 dX11_blown_120 (by decide) ?_
                  refine z_sub (ls' := [(0, .ref o), (1, .int (nI sk)), (2, .int (nI vk)), (3, .int b), (4, .int l), (5, .int (nI (x + 1)))]) [2, 3, 4, 5, 6, 0] rfl ?_
                  exact ih50 zh108 (x + 1) b l (nI (lnO (gbyN (Tx d) tx vk (upd (bg2 d) 7 (nI x))))) ((gbyN (Tx d) tx vk (upd (bg2 d) 7 (nI x))) 0) ((gbyN (Tx d) tx vk (upd (bg2 d) 7 (nI x))) 2) ((gbyN (Tx d) tx vk (upd (bg2 d) 7 (nI x))) 3) (nI nc) ((upd (bg2 d) 7 (nI x)) 10) cold'106 wind'107 (win 100 40 (gbyN (Tx d) tx vk (upd (bg2 d) 7 (nI x)))) (win 140 40 (gbyN (Tx d) tx vk (upd (bg2 d) 7 (nI x)))) (upd (win 4 6 d) 3 (nI x)) cs ts (by omega) (by exact fun zq hzq zn0 zn1 zn2 zn3 zn4 zn5 => zl131 zq hzq zn0 zn1 zn2 zn3 zn4 zn5) (zr132) (by exact zK115) (by exact zK116) (by exact zK117) (by exact zK128) (by exact zK129) (by exact zK130) (by first | assumption | rfl | omega) (by first | exact AN_t (fun s => blo_nn s) hA (Or.inl (by assumption)) | exact AN_t (fun s => blo_nn s) hA (Or.inr (Int32.not_le.mp (by assumption))) | exact AN_f hA (by first | assumption | exact Int32.not_lt.mpr (by assumption)) (Int32.not_lt.mpr (by assumption)))
                · refine z_iload X 0 dX11_blown_110 rfl ?_
                  refine z_istore (ls' := [(4, .int (bloV (Tx d) tx d nu ss sk vk x)), (6, .int (bloV (Tx d) tx d nu ss sk vk x)), (0, .ref o), (1, .int (nI sk)), (2, .int (nI vk)), (3, .int b), (5, .int (nI x))]) X dX11_blown_112 (by decide) rfl ?_
                  refine z_iload X 6 dX11_blown_114 rfl ?_
                  refine z_istore_n (ls' := [(3, .int (nI x)), (4, .int (bloV (Tx d) tx d nu ss sk vk x)), (6, .int (bloV (Tx d) tx d nu ss sk vk x)), (0, .ref o), (1, .int (nI sk)), (2, .int (nI vk)), (5, .int (nI x))]) X dX11_blown_116 (by decide) rfl ?_
                  refine z_iinc (v := nI (x + 1)) (ls' := [(5, .int (nI (x + 1))), (3, .int (nI x)), (4, .int (bloV (Tx d) tx d nu ss sk vk x)), (6, .int (bloV (Tx d) tx d nu ss sk vk x)), (0, .ref o), (1, .int (nI sk)), (2, .int (nI vk))]) X 6 dX11_blown_117 rfl (nI_1 (x)) (by decide) rfl ?_
                  refine z_goto X 50 dX11_blown_120 (by decide) ?_
                  refine z_sub (ls' := [(0, .ref o), (1, .int (nI sk)), (2, .int (nI vk)), (3, .int (nI x)), (4, .int (bloV (Tx d) tx d nu ss sk vk x)), (5, .int (nI (x + 1)))]) [4, 5, 6, 1, 2, 0] rfl ?_
                  exact ih50 zh108 (x + 1) (nI x) (bloV (Tx d) tx d nu ss sk vk x) (nI (lnO (gbyN (Tx d) tx vk (upd (bg2 d) 7 (nI x))))) ((gbyN (Tx d) tx vk (upd (bg2 d) 7 (nI x))) 0) ((gbyN (Tx d) tx vk (upd (bg2 d) 7 (nI x))) 2) ((gbyN (Tx d) tx vk (upd (bg2 d) 7 (nI x))) 3) (nI nc) ((upd (bg2 d) 7 (nI x)) 10) cold'106 wind'107 (win 100 40 (gbyN (Tx d) tx vk (upd (bg2 d) 7 (nI x)))) (win 140 40 (gbyN (Tx d) tx vk (upd (bg2 d) 7 (nI x)))) (upd (win 4 6 d) 3 (nI x)) cs ts (by omega) (by exact fun zq hzq zn0 zn1 zn2 zn3 zn4 zn5 => zl131 zq hzq zn0 zn1 zn2 zn3 zn4 zn5) (zr132) (by exact zK115) (by exact zK116) (by exact zK117) (by exact zK128) (by exact zK129) (by exact zK130) (by first | assumption | rfl | omega) (by first | exact AN_t (fun s => blo_nn s) hA (Or.inl (by assumption)) | exact AN_t (fun s => blo_nn s) hA (Or.inr (Int32.not_le.mp (by assumption))) | exact AN_f hA (by first | assumption | exact Int32.not_lt.mpr (by assumption)) (Int32.not_lt.mpr (by assumption)))
        refine z_sub (ls' := [(0, .ref o), (1, .int (nI sk)), (2, .int (nI vk)), (3, .int 0), (4, .int ((-1))), (5, .int 0)]) [3, 4, 5, 2, 1, 0] rfl ?_
        exact L50 _ h 0 0 ((-1)) alen anow add adr acc aon acold awind af1 af2 af3 ac1 at1 (Nat.lt_succ_self _) (by exact fun zq hzq zn0 zn1 zn2 zn3 zn4 zn5 => rfl) (Zr.refl) (by exact K8) (by exact K9) (by exact K10) (by exact K11) (by exact K12) (by exact K13) (by first | assumption | rfl | omega) (by exact AN_0)
      · replace zc43 := b2i_t zc43
        refine z_aload_n X 0 dX11_blown_32 rfl ?_
        refine z_iconst (v := 2) X dX11_blown_33 (by decide) ?_
        refine z_callV X (c_fail (κ := κ) (n := n) (o := (o)) (im := (im)) (fo := (fo)) (k := (2)) K0 K15 (by first | assumption | omega) (by first | assumption | omega)) mk_X11_fail dX11_blown_34 wd_260 wd_262 wd_0 rfl K0 rfl rfl rfl (Nat.le_of_ble_eq_true rfl) (Nat.le_of_ble_eq_true rfl) (Nat.le_of_ble_eq_true rfl) (by omega) (by omega) (fun q zh142 zm144 zp145 => ?_)
        obtain ⟨rfl, ze143, zn146⟩ := zp145
        subst zm144
        refine z_st (st' := [.int (lowE 2)]) rfl ?_
        have zK147 : zh142 o = some (.inr (11, [.ref (o + 1), .ref (o + 14), .ref (o + 27), .ref (o + 33), .ref (o + 42), .ref (o + 55), .ref (o + 57), .ref (o + 59), .ref (o + 61), .int im])) := by rw [ze143]; rw [va_up_ne _ _ (show o ≠ o + 61 by omega)]; exact K0
        have zK148 : zh142 (o + 1) = some (.inr (3, [.ref (o + 1 + 1), .ref (o + 1 + 7), .ref (o + 1 + 9), .ref (o + 1 + 11), .int (d 13)])) := by rw [ze143]; rw [va_up_ne _ _ (show o + 1 ≠ o + 61 by omega)]; exact K1
        have zK149 : zh142 (o + 2) = some (.inr (2, [.ref (o + 3), .ref (o + 4), .ref (o + 5), .ref (o + 6), .ref (o + 7), .int (nI len), .int (d 0), .int (d 2), .int (d 3), .int (nI nc), .int (d 10), .int cold, .int wind])) := by rw [ze143]; rw [va_up_ne _ _ (show o + 2 ≠ o + 61 by omega)]; exact K2
        have zK150 : zh142 (o + 3) = arI κ 40 (win 100 40 d) := by rw [ze143]; rw [va_up_ne _ _ (show o + 3 ≠ o + 61 by omega)]; exact K3
        have zK151 : zh142 (o + 4) = arI κ 40 (win 140 40 d) := by rw [ze143]; rw [va_up_ne _ _ (show o + 4 ≠ o + 61 by omega)]; exact K4
        have zK152 : zh142 (o + 5) = arI κ 6 (win 4 6 d) := by rw [ze143]; rw [va_up_ne _ _ (show o + 5 ≠ o + 61 by omega)]; exact K5
        have zK153 : zh142 (o + 6) = arR κ 1 6 cs := by rw [ze143]; rw [va_up_ne _ _ (show o + 6 ≠ o + 61 by omega)]; exact K6
        have zK154 : zh142 (o + 7) = arR κ 2 2 ts := by rw [ze143]; rw [va_up_ne _ _ (show o + 7 ≠ o + 61 by omega)]; exact K7
        have zK155 : zh142 (o + 27) = some (.inr (2, [.ref (o + 28), .ref (o + 29), .ref (o + 30), .ref (o + 31), .ref (o + 32), .int alen, .int anow, .int add, .int adr, .int acc, .int aon, .int acold, .int awind])) := by rw [ze143]; rw [va_up_ne _ _ (show o + 27 ≠ o + 61 by omega)]; exact K8
        have zK156 : zh142 (o + 28) = arI κ 40 af1 := by rw [ze143]; rw [va_up_ne _ _ (show o + 28 ≠ o + 61 by omega)]; exact K9
        have zK157 : zh142 (o + 29) = arI κ 40 af2 := by rw [ze143]; rw [va_up_ne _ _ (show o + 29 ≠ o + 61 by omega)]; exact K10
        have zK158 : zh142 (o + 30) = arI κ 6 af3 := by rw [ze143]; rw [va_up_ne _ _ (show o + 30 ≠ o + 61 by omega)]; exact K11
        have zK159 : zh142 (o + 31) = arR κ 1 6 ac1 := by rw [ze143]; rw [va_up_ne _ _ (show o + 31 ≠ o + 61 by omega)]; exact K12
        have zK160 : zh142 (o + 32) = arR κ 2 2 at1 := by rw [ze143]; rw [va_up_ne _ _ (show o + 32 ≠ o + 61 by omega)]; exact K13
        have zK161 : zh142 (o + 33) = arR κ 3 4 (shF o) := by rw [ze143]; rw [va_up_ne _ _ (show o + 33 ≠ o + 61 by omega)]; exact K14
        have zK162 : zh142 (o + 61) = arI κ 6 (bmp fo 2) := by rw [ze143]; exact va_up_self _ _ _
        have zK163 : zh142 (o + 34 + 2 * sk) = some (.inr (6, [.ref (o + 34 + 2 * sk + 1), .int (nI (ss sk)), .int (bi sk)])) := by rw [ze143]; rw [va_up_ne _ _ (show o + 34 + 2 * sk ≠ o + 61 by omega)]; exact zS36
        have zK164 : zh142 (o + 34 + 2 * sk + 1) = arI κ 40 (win (40 * sk) 40 nu) := by rw [ze143]; rw [va_up_ne _ _ (show o + 34 + 2 * sk + 1 ≠ o + 61 by omega)]; exact zS37
        have zl165 : ∀ zq : Nat, zq < (o + 76) → zq ≠ (o + 61) → zh142 zq = h zq := by intro zq hzq zn0; rw [ze143, va_up_ne _ _ (show zq ≠ o + 61 by omega)]; try rfl
        have zr166 : Zr κ (o + 76) h zh142 := (Zr.refl).trans (Zr.same (fun zq h1 => by rw [ze143, va_up_ne _ _ (show zq ≠ o + 61 by omega)]))
        refine z_iret X E dX11_blown_37 (by omega) (by omega) ⟨alen, anow, add, adr, acc, aon, acold, awind, af1, af2, af3, ac1, at1, ?_, ?_, ?_, ?_, ?_, ?_, ?_, ?_, ?_, ?_, ?_⟩
        · rw [blown_2 (T := Tx d) (tx := tx) (d := d) (nu := nu) (ss := ss) hsk (by omega) (by assumption)]; first | exact congrArg (fun z => some (Value.int z)) (ansOf_0 _).symm | rfl
        · rfl
        · exact fun zq hzq zn0 zn1 zn2 zn3 zn4 zn5 zn6 => zl165 zq hzq zn6
        · exact zr166
        · exact zK155
        · exact zK156
        · exact zK157
        · exact zK158
        · exact zK159
        · exact zK160
        · rw [blown_2 (T := Tx d) (tx := tx) (d := d) (nu := nu) (ss := ss) hsk (by omega) (by assumption)]; first | (rw [bump_0]; exact zK162) | exact zK162
    · replace zc35 := b2i_f zc35
      refine z_aload_n X 0 dX11_blown_14 rfl ?_
      refine z_iconst (v := 1) X dX11_blown_15 (by decide) ?_
      refine z_callV X (c_fail (κ := κ) (n := n) (o := (o)) (im := (im)) (fo := (fo)) (k := (1)) K0 K15 (by first | assumption | omega) (by first | assumption | omega)) mk_X11_fail dX11_blown_16 wd_260 wd_262 wd_0 rfl K0 rfl rfl rfl (Nat.le_of_ble_eq_true rfl) (Nat.le_of_ble_eq_true rfl) (Nat.le_of_ble_eq_true rfl) (by omega) (by omega) (fun q zh167 zm169 zp170 => ?_)
      obtain ⟨rfl, ze168, zn171⟩ := zp170
      subst zm169
      refine z_st (st' := [.int (lowE 1)]) rfl ?_
      have zK172 : zh167 o = some (.inr (11, [.ref (o + 1), .ref (o + 14), .ref (o + 27), .ref (o + 33), .ref (o + 42), .ref (o + 55), .ref (o + 57), .ref (o + 59), .ref (o + 61), .int im])) := by rw [ze168]; rw [va_up_ne _ _ (show o ≠ o + 61 by omega)]; exact K0
      have zK173 : zh167 (o + 1) = some (.inr (3, [.ref (o + 1 + 1), .ref (o + 1 + 7), .ref (o + 1 + 9), .ref (o + 1 + 11), .int (d 13)])) := by rw [ze168]; rw [va_up_ne _ _ (show o + 1 ≠ o + 61 by omega)]; exact K1
      have zK174 : zh167 (o + 2) = some (.inr (2, [.ref (o + 3), .ref (o + 4), .ref (o + 5), .ref (o + 6), .ref (o + 7), .int (nI len), .int (d 0), .int (d 2), .int (d 3), .int (nI nc), .int (d 10), .int cold, .int wind])) := by rw [ze168]; rw [va_up_ne _ _ (show o + 2 ≠ o + 61 by omega)]; exact K2
      have zK175 : zh167 (o + 3) = arI κ 40 (win 100 40 d) := by rw [ze168]; rw [va_up_ne _ _ (show o + 3 ≠ o + 61 by omega)]; exact K3
      have zK176 : zh167 (o + 4) = arI κ 40 (win 140 40 d) := by rw [ze168]; rw [va_up_ne _ _ (show o + 4 ≠ o + 61 by omega)]; exact K4
      have zK177 : zh167 (o + 5) = arI κ 6 (win 4 6 d) := by rw [ze168]; rw [va_up_ne _ _ (show o + 5 ≠ o + 61 by omega)]; exact K5
      have zK178 : zh167 (o + 6) = arR κ 1 6 cs := by rw [ze168]; rw [va_up_ne _ _ (show o + 6 ≠ o + 61 by omega)]; exact K6
      have zK179 : zh167 (o + 7) = arR κ 2 2 ts := by rw [ze168]; rw [va_up_ne _ _ (show o + 7 ≠ o + 61 by omega)]; exact K7
      have zK180 : zh167 (o + 27) = some (.inr (2, [.ref (o + 28), .ref (o + 29), .ref (o + 30), .ref (o + 31), .ref (o + 32), .int alen, .int anow, .int add, .int adr, .int acc, .int aon, .int acold, .int awind])) := by rw [ze168]; rw [va_up_ne _ _ (show o + 27 ≠ o + 61 by omega)]; exact K8
      have zK181 : zh167 (o + 28) = arI κ 40 af1 := by rw [ze168]; rw [va_up_ne _ _ (show o + 28 ≠ o + 61 by omega)]; exact K9
      have zK182 : zh167 (o + 29) = arI κ 40 af2 := by rw [ze168]; rw [va_up_ne _ _ (show o + 29 ≠ o + 61 by omega)]; exact K10
      have zK183 : zh167 (o + 30) = arI κ 6 af3 := by rw [ze168]; rw [va_up_ne _ _ (show o + 30 ≠ o + 61 by omega)]; exact K11
      have zK184 : zh167 (o + 31) = arR κ 1 6 ac1 := by rw [ze168]; rw [va_up_ne _ _ (show o + 31 ≠ o + 61 by omega)]; exact K12
      have zK185 : zh167 (o + 32) = arR κ 2 2 at1 := by rw [ze168]; rw [va_up_ne _ _ (show o + 32 ≠ o + 61 by omega)]; exact K13
      have zK186 : zh167 (o + 33) = arR κ 3 4 (shF o) := by rw [ze168]; rw [va_up_ne _ _ (show o + 33 ≠ o + 61 by omega)]; exact K14
      have zK187 : zh167 (o + 61) = arI κ 6 (bmp fo 1) := by rw [ze168]; exact va_up_self _ _ _
      have zl188 : ∀ zq : Nat, zq < (o + 76) → zq ≠ (o + 61) → zh167 zq = h zq := by intro zq hzq zn0; rw [ze168, va_up_ne _ _ (show zq ≠ o + 61 by omega)]; try rfl
      have zr189 : Zr κ (o + 76) h zh167 := (Zr.refl).trans (Zr.same (fun zq h1 => by rw [ze168, va_up_ne _ _ (show zq ≠ o + 61 by omega)]))
      refine z_iret X E dX11_blown_19 (by omega) (by omega) ⟨alen, anow, add, adr, acc, aon, acold, awind, af1, af2, af3, ac1, at1, ?_, ?_, ?_, ?_, ?_, ?_, ?_, ?_, ?_, ?_, ?_⟩
      · rw [blown_e (T := Tx d) (tx := tx) (d := d) (nu := nu) (ss := ss) (by omega)]; first | exact congrArg (fun z => some (Value.int z)) (ansOf_0 _).symm | rfl
      · rfl
      · exact fun zq hzq zn0 zn1 zn2 zn3 zn4 zn5 zn6 => zl188 zq hzq zn6
      · exact zr189
      · exact zK180
      · exact zK181
      · exact zK182
      · exact zK183
      · exact zK184
      · exact zK185
      · rw [blown_e (T := Tx d) (tx := tx) (d := d) (nu := nu) (ss := ss) (by omega)]; first | (rw [bump_0]; exact zK187) | exact zK187
