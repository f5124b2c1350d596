/-! what is worked out rests on the bytes of a text alone -/
section CG
variable {b b2 : Nat → Int32} {n : Nat}
theorem tk_cong (H : ∀ j, j < n → b j = b2 j) (p : Nat) (f : Option Nat) : tk b n p f = tk b2 n p f := by
  unfold tk
  by_cases h : p < n ∧ f = none
  · rw [if_pos h, if_pos h, H p h.1]
  · rw [if_neg h, if_neg h]
theorem dig_cong (H : ∀ j, j < n → b j = b2 j) (f : Option Nat) : ∀ r v p, digF b n f r v p = digF b2 n f r v p := by
  intro r
  induction r with
  | zero => intro v p; rfl
  | succ r ih => intro v p; unfold digF; rw [tk_cong H, ih]
theorem leaf_cong (H : ∀ j, j < n → b j = b2 j) (nm : Nat → Int32) (s : Ev) : leafU b n nm s = leafU b2 n nm s := by
  unfold leafU
  rw [tk_cong H, dig_cong H]
theorem prod_cong (H : ∀ j, j < n → b j = b2 j) {u : Ev → Int32 × Ev} : ∀ i v s, prodF b n u i v s = prodF b2 n u i v s := by
  intro i
  induction i with
  | zero => intro v s; rfl
  | succ i ih => intro v s; unfold prodF; rw [tk_cong H, ih]
theorem sum_cong (H : ∀ j, j < n → b j = b2 j) {u : Ev → Int32 × Ev} : ∀ i v s, sumF b n u i v s = sumF b2 n u i v s := by
  intro i
  induction i with
  | zero => intro v s; rfl
  | succ i ih => intro v s; unfold sumF; rw [tk_cong H, ih]
theorem both_cong (H : ∀ j, j < n → b j = b2 j) {u : Ev → Int32 × Ev} : ∀ i v s, bothF b n u i v s = bothF b2 n u i v s := by
  intro i
  induction i with
  | zero => intro v s; rfl
  | succ i ih => intro v s; unfold bothF; rw [tk_cong H, ih]
theorem eith_cong (H : ∀ j, j < n → b j = b2 j) {u : Ev → Int32 × Ev} : ∀ i v s, eithF b n u i v s = eithF b2 n u i v s := by
  intro i
  induction i with
  | zero => intro v s; rfl
  | succ i ih => intro v s; unfold eithF; rw [tk_cong H, ih]
theorem ev_cong (H : ∀ j, j < n → b j = b2 j) {U : EvF} {nm : Nat → Int32} (hU : ∀ s, U b n nm s = U b2 n nm s) : ∀ s, eithE (bothE (cmpE (sumE (prodE U)))) b n nm s = eithE (bothE (cmpE (sumE (prodE U)))) b2 n nm s := by
  have e : U b n nm = U b2 n nm := funext hU
  have h1 : prodE U b n nm = prodE U b2 n nm := by
    funext s; unfold prodE; rw [e, prod_cong H]
  have h2 : sumE (prodE U) b n nm = sumE (prodE U) b2 n nm := by
    funext s; unfold sumE; rw [h1, sum_cong H]
  have h3 : cmpE (sumE (prodE U)) b n nm = cmpE (sumE (prodE U)) b2 n nm := by
    funext s; unfold cmpE; rw [h2, tk_cong H]
  have h4 : bothE (cmpE (sumE (prodE U))) b n nm = bothE (cmpE (sumE (prodE U))) b2 n nm := by
    funext s; unfold bothE; rw [h3, both_cong H]
  intro s
  unfold eithE
  rw [h4, eith_cong H]
theorem unit_cong (H : ∀ j, j < n → b j = b2 j) (nm : Nat → Int32) : ∀ j s, unitF j b n nm s = unitF j b2 n nm s := by
  intro j
  induction j with
  | zero => intro s; unfold unitF; rw [tk_cong H, leaf_cong H]
  | succ j ih =>
    intro s
    unfold unitF
    rw [tk_cong H, leaf_cong H, ih, ev_cong H ih, tk_cong H]
theorem wkE_cong (H : ∀ j, j < n → b j = b2 j) (nm : Nat → Int32) : wkE b n nm = wkE b2 n nm := by
  have h := ev_cong H (unit_cong H nm 5)
  unfold wkE
  rw [show evE 5 b n nm (0, none, 0) = evE 5 b2 n nm (0, none, 0) from h _]
end CG
theorem TxO.cong {κ : Wc} {h : Mm} {a nn : Nat} {b b2 : Nat → Int32} (x : TxO κ h a b nn) (H : ∀ j, j < nn → b j = b2 j) : TxO κ h a b2 nn := by
  obtain ⟨L, st, sk, pl, tp, k0, k1, k2, k3, k4, k5⟩ := x
  exact ⟨L, st, sk, pl, tp, k0, k1, k2, k3, k4, fun nm => by rw [← wkE_cong H]; exact k5 nm⟩
theorem TsO.row {κ : Wc} {zb : Nat} {h : Mm} {ts : Nat → Option Nat} {T T2 : Nat → Nat → Int32} {tx tx2 : Nat → Nat} (H : TsO κ zb h ts T tx) (e : ∀ u, u < 2 → tx2 u = tx u ∧ ∀ j, j < tx u → T u j = T2 u j) : TsO κ zb h ts T2 tx2 := by
  intro u hu
  obtain ⟨e1, e2⟩ := e u hu
  rw [e1]
  rcases H u hu with h0 | ⟨h0, a, k1, k2, k3⟩
  · exact Or.inl h0
  · exact Or.inr ⟨h0, a, k1, k2, k3.cong e2⟩
theorem TsO.add {κ : Wc} {zb n u nt : Nat} {h : Mm} {ts : Nat → Option Nat} {T T2 : Nat → Nat → Int32} {tx : Nat → Nat} (H : TsO κ zb h ts T tx) (hn : zb ≤ n) (h0 : ¬ nt = 0) (x : TxO κ h n (T2 u) nt) (e : ∀ v, v < 2 → v ≠ u → ∀ j, j < tx v → T v j = T2 v j) : TsO κ zb h (va_up ts u (some n)) T2 (fun v => if v = u then nt else tx v) := by
  intro v hv
  by_cases hvu : v = u
  · subst hvu
    refine Or.inr ⟨?_, n, hn, va_up_self _ _ _, ?_⟩
    · show ¬ (if v = v then nt else tx v) = 0
      rw [if_pos rfl]; exact h0
    · show TxO κ h n (T2 v) (if v = v then nt else tx v)
      rw [if_pos rfl]; exact x
  · show ((if v = u then nt else tx v) = 0 ∧ _) ∨ (¬ (if v = u then nt else tx v) = 0 ∧ ∃ a, zb ≤ a ∧ _ ∧ TxO κ h a (T2 v) (if v = u then nt else tx v))
    rw [if_neg hvu, va_up_ne _ _ hvu]
    rcases H v hv with h1 | ⟨h1, a, k1, k2, k3⟩
    · exact Or.inl h1
    · exact Or.inr ⟨h1, a, k1, k2, k3.cong (e v hv hvu)⟩
theorem CsO_add {zb nc n kd : Nat} {h : Mm} {cs : Nat → Option Nat} {d : Nat → Int32} {m x y : Int32} (H : CsO zb h cs d nc) (hn : zb ≤ n) (hnc : nc < 6) (hk : kd < 7) (ho : h n = some (.inr (ciK kd, [.int (nI kd), .int (nI nc), .int m]))) : CsO zb h (va_up cs nc (some n)) (upd (upd (upd (upd d (20 + 2 * nc) (nI kd)) (20 + 2 * nc + 1) m) 10 x) 11 y) (nc + 1) := by
  intro k hk1
  by_cases e : k = nc
  · subst e
    refine ⟨n, kd, hn, va_up_self _ _ _, hk, (pk_un (by omega)).trans ((pk_un (by omega)).trans ((pk_un (by omega)).trans pk_us)), ?_⟩
    rw [show upd (upd (upd (upd d (20 + 2 * k) (nI kd)) (20 + 2 * k + 1) m) 10 x) 11 y (20 + 2 * k + 1) = m from (pk_un (by omega)).trans ((pk_un (by omega)).trans pk_us)]
    exact ho
  · obtain ⟨a, kd2, e1, e2, e3, e4, e5⟩ := H k (by omega)
    refine ⟨a, kd2, e1, (va_up_ne _ _ e).trans e2, e3, (pk_un (by omega)).trans ((pk_un (by omega)).trans ((pk_un (by omega)).trans ((pk_un (by omega)).trans e4))), ?_⟩
    rw [show upd (upd (upd (upd d (20 + 2 * nc) (nI kd)) (20 + 2 * nc + 1) m) 10 x) 11 y (20 + 2 * k + 1) = d (20 + 2 * k + 1) from (pk_un (by omega)).trans ((pk_un (by omega)).trans ((pk_un (by omega)).trans (pk_un (by omega))))]
    exact e5
theorem CsA_add {zb nc n kd : Nat} {h : Mm} {cs : Nat → Option Nat} {vs : List Value} (H : CsA zb h cs) (hn : zb ≤ n) (hk : kd < 7) (ho : h n = some (.inr (ciK kd, vs))) : CsA zb h (va_up cs nc (some n)) := by
  intro k hk1
  by_cases e : k = nc
  · subst e
    exact Or.inr ⟨n, kd, vs, hn, va_up_self _ _ _, hk, ho⟩
  · rw [va_up_ne _ _ e]
    exact H k hk1
section CA
variable {d : Nat → Int32} {nc kd : Nat} {k m : Int32}
theorem dCause_1 (h : ¬ (0 ≤ k.toInt ∧ k.toInt ≤ 6 ∧ 0 ≤ m.toInt ∧ m.toInt ≤ 99)) : opCause nc k m = (1, 0) ∧ dCause d nc k m = d := ⟨if_pos h, if_pos h⟩
theorem dCause_4 (h1 : kd < 7) (h2 : 0 ≤ m.toInt ∧ m.toInt ≤ 99) (h : nc = 6) : opCause nc (nI kd) m = (4, 0) ∧ dCause d nc (nI kd) m = d := by
  have e1 := i_nI (n := kd) (by omega)
  exact ⟨(if_neg (fun q => q (by omega))).trans (if_pos h), (if_neg (fun q => q (by omega))).trans (if_pos h)⟩
theorem dCause_0 (h1 : kd < 7) (h2 : 0 ≤ m.toInt ∧ m.toInt ≤ 99) (h : ¬ nc = 6) : opCause nc (nI kd) m = (0, nI nc) ∧ dCause d nc (nI kd) m = upd (upd (upd (upd d (20 + 2 * nc) (nI kd)) (20 + 2 * nc + 1) m) 10 (d 10 ||| 1 <<< (nI nc &&& 31))) 11 (nI (nc + 1)) := by
  have e1 := i_nI (n := kd) (by omega)
  exact ⟨(if_neg (fun q => q (by omega))).trans (if_neg h), (if_neg (fun q => q (by omega))).trans (if_neg h)⟩
end CA
set_option maxHeartbeats 4000000 in
set_option maxRecDepth 100000 in
theorem p_cause {κ : Wc} {l : Launch} {h : Mm} {n : Nat} {o : Nat} {im : Int32} {d : Nat → Int32} {len : Nat} {nc : Nat} {cold : Int32} {wind : Int32} {cs : Nat → Option Nat} {fo : Nat → Int32} {k : Int32} {m : Int32} (K0 : h o = some (.inr (11, [.ref (o + 1), .ref (o + 14), .ref (o + 27), .ref (o + 33), .ref (o + 42), .ref (o + 55), .ref (o + 57), .ref (o + 59), .ref (o + 61), .int im]))) (K1 : h (o + 1) = some (.inr (3, [.ref (o + 1 + 1), .ref (o + 1 + 7), .ref (o + 1 + 9), .ref (o + 1 + 11), .int (d 13)]))) (K2 : h (o + 2) = some (.inr (2, [.ref (o + 3), .ref (o + 4), .ref (o + 5), .ref (o + 6), .ref (o + 7), .int (nI len), .int (d 0), .int (d 2), .int (d 3), .int (nI nc), .int (d 10), .int cold, .int wind]))) (K3 : h (o + 6) = arR κ 1 6 cs) (K4 : h (o + 61) = arI κ 6 fo) (q4 : d 11 = nI nc) (q5 : nc ≤ 6) (hCs : CsO (o + 76) h cs d nc) (hCA : CsA (o + 76) h cs) (hzn : o + 76 ≤ n) : Con κ l yX11_cause cX11_cause 5 (some .int) 9 1 3 [.ref o, .int k, .int m] h n (fun q h' n' => ∃ nc2' : Nat, ∃ cs' : Nat → Option Nat, q = some (.int (ansOf (opCause nc k m))) ∧ n ≤ n' ∧ (∀ zq : Nat, zq < (o + 76) → zq ≠ (o + 2) → zq ≠ (o + 6) → zq ≠ (o + 61) → h' zq = h zq) ∧ Zr κ (o + 76) h h' ∧ h' (o + 2) = some (.inr (2, [.ref (o + 3), .ref (o + 4), .ref (o + 5), .ref (o + 6), .ref (o + 7), .int (nI len), .int (d 0), .int (d 2), .int (d 3), .int (nI nc2'), .int ((dCause d nc k m) 10), .int cold, .int wind])) ∧ h' (o + 6) = arR κ 1 6 cs' ∧ h' (o + 61) = arI κ 6 (bump (opCause nc k m) fo) ∧ ((dCause d nc k m) 11 = nI nc2' ∧ nc2' ≤ 6 ∧ CsO (o + 76) h' cs' (dCause d nc k m) nc2' ∧ CsA (o + 76) h' cs')) := by
  refine Con.of mk_X11_cause (Nat.le_of_ble_eq_true rfl) (fun G hG X E => ?_)
  subst hG
  refine z_ls (ls' := [(0, .ref o), (1, .int k), (2, .int m)]) rfl ?_
  refine z_lts (fun hltB => ?_)
  refine z_iload_n X 1 dX11_cause_0 rfl ?_
  refine z_iconst (v := 0) X dX11_cause_1 (by decide) ?_
  refine z_bipush (v := 6) X dX11_cause_2 (by decide) ?_
  refine z_callS X (c_within (κ := κ) (n := n) (v := (k)) (lo := (0)) (hi := (6))  ) mk_X11_within dX11_cause_4 wd_259 wd_257 rfl rfl (Nat.le_of_ble_eq_true rfl) (Nat.le_of_ble_eq_true rfl) (Nat.le_of_ble_eq_true rfl) (by omega) (by omega) (fun q zh1 zm3 zp4 => ?_)
  obtain ⟨rfl, ze2, zn5⟩ := zp4
  subst zm3
  subst zh1
  refine z_st (st' := [.int (b2i ((0 : Int32).toInt ≤ (k : Int32).toInt ∧ (k : Int32).toInt ≤ (6 : Int32).toInt))]) rfl ?_
  refine z_toe (y := b2i (0 ≤ k.toInt ∧ k.toInt ≤ 6)) (by simp only [show (0 : Int32).toInt = 0 by decide, show (6 : Int32).toInt = 6 by decide]) ?_
  refine z_if_eq X 20 dX11_cause_7 (by decide) (fun zc6 => ?_) (fun zc6 => ?_)
  · replace zc6 := b2i_f zc6
    refine z_aload_n X 0 dX11_cause_20 rfl ?_
    refine z_iconst (v := 1) X dX11_cause_21 (by decide) ?_
    refine z_callV X (c_fail (κ := κ) (n := n) (o := (o)) (im := (im)) (fo := (fo)) (k := (1)) K0 K4 (by first | assumption | omega) (by first | assumption | omega)) mk_X11_fail dX11_cause_22 wd_260 wd_262 wd_0 rfl K0 rfl rfl rfl (Nat.le_of_ble_eq_true rfl) (Nat.le_of_ble_eq_true rfl) (Nat.le_of_ble_eq_true rfl) (by omega) (by omega) (fun q zh7 zm9 zp10 => ?_)
    obtain ⟨rfl, ze8, zn11⟩ := zp10
    subst zm9
    refine z_st (st' := [.int (lowE 1)]) rfl ?_
    have zK12 : zh7 o = some (.inr (11, [.ref (o + 1), .ref (o + 14), .ref (o + 27), .ref (o + 33), .ref (o + 42), .ref (o + 55), .ref (o + 57), .ref (o + 59), .ref (o + 61), .int im])) := by rw [ze8]; rw [va_up_ne _ _ (show o ≠ o + 61 by omega)]; exact K0
    have zK13 : zh7 (o + 1) = some (.inr (3, [.ref (o + 1 + 1), .ref (o + 1 + 7), .ref (o + 1 + 9), .ref (o + 1 + 11), .int (d 13)])) := by rw [ze8]; rw [va_up_ne _ _ (show o + 1 ≠ o + 61 by omega)]; exact K1
    have zK14 : zh7 (o + 2) = some (.inr (2, [.ref (o + 3), .ref (o + 4), .ref (o + 5), .ref (o + 6), .ref (o + 7), .int (nI len), .int (d 0), .int (d 2), .int (d 3), .int (nI nc), .int (d 10), .int cold, .int wind])) := by rw [ze8]; rw [va_up_ne _ _ (show o + 2 ≠ o + 61 by omega)]; exact K2
    have zK15 : zh7 (o + 6) = arR κ 1 6 cs := by rw [ze8]; rw [va_up_ne _ _ (show o + 6 ≠ o + 61 by omega)]; exact K3
    have zK16 : zh7 (o + 61) = arI κ 6 (bmp fo 1) := by rw [ze8]; exact va_up_self _ _ _
    have zl17 : ∀ zq : Nat, zq < (o + 76) → zq ≠ (o + 61) → zh7 zq = h zq := by intro zq hzq zn0; rw [ze8, va_up_ne _ _ (show zq ≠ o + 61 by omega)]; try rfl
    have zr18 : Zr κ (o + 76) h zh7 := Zr.agree hltB (fun zq h1 h2 => by rw [ze8, va_up_ne _ _ (show zq ≠ o + 61 by omega)]) (Zr.refl)
    refine z_iret X E dX11_cause_25 (by omega) (by omega) ⟨nc, cs, ?_, ?_, ?_, ?_, ?_, ?_, ?_, ?_⟩
    · rw [(dCause_1 (d := d) (nc := nc) (k := k) (m := m) (by omega)).1]; first | exact congrArg (fun z => some (Value.int z)) (ansOf_0 _).symm | rfl
    · omega
    · exact fun zq hzq zn0 zn1 zn2 => zl17 zq hzq zn2
    · exact zr18
    · rw [(dCause_1 (d := d) (nc := nc) (k := k) (m := m) (by omega)).2]; exact zK14
    · exact zK15
    · rw [(dCause_1 (d := d) (nc := nc) (k := k) (m := m) (by omega)).1]; first | (rw [bump_0]; exact zK16) | exact zK16
    · rw [(dCause_1 (d := d) (nc := nc) (k := k) (m := m) (by omega)).2]; exact ⟨q4, q5, CsO.mono zr18 hCs, CsA.mono zr18 hCA⟩
  · replace zc6 := b2i_t zc6
    refine z_iload_n X 2 dX11_cause_10 rfl ?_
    refine z_iconst (v := 0) X dX11_cause_11 (by decide) ?_
    refine z_bipush (v := 99) X dX11_cause_12 (by decide) ?_
    refine z_callS X (c_within (κ := κ) (n := n) (v := (m)) (lo := (0)) (hi := (99))  ) mk_X11_within dX11_cause_14 wd_259 wd_257 rfl rfl (Nat.le_of_ble_eq_true rfl) (Nat.le_of_ble_eq_true rfl) (Nat.le_of_ble_eq_true rfl) (by omega) (by omega) (fun q zh19 zm21 zp22 => ?_)
    obtain ⟨rfl, ze20, zn23⟩ := zp22
    subst zm21
    subst zh19
    refine z_st (st' := [.int (b2i ((0 : Int32).toInt ≤ (m : Int32).toInt ∧ (m : Int32).toInt ≤ (99 : Int32).toInt))]) rfl ?_
    refine z_toe (y := b2i (0 ≤ m.toInt ∧ m.toInt ≤ 99)) (by simp only [show (0 : Int32).toInt = 0 by decide, show (99 : Int32).toInt = 99 by decide]) ?_
    refine z_if_ne X 26 dX11_cause_17 (by decide) (fun zc24 => ?_) (fun zc24 => ?_)
    · replace zc24 := b2i_t zc24
      have hmm : 0 ≤ m.toInt ∧ m.toInt ≤ 99 := by assumption
      obtain ⟨kk, hkk, rfl⟩ := ix_of (c := k) (len := 7) (by omega) (by omega)
      refine z_aload_n X 0 dX11_cause_26 rfl ?_
      refine z_get X fl_X11_10_11 dX11_cause_27 K0 rfl ?_
      refine z_get X fl_X11_56_3 dX11_cause_30 K1 rfl ?_
      refine z_astore_n (ls' := [(3, .ref (o + 1 + 1)), (0, .ref o), (1, .int (nI kk)), (2, .int m)]) X dX11_cause_33 (by decide) rfl ?_
      refine z_aload_n X 0 dX11_cause_34 rfl ?_
      refine z_get X fl_X11_117_2 dX11_cause_35 K2 rfl ?_
      refine z_istore (ls' := [(4, .int (nI nc)), (3, .ref (o + 1 + 1)), (0, .ref o), (1, .int (nI kk)), (2, .int m)]) X dX11_cause_38 (by decide) rfl ?_
      refine z_iload X 0 dX11_cause_40 rfl ?_
      refine z_bipush (v := 6) X dX11_cause_42 (by decide) ?_
      refine z_icmp_lt X 53 dX11_cause_44 (by decide) (fun zc25 => ?_) (fun zc25 => ?_)
      · try replace zc25 := (nI_ltI (a := nc) (b := 6) (by omega) (by omega)).mp zc25
        rcases lt7 hkk with rfl | rfl | rfl | rfl | rfl | rfl | rfl
        · skip
          refine z_aload_n X 1 dX11_cause_53 rfl ?_
          refine z_get X fl_X11_120_2 dX11_cause_54 K2 rfl ?_
          refine z_iload X 0 dX11_cause_57 rfl ?_
          refine z_iload_n X 3 dX11_cause_59 rfl ?_
          refine z_iload X 0 dX11_cause_60 rfl ?_
          refine z_iload_n X 4 dX11_cause_62 rfl ?_
          refine z_callS X (c_newCause_0 (κ := κ) (n := n) (nb := (nI nc)) (em := (m))  ) mk_X11_newCause dX11_cause_63 wd_318 wd_319 rfl rfl (Nat.le_of_ble_eq_true rfl) (Nat.le_of_ble_eq_true rfl) (Nat.le_of_ble_eq_true rfl) (by omega) (by omega) (fun q zh26 zm28 zp29 => ?_)
          obtain ⟨rfl, ze27, zn30⟩ := zp29
          subst zm28
          refine z_st (st' := [.ref n, .int (nI nc), .ref (o + 6)]) rfl ?_
          have zK31 : zh26 o = some (.inr (11, [.ref (o + 1), .ref (o + 14), .ref (o + 27), .ref (o + 33), .ref (o + 42), .ref (o + 55), .ref (o + 57), .ref (o + 59), .ref (o + 61), .int im])) := by rw [ze27]; rw [va_up_ne _ _ (show o ≠ n by omega)]; exact K0
          have zK32 : zh26 (o + 1) = some (.inr (3, [.ref (o + 1 + 1), .ref (o + 1 + 7), .ref (o + 1 + 9), .ref (o + 1 + 11), .int (d 13)])) := by rw [ze27]; rw [va_up_ne _ _ (show o + 1 ≠ n by omega)]; exact K1
          have zK33 : zh26 (o + 2) = some (.inr (2, [.ref (o + 3), .ref (o + 4), .ref (o + 5), .ref (o + 6), .ref (o + 7), .int (nI len), .int (d 0), .int (d 2), .int (d 3), .int (nI nc), .int (d 10), .int cold, .int wind])) := by rw [ze27]; rw [va_up_ne _ _ (show o + 2 ≠ n by omega)]; exact K2
          have zK34 : zh26 (o + 6) = arR κ 1 6 cs := by rw [ze27]; rw [va_up_ne _ _ (show o + 6 ≠ n by omega)]; exact K3
          have zK35 : zh26 (o + 61) = arI κ 6 fo := by rw [ze27]; rw [va_up_ne _ _ (show o + 61 ≠ n by omega)]; exact K4
          have zK36 : zh26 n = some (.inr (0, [.int 0, .int ((nI nc)), .int m])) := by rw [ze27]; exact va_up_self _ _ _
          have zl37 : ∀ zq : Nat, zq < (o + 76) → zh26 zq = h zq := by intro zq hzq ; rw [ze27, va_up_ne _ _ (show zq ≠ n by omega)]; try rfl
          have zr38 : Zr κ (o + 76) h zh26 := Zr.agree hltB (fun zq h1 h2 => by rw [ze27, va_up_ne _ _ (show zq ≠ n by omega)]) (Zr.refl)
          refine z_aast (t := 1) (E := "IcicleRings$Cause") X dX11_cause_66 zK34 rfl zK36 rfl (Or.inl rfl) (vp_in_nI (n := nc) (by omega) (by omega)) (congrArg (fun z => va_up zh26 (o + 6) (arR κ 1 6 (va_up cs z (some (n))))) (nI_clamp (n := nc) (by omega))) ?_
          obtain ⟨zh39, ze40⟩ : ∃ z : Mm, z = va_up zh26 (o + 6) (arR κ 1 6 (va_up cs nc (some (n)))) := ⟨_, rfl⟩
          refine z_heap (h' := zh39) ze40.symm ?_
          have zK41 := up_off ze40 (show o ≠ o + 6 by omega) zK31
          have zK42 := up_off ze40 (show o + 1 ≠ o + 6 by omega) zK32
          have zK43 := up_off ze40 (show o + 2 ≠ o + 6 by omega) zK33
          have zK44 := up_at ze40
          have zK45 := up_off ze40 (show o + 61 ≠ o + 6 by omega) zK35
          have zK46 := up_off ze40 (show n ≠ o + 6 by omega) zK36
          have zl47 : ∀ zq : Nat, zq < (o + 76) → zq ≠ (o + 6) → zh39 zq = h zq := by intro zq hzq zn0; rw [ze40, va_up_ne _ _ (show zq ≠ o + 6 by omega)]; exact zl37 zq hzq 
          have zr48 : Zr κ (o + 76) h zh39 := Zr.agree hltB (fun zq h1 h2 => by rw [ze40, va_up_ne _ _ (show zq ≠ o + 6 by omega)]) (zr38)
          refine z_aload_n X 1 dX11_cause_67 rfl ?_
          refine z_aload_n X 1 dX11_cause_68 rfl ?_
          refine z_get X fl_X11_128_2 dX11_cause_69 zK43 rfl ?_
          refine z_iconst (v := 1) X dX11_cause_72 (by decide) ?_
          refine z_iload X 0 dX11_cause_73 rfl ?_
          refine z_ishl X dX11_cause_75 ?_
          refine z_ior X dX11_cause_76 ?_
          refine z_put X fp_X11_128_2 dX11_cause_77 zK43 (by first | rfl | decide) (by first | rfl | decide) (Nat.le_of_ble_eq_true rfl) rfl ?_
          obtain ⟨zh49, ze50⟩ : ∃ z : Mm, z = va_up zh39 (o + 1 + 1) (some (.inr (2, [.ref (o + 3), .ref (o + 4), .ref (o + 5), .ref (o + 6), .ref (o + 7), .int (nI len), .int (d 0), .int (d 2), .int (d 3), .int (nI nc), .int ((d 10) ||| (1 <<< ((nI nc) &&& 31))), .int cold, .int wind]))) := ⟨_, rfl⟩
          refine z_heap (h' := zh49) ze50.symm ?_
          have zK51 := up_off ze50 (show o ≠ o + 2 by omega) zK41
          have zK52 := up_off ze50 (show o + 1 ≠ o + 2 by omega) zK42
          have zK53 := up_at ze50
          have zK54 := up_off ze50 (show o + 6 ≠ o + 2 by omega) zK44
          have zK55 := up_off ze50 (show o + 61 ≠ o + 2 by omega) zK45
          have zK56 := up_off ze50 (show n ≠ o + 2 by omega) zK46
          have zl57 : ∀ zq : Nat, zq < (o + 76) → zq ≠ (o + 6) → zq ≠ (o + 2) → zh49 zq = h zq := by intro zq hzq zn0 zn1; rw [ze50, va_up_ne _ _ (show zq ≠ o + 2 by omega)]; exact zl47 zq hzq zn0
          have zr58 : Zr κ (o + 76) h zh49 := Zr.agree hltB (fun zq h1 h2 => by rw [ze50, va_up_ne _ _ (show zq ≠ o + 2 by omega)]) (zr48)
          refine z_aload_n X 1 dX11_cause_80 rfl ?_
          refine z_iload X 0 dX11_cause_81 rfl ?_
          refine z_iconst (v := 1) X dX11_cause_83 (by decide) ?_
          refine z_iadd X dX11_cause_84 ?_
          refine z_toe (y := nI (nc + 1)) (nI_add (nc) (1)) ?_
          refine z_put X fp_X11_117_2 dX11_cause_85 zK53 (by first | rfl | decide) (by first | rfl | decide) (Nat.le_of_ble_eq_true rfl) rfl ?_
          obtain ⟨zh59, ze60⟩ : ∃ z : Mm, z = va_up zh49 (o + 1 + 1) (some (.inr (2, [.ref (o + 3), .ref (o + 4), .ref (o + 5), .ref (o + 6), .ref (o + 7), .int (nI len), .int (d 0), .int (d 2), .int (d 3), .int (nI (nc + 1)), .int ((d 10) ||| (1 <<< ((nI nc) &&& 31))), .int cold, .int wind]))) := ⟨_, rfl⟩
          refine z_heap (h' := zh59) ze60.symm ?_
          have zK61 := up_off ze60 (show o ≠ o + 2 by omega) zK51
          have zK62 := up_off ze60 (show o + 1 ≠ o + 2 by omega) zK52
          have zK63 := up_at ze60
          have zK64 := up_off ze60 (show o + 6 ≠ o + 2 by omega) zK54
          have zK65 := up_off ze60 (show o + 61 ≠ o + 2 by omega) zK55
          have zK66 := up_off ze60 (show n ≠ o + 2 by omega) zK56
          have zl67 : ∀ zq : Nat, zq < (o + 76) → zq ≠ (o + 6) → zq ≠ (o + 2) → zh59 zq = h zq := by intro zq hzq zn0 zn1; rw [ze60, va_up_ne _ _ (show zq ≠ o + 2 by omega)]; exact zl57 zq hzq zn0 zn1
          have zr68 : Zr κ (o + 76) h zh59 := Zr.agree hltB (fun zq h1 h2 => by rw [ze60, va_up_ne _ _ (show zq ≠ o + 2 by omega)]) (zr58)
          refine z_iload X 0 dX11_cause_88 rfl ?_
          refine z_iret X E dX11_cause_90 (by omega) (by omega) ⟨(nc + 1), (va_up cs nc (some n)), ?_, ?_, ?_, ?_, ?_, ?_, ?_, ?_⟩
          · rw [(dCause_0 (d := d) (nc := nc) (kd := 0) (by decide) hmm (by omega)).1]; first | exact congrArg (fun z => some (Value.int z)) (ansOf_0 _).symm | rfl
          · omega
          · exact fun zq hzq zn0 zn1 zn2 => zl67 zq hzq zn1 zn0
          · exact zr68
          · rw [(dCause_0 (d := d) (nc := nc) (kd := 0) (by decide) hmm (by omega)).2, show upd (upd (upd (upd d (20 + 2 * nc) (nI 0)) (20 + 2 * nc + 1) m) 10 (d 10 ||| 1 <<< (nI nc &&& 31))) 11 (nI (nc + 1)) 10 = d 10 ||| 1 <<< (nI nc &&& 31) from (pk_un (by omega)).trans pk_us]; exact zK63
          · exact zK64
          · rw [(dCause_0 (d := d) (nc := nc) (kd := 0) (by decide) hmm (by omega)).1]; first | (rw [bump_0]; exact zK65) | exact zK65
          · rw [(dCause_0 (d := d) (nc := nc) (kd := 0) (by decide) hmm (by omega)).2]; exact ⟨pk_us, by omega, CsO_add (CsO.mono zr68 hCs) hzn (by omega) (by decide) zK66, CsA_add (kd := 0) (CsA.mono zr68 hCA) hzn (by decide) zK66⟩
        · skip
          refine z_aload_n X 1 dX11_cause_53 rfl ?_
          refine z_get X fl_X11_120_2 dX11_cause_54 K2 rfl ?_
          refine z_iload X 0 dX11_cause_57 rfl ?_
          refine z_iload_n X 3 dX11_cause_59 rfl ?_
          refine z_iload X 0 dX11_cause_60 rfl ?_
          refine z_iload_n X 4 dX11_cause_62 rfl ?_
          refine z_callS X (c_newCause_1 (κ := κ) (n := n) (nb := (nI nc)) (em := (m))  ) mk_X11_newCause dX11_cause_63 wd_318 wd_319 rfl rfl (Nat.le_of_ble_eq_true rfl) (Nat.le_of_ble_eq_true rfl) (Nat.le_of_ble_eq_true rfl) (by omega) (by omega) (fun q zh69 zm71 zp72 => ?_)
          obtain ⟨rfl, ze70, zn73⟩ := zp72
          subst zm71
          refine z_st (st' := [.ref n, .int (nI nc), .ref (o + 6)]) rfl ?_
          have zK74 : zh69 o = some (.inr (11, [.ref (o + 1), .ref (o + 14), .ref (o + 27), .ref (o + 33), .ref (o + 42), .ref (o + 55), .ref (o + 57), .ref (o + 59), .ref (o + 61), .int im])) := by rw [ze70]; rw [va_up_ne _ _ (show o ≠ n by omega)]; exact K0
          have zK75 : zh69 (o + 1) = some (.inr (3, [.ref (o + 1 + 1), .ref (o + 1 + 7), .ref (o + 1 + 9), .ref (o + 1 + 11), .int (d 13)])) := by rw [ze70]; rw [va_up_ne _ _ (show o + 1 ≠ n by omega)]; exact K1
          have zK76 : zh69 (o + 2) = some (.inr (2, [.ref (o + 3), .ref (o + 4), .ref (o + 5), .ref (o + 6), .ref (o + 7), .int (nI len), .int (d 0), .int (d 2), .int (d 3), .int (nI nc), .int (d 10), .int cold, .int wind])) := by rw [ze70]; rw [va_up_ne _ _ (show o + 2 ≠ n by omega)]; exact K2
          have zK77 : zh69 (o + 6) = arR κ 1 6 cs := by rw [ze70]; rw [va_up_ne _ _ (show o + 6 ≠ n by omega)]; exact K3
          have zK78 : zh69 (o + 61) = arI κ 6 fo := by rw [ze70]; rw [va_up_ne _ _ (show o + 61 ≠ n by omega)]; exact K4
          have zK79 : zh69 n = some (.inr (10, [.int 1, .int ((nI nc)), .int m])) := by rw [ze70]; exact va_up_self _ _ _
          have zl80 : ∀ zq : Nat, zq < (o + 76) → zh69 zq = h zq := by intro zq hzq ; rw [ze70, va_up_ne _ _ (show zq ≠ n by omega)]; try rfl
          have zr81 : Zr κ (o + 76) h zh69 := Zr.agree hltB (fun zq h1 h2 => by rw [ze70, va_up_ne _ _ (show zq ≠ n by omega)]) (Zr.refl)
          refine z_aast (t := 1) (E := "IcicleRings$Cause") X dX11_cause_66 zK77 rfl zK79 rfl (Or.inr (by decide +kernel)) (vp_in_nI (n := nc) (by omega) (by omega)) (congrArg (fun z => va_up zh69 (o + 6) (arR κ 1 6 (va_up cs z (some (n))))) (nI_clamp (n := nc) (by omega))) ?_
          obtain ⟨zh82, ze83⟩ : ∃ z : Mm, z = va_up zh69 (o + 6) (arR κ 1 6 (va_up cs nc (some (n)))) := ⟨_, rfl⟩
          refine z_heap (h' := zh82) ze83.symm ?_
          have zK84 := up_off ze83 (show o ≠ o + 6 by omega) zK74
          have zK85 := up_off ze83 (show o + 1 ≠ o + 6 by omega) zK75
          have zK86 := up_off ze83 (show o + 2 ≠ o + 6 by omega) zK76
          have zK87 := up_at ze83
          have zK88 := up_off ze83 (show o + 61 ≠ o + 6 by omega) zK78
          have zK89 := up_off ze83 (show n ≠ o + 6 by omega) zK79
          have zl90 : ∀ zq : Nat, zq < (o + 76) → zq ≠ (o + 6) → zh82 zq = h zq := by intro zq hzq zn0; rw [ze83, va_up_ne _ _ (show zq ≠ o + 6 by omega)]; exact zl80 zq hzq 
          have zr91 : Zr κ (o + 76) h zh82 := Zr.agree hltB (fun zq h1 h2 => by rw [ze83, va_up_ne _ _ (show zq ≠ o + 6 by omega)]) (zr81)
          refine z_aload_n X 1 dX11_cause_67 rfl ?_
          refine z_aload_n X 1 dX11_cause_68 rfl ?_
          refine z_get X fl_X11_128_2 dX11_cause_69 zK86 rfl ?_
          refine z_iconst (v := 1) X dX11_cause_72 (by decide) ?_
          refine z_iload X 0 dX11_cause_73 rfl ?_
          refine z_ishl X dX11_cause_75 ?_
          refine z_ior X dX11_cause_76 ?_
          refine z_put X fp_X11_128_2 dX11_cause_77 zK86 (by first | rfl | decide) (by first | rfl | decide) (Nat.le_of_ble_eq_true rfl) rfl ?_
          obtain ⟨zh92, ze93⟩ : ∃ z : Mm, z = va_up zh82 (o + 1 + 1) (some (.inr (2, [.ref (o + 3), .ref (o + 4), .ref (o + 5), .ref (o + 6), .ref (o + 7), .int (nI len), .int (d 0), .int (d 2), .int (d 3), .int (nI nc), .int ((d 10) ||| (1 <<< ((nI nc) &&& 31))), .int cold, .int wind]))) := ⟨_, rfl⟩
          refine z_heap (h' := zh92) ze93.symm ?_
          have zK94 := up_off ze93 (show o ≠ o + 2 by omega) zK84
          have zK95 := up_off ze93 (show o + 1 ≠ o + 2 by omega) zK85
          have zK96 := up_at ze93
          have zK97 := up_off ze93 (show o + 6 ≠ o + 2 by omega) zK87
          have zK98 := up_off ze93 (show o + 61 ≠ o + 2 by omega) zK88
          have zK99 := up_off ze93 (show n ≠ o + 2 by omega) zK89
          have zl100 : ∀ zq : Nat, zq < (o + 76) → zq ≠ (o + 6) → zq ≠ (o + 2) → zh92 zq = h zq := by intro zq hzq zn0 zn1; rw [ze93, va_up_ne _ _ (show zq ≠ o + 2 by omega)]; exact zl90 zq hzq zn0
          have zr101 : Zr κ (o + 76) h zh92 := Zr.agree hltB (fun zq h1 h2 => by rw [ze93, va_up_ne _ _ (show zq ≠ o + 2 by omega)]) (zr91)
          refine z_aload_n X 1 dX11_cause_80 rfl ?_
          refine z_iload X 0 dX11_cause_81 rfl ?_
          refine z_iconst (v := 1) X dX11_cause_83 (by decide) ?_
          refine z_iadd X dX11_cause_84 ?_
          refine z_toe (y := nI (nc + 1)) (nI_add (nc) (1)) ?_
          refine z_put X fp_X11_117_2 dX11_cause_85 zK96 (by first | rfl | decide) (by first | rfl | decide) (Nat.le_of_ble_eq_true rfl) rfl ?_
          obtain ⟨zh102, ze103⟩ : ∃ z : Mm, z = va_up zh92 (o + 1 + 1) (some (.inr (2, [.ref (o + 3), .ref (o + 4), .ref (o + 5), .ref (o + 6), .ref (o + 7), .int (nI len), .int (d 0), .int (d 2), .int (d 3), .int (nI (nc + 1)), .int ((d 10) ||| (1 <<< ((nI nc) &&& 31))), .int cold, .int wind]))) := ⟨_, rfl⟩
          refine z_heap (h' := zh102) ze103.symm ?_
          have zK104 := up_off ze103 (show o ≠ o + 2 by omega) zK94
          have zK105 := up_off ze103 (show o + 1 ≠ o + 2 by omega) zK95
          have zK106 := up_at ze103
          have zK107 := up_off ze103 (show o + 6 ≠ o + 2 by omega) zK97
          have zK108 := up_off ze103 (show o + 61 ≠ o + 2 by omega) zK98
          have zK109 := up_off ze103 (show n ≠ o + 2 by omega) zK99
          have zl110 : ∀ zq : Nat, zq < (o + 76) → zq ≠ (o + 6) → zq ≠ (o + 2) → zh102 zq = h zq := by intro zq hzq zn0 zn1; rw [ze103, va_up_ne _ _ (show zq ≠ o + 2 by omega)]; exact zl100 zq hzq zn0 zn1
          have zr111 : Zr κ (o + 76) h zh102 := Zr.agree hltB (fun zq h1 h2 => by rw [ze103, va_up_ne _ _ (show zq ≠ o + 2 by omega)]) (zr101)
          refine z_iload X 0 dX11_cause_88 rfl ?_
          refine z_iret X E dX11_cause_90 (by omega) (by omega) ⟨(nc + 1), (va_up cs nc (some n)), ?_, ?_, ?_, ?_, ?_, ?_, ?_, ?_⟩
          · rw [(dCause_0 (d := d) (nc := nc) (kd := 1) (by decide) hmm (by omega)).1]; first | exact congrArg (fun z => some (Value.int z)) (ansOf_0 _).symm | rfl
          · omega
          · exact fun zq hzq zn0 zn1 zn2 => zl110 zq hzq zn1 zn0
          · exact zr111
          · rw [(dCause_0 (d := d) (nc := nc) (kd := 1) (by decide) hmm (by omega)).2, show upd (upd (upd (upd d (20 + 2 * nc) (nI 1)) (20 + 2 * nc + 1) m) 10 (d 10 ||| 1 <<< (nI nc &&& 31))) 11 (nI (nc + 1)) 10 = d 10 ||| 1 <<< (nI nc &&& 31) from (pk_un (by omega)).trans pk_us]; exact zK106
          · exact zK107
          · rw [(dCause_0 (d := d) (nc := nc) (kd := 1) (by decide) hmm (by omega)).1]; first | (rw [bump_0]; exact zK108) | exact zK108
          · rw [(dCause_0 (d := d) (nc := nc) (kd := 1) (by decide) hmm (by omega)).2]; exact ⟨pk_us, by omega, CsO_add (CsO.mono zr111 hCs) hzn (by omega) (by decide) zK109, CsA_add (kd := 1) (CsA.mono zr111 hCA) hzn (by decide) zK109⟩
        · skip
          refine z_aload_n X 1 dX11_cause_53 rfl ?_
          refine z_get X fl_X11_120_2 dX11_cause_54 K2 rfl ?_
          refine z_iload X 0 dX11_cause_57 rfl ?_
          refine z_iload_n X 3 dX11_cause_59 rfl ?_
          refine z_iload X 0 dX11_cause_60 rfl ?_
          refine z_iload_n X 4 dX11_cause_62 rfl ?_
          refine z_callS X (c_newCause_2 (κ := κ) (n := n) (nb := (nI nc)) (em := (m))  ) mk_X11_newCause dX11_cause_63 wd_318 wd_319 rfl rfl (Nat.le_of_ble_eq_true rfl) (Nat.le_of_ble_eq_true rfl) (Nat.le_of_ble_eq_true rfl) (by omega) (by omega) (fun q zh112 zm114 zp115 => ?_)
          obtain ⟨rfl, ze113, zn116⟩ := zp115
          subst zm114
          refine z_st (st' := [.ref n, .int (nI nc), .ref (o + 6)]) rfl ?_
          have zK117 : zh112 o = some (.inr (11, [.ref (o + 1), .ref (o + 14), .ref (o + 27), .ref (o + 33), .ref (o + 42), .ref (o + 55), .ref (o + 57), .ref (o + 59), .ref (o + 61), .int im])) := by rw [ze113]; rw [va_up_ne _ _ (show o ≠ n by omega)]; exact K0
          have zK118 : zh112 (o + 1) = some (.inr (3, [.ref (o + 1 + 1), .ref (o + 1 + 7), .ref (o + 1 + 9), .ref (o + 1 + 11), .int (d 13)])) := by rw [ze113]; rw [va_up_ne _ _ (show o + 1 ≠ n by omega)]; exact K1
          have zK119 : zh112 (o + 2) = some (.inr (2, [.ref (o + 3), .ref (o + 4), .ref (o + 5), .ref (o + 6), .ref (o + 7), .int (nI len), .int (d 0), .int (d 2), .int (d 3), .int (nI nc), .int (d 10), .int cold, .int wind])) := by rw [ze113]; rw [va_up_ne _ _ (show o + 2 ≠ n by omega)]; exact K2
          have zK120 : zh112 (o + 6) = arR κ 1 6 cs := by rw [ze113]; rw [va_up_ne _ _ (show o + 6 ≠ n by omega)]; exact K3
          have zK121 : zh112 (o + 61) = arI κ 6 fo := by rw [ze113]; rw [va_up_ne _ _ (show o + 61 ≠ n by omega)]; exact K4
          have zK122 : zh112 n = some (.inr (8, [.int 2, .int ((nI nc)), .int m])) := by rw [ze113]; exact va_up_self _ _ _
          have zl123 : ∀ zq : Nat, zq < (o + 76) → zh112 zq = h zq := by intro zq hzq ; rw [ze113, va_up_ne _ _ (show zq ≠ n by omega)]; try rfl
          have zr124 : Zr κ (o + 76) h zh112 := Zr.agree hltB (fun zq h1 h2 => by rw [ze113, va_up_ne _ _ (show zq ≠ n by omega)]) (Zr.refl)
          refine z_aast (t := 1) (E := "IcicleRings$Cause") X dX11_cause_66 zK120 rfl zK122 rfl (Or.inr (by decide +kernel)) (vp_in_nI (n := nc) (by omega) (by omega)) (congrArg (fun z => va_up zh112 (o + 6) (arR κ 1 6 (va_up cs z (some (n))))) (nI_clamp (n := nc) (by omega))) ?_
          obtain ⟨zh125, ze126⟩ : ∃ z : Mm, z = va_up zh112 (o + 6) (arR κ 1 6 (va_up cs nc (some (n)))) := ⟨_, rfl⟩
          refine z_heap (h' := zh125) ze126.symm ?_
          have zK127 := up_off ze126 (show o ≠ o + 6 by omega) zK117
          have zK128 := up_off ze126 (show o + 1 ≠ o + 6 by omega) zK118
          have zK129 := up_off ze126 (show o + 2 ≠ o + 6 by omega) zK119
          have zK130 := up_at ze126
          have zK131 := up_off ze126 (show o + 61 ≠ o + 6 by omega) zK121
          have zK132 := up_off ze126 (show n ≠ o + 6 by omega) zK122
          have zl133 : ∀ zq : Nat, zq < (o + 76) → zq ≠ (o + 6) → zh125 zq = h zq := by intro zq hzq zn0; rw [ze126, va_up_ne _ _ (show zq ≠ o + 6 by omega)]; exact zl123 zq hzq 
          have zr134 : Zr κ (o + 76) h zh125 := Zr.agree hltB (fun zq h1 h2 => by rw [ze126, va_up_ne _ _ (show zq ≠ o + 6 by omega)]) (zr124)
          refine z_aload_n X 1 dX11_cause_67 rfl ?_
          refine z_aload_n X 1 dX11_cause_68 rfl ?_
          refine z_get X fl_X11_128_2 dX11_cause_69 zK129 rfl ?_
          refine z_iconst (v := 1) X dX11_cause_72 (by decide) ?_
          refine z_iload X 0 dX11_cause_73 rfl ?_
          refine z_ishl X dX11_cause_75 ?_
          refine z_ior X dX11_cause_76 ?_
          refine z_put X fp_X11_128_2 dX11_cause_77 zK129 (by first | rfl | decide) (by first | rfl | decide) (Nat.le_of_ble_eq_true rfl) rfl ?_
          obtain ⟨zh135, ze136⟩ : ∃ z : Mm, z = va_up zh125 (o + 1 + 1) (some (.inr (2, [.ref (o + 3), .ref (o + 4), .ref (o + 5), .ref (o + 6), .ref (o + 7), .int (nI len), .int (d 0), .int (d 2), .int (d 3), .int (nI nc), .int ((d 10) ||| (1 <<< ((nI nc) &&& 31))), .int cold, .int wind]))) := ⟨_, rfl⟩
          refine z_heap (h' := zh135) ze136.symm ?_
          have zK137 := up_off ze136 (show o ≠ o + 2 by omega) zK127
          have zK138 := up_off ze136 (show o + 1 ≠ o + 2 by omega) zK128
          have zK139 := up_at ze136
          have zK140 := up_off ze136 (show o + 6 ≠ o + 2 by omega) zK130
          have zK141 := up_off ze136 (show o + 61 ≠ o + 2 by omega) zK131
          have zK142 := up_off ze136 (show n ≠ o + 2 by omega) zK132
          have zl143 : ∀ zq : Nat, zq < (o + 76) → zq ≠ (o + 6) → zq ≠ (o + 2) → zh135 zq = h zq := by intro zq hzq zn0 zn1; rw [ze136, va_up_ne _ _ (show zq ≠ o + 2 by omega)]; exact zl133 zq hzq zn0
          have zr144 : Zr κ (o + 76) h zh135 := Zr.agree hltB (fun zq h1 h2 => by rw [ze136, va_up_ne _ _ (show zq ≠ o + 2 by omega)]) (zr134)
          refine z_aload_n X 1 dX11_cause_80 rfl ?_
          refine z_iload X 0 dX11_cause_81 rfl ?_
          refine z_iconst (v := 1) X dX11_cause_83 (by decide) ?_
          refine z_iadd X dX11_cause_84 ?_
          refine z_toe (y := nI (nc + 1)) (nI_add (nc) (1)) ?_
          refine z_put X fp_X11_117_2 dX11_cause_85 zK139 (by first | rfl | decide) (by first | rfl | decide) (Nat.le_of_ble_eq_true rfl) rfl ?_
          obtain ⟨zh145, ze146⟩ : ∃ z : Mm, z = va_up zh135 (o + 1 + 1) (some (.inr (2, [.ref (o + 3), .ref (o + 4), .ref (o + 5), .ref (o + 6), .ref (o + 7), .int (nI len), .int (d 0), .int (d 2), .int (d 3), .int (nI (nc + 1)), .int ((d 10) ||| (1 <<< ((nI nc) &&& 31))), .int cold, .int wind]))) := ⟨_, rfl⟩
          refine z_heap (h' := zh145) ze146.symm ?_
          have zK147 := up_off ze146 (show o ≠ o + 2 by omega) zK137
          have zK148 := up_off ze146 (show o + 1 ≠ o + 2 by omega) zK138
          have zK149 := up_at ze146
          have zK150 := up_off ze146 (show o + 6 ≠ o + 2 by omega) zK140
          have zK151 := up_off ze146 (show o + 61 ≠ o + 2 by omega) zK141
          have zK152 := up_off ze146 (show n ≠ o + 2 by omega) zK142
          have zl153 : ∀ zq : Nat, zq < (o + 76) → zq ≠ (o + 6) → zq ≠ (o + 2) → zh145 zq = h zq := by intro zq hzq zn0 zn1; rw [ze146, va_up_ne _ _ (show zq ≠ o + 2 by omega)]; exact zl143 zq hzq zn0 zn1
          have zr154 : Zr κ (o + 76) h zh145 := Zr.agree hltB (fun zq h1 h2 => by rw [ze146, va_up_ne _ _ (show zq ≠ o + 2 by omega)]) (zr144)
          refine z_iload X 0 dX11_cause_88 rfl ?_
          refine z_iret X E dX11_cause_90 (by omega) (by omega) ⟨(nc + 1), (va_up cs nc (some n)), ?_, ?_, ?_, ?_, ?_, ?_, ?_, ?_⟩
          · rw [(dCause_0 (d := d) (nc := nc) (kd := 2) (by decide) hmm (by omega)).1]; first | exact congrArg (fun z => some (Value.int z)) (ansOf_0 _).symm | rfl
          · omega
          · exact fun zq hzq zn0 zn1 zn2 => zl153 zq hzq zn1 zn0
          · exact zr154
          · rw [(dCause_0 (d := d) (nc := nc) (kd := 2) (by decide) hmm (by omega)).2, show upd (upd (upd (upd d (20 + 2 * nc) (nI 2)) (20 + 2 * nc + 1) m) 10 (d 10 ||| 1 <<< (nI nc &&& 31))) 11 (nI (nc + 1)) 10 = d 10 ||| 1 <<< (nI nc &&& 31) from (pk_un (by omega)).trans pk_us]; exact zK149
          · exact zK150
          · rw [(dCause_0 (d := d) (nc := nc) (kd := 2) (by decide) hmm (by omega)).1]; first | (rw [bump_0]; exact zK151) | exact zK151
          · rw [(dCause_0 (d := d) (nc := nc) (kd := 2) (by decide) hmm (by omega)).2]; exact ⟨pk_us, by omega, CsO_add (CsO.mono zr154 hCs) hzn (by omega) (by decide) zK152, CsA_add (kd := 2) (CsA.mono zr154 hCA) hzn (by decide) zK152⟩
        · skip
          refine z_aload_n X 1 dX11_cause_53 rfl ?_
          refine z_get X fl_X11_120_2 dX11_cause_54 K2 rfl ?_
          refine z_iload X 0 dX11_cause_57 rfl ?_
          refine z_iload_n X 3 dX11_cause_59 rfl ?_
          refine z_iload X 0 dX11_cause_60 rfl ?_
          refine z_iload_n X 4 dX11_cause_62 rfl ?_
          refine z_callS X (c_newCause_3 (κ := κ) (n := n) (nb := (nI nc)) (em := (m))  ) mk_X11_newCause dX11_cause_63 wd_318 wd_319 rfl rfl (Nat.le_of_ble_eq_true rfl) (Nat.le_of_ble_eq_true rfl) (Nat.le_of_ble_eq_true rfl) (by omega) (by omega) (fun q zh155 zm157 zp158 => ?_)
          obtain ⟨rfl, ze156, zn159⟩ := zp158
          subst zm157
          refine z_st (st' := [.ref n, .int (nI nc), .ref (o + 6)]) rfl ?_
          have zK160 : zh155 o = some (.inr (11, [.ref (o + 1), .ref (o + 14), .ref (o + 27), .ref (o + 33), .ref (o + 42), .ref (o + 55), .ref (o + 57), .ref (o + 59), .ref (o + 61), .int im])) := by rw [ze156]; rw [va_up_ne _ _ (show o ≠ n by omega)]; exact K0
          have zK161 : zh155 (o + 1) = some (.inr (3, [.ref (o + 1 + 1), .ref (o + 1 + 7), .ref (o + 1 + 9), .ref (o + 1 + 11), .int (d 13)])) := by rw [ze156]; rw [va_up_ne _ _ (show o + 1 ≠ n by omega)]; exact K1
          have zK162 : zh155 (o + 2) = some (.inr (2, [.ref (o + 3), .ref (o + 4), .ref (o + 5), .ref (o + 6), .ref (o + 7), .int (nI len), .int (d 0), .int (d 2), .int (d 3), .int (nI nc), .int (d 10), .int cold, .int wind])) := by rw [ze156]; rw [va_up_ne _ _ (show o + 2 ≠ n by omega)]; exact K2
          have zK163 : zh155 (o + 6) = arR κ 1 6 cs := by rw [ze156]; rw [va_up_ne _ _ (show o + 6 ≠ n by omega)]; exact K3
          have zK164 : zh155 (o + 61) = arI κ 6 fo := by rw [ze156]; rw [va_up_ne _ _ (show o + 61 ≠ n by omega)]; exact K4
          have zK165 : zh155 n = some (.inr (5, [.int 3, .int ((nI nc)), .int m])) := by rw [ze156]; exact va_up_self _ _ _
          have zl166 : ∀ zq : Nat, zq < (o + 76) → zh155 zq = h zq := by intro zq hzq ; rw [ze156, va_up_ne _ _ (show zq ≠ n by omega)]; try rfl
          have zr167 : Zr κ (o + 76) h zh155 := Zr.agree hltB (fun zq h1 h2 => by rw [ze156, va_up_ne _ _ (show zq ≠ n by omega)]) (Zr.refl)
          refine z_aast (t := 1) (E := "IcicleRings$Cause") X dX11_cause_66 zK163 rfl zK165 rfl (Or.inr (by decide +kernel)) (vp_in_nI (n := nc) (by omega) (by omega)) (congrArg (fun z => va_up zh155 (o + 6) (arR κ 1 6 (va_up cs z (some (n))))) (nI_clamp (n := nc) (by omega))) ?_
          obtain ⟨zh168, ze169⟩ : ∃ z : Mm, z = va_up zh155 (o + 6) (arR κ 1 6 (va_up cs nc (some (n)))) := ⟨_, rfl⟩
          refine z_heap (h' := zh168) ze169.symm ?_
          have zK170 := up_off ze169 (show o ≠ o + 6 by omega) zK160
          have zK171 := up_off ze169 (show o + 1 ≠ o + 6 by omega) zK161
          have zK172 := up_off ze169 (show o + 2 ≠ o + 6 by omega) zK162
          have zK173 := up_at ze169
          have zK174 := up_off ze169 (show o + 61 ≠ o + 6 by omega) zK164
          have zK175 := up_off ze169 (show n ≠ o + 6 by omega) zK165
          have zl176 : ∀ zq : Nat, zq < (o + 76) → zq ≠ (o + 6) → zh168 zq = h zq := by intro zq hzq zn0; rw [ze169, va_up_ne _ _ (show zq ≠ o + 6 by omega)]; exact zl166 zq hzq 
          have zr177 : Zr κ (o + 76) h zh168 := Zr.agree hltB (fun zq h1 h2 => by rw [ze169, va_up_ne _ _ (show zq ≠ o + 6 by omega)]) (zr167)
          refine z_aload_n X 1 dX11_cause_67 rfl ?_
          refine z_aload_n X 1 dX11_cause_68 rfl ?_
          refine z_get X fl_X11_128_2 dX11_cause_69 zK172 rfl ?_
          refine z_iconst (v := 1) X dX11_cause_72 (by decide) ?_
          refine z_iload X 0 dX11_cause_73 rfl ?_
          refine z_ishl X dX11_cause_75 ?_
          refine z_ior X dX11_cause_76 ?_
          refine z_put X fp_X11_128_2 dX11_cause_77 zK172 (by first | rfl | decide) (by first | rfl | decide) (Nat.le_of_ble_eq_true rfl) rfl ?_
          obtain ⟨zh178, ze179⟩ : ∃ z : Mm, z = va_up zh168 (o + 1 + 1) (some (.inr (2, [.ref (o + 3), .ref (o + 4), .ref (o + 5), .ref (o + 6), .ref (o + 7), .int (nI len), .int (d 0), .int (d 2), .int (d 3), .int (nI nc), .int ((d 10) ||| (1 <<< ((nI nc) &&& 31))), .int cold, .int wind]))) := ⟨_, rfl⟩
          refine z_heap (h' := zh178) ze179.symm ?_
          have zK180 := up_off ze179 (show o ≠ o + 2 by omega) zK170
          have zK181 := up_off ze179 (show o + 1 ≠ o + 2 by omega) zK171
          have zK182 := up_at ze179
          have zK183 := up_off ze179 (show o + 6 ≠ o + 2 by omega) zK173
          have zK184 := up_off ze179 (show o + 61 ≠ o + 2 by omega) zK174
          have zK185 := up_off ze179 (show n ≠ o + 2 by omega) zK175
          have zl186 : ∀ zq : Nat, zq < (o + 76) → zq ≠ (o + 6) → zq ≠ (o + 2) → zh178 zq = h zq := by intro zq hzq zn0 zn1; rw [ze179, va_up_ne _ _ (show zq ≠ o + 2 by omega)]; exact zl176 zq hzq zn0
          have zr187 : Zr κ (o + 76) h zh178 := Zr.agree hltB (fun zq h1 h2 => by rw [ze179, va_up_ne _ _ (show zq ≠ o + 2 by omega)]) (zr177)
          refine z_aload_n X 1 dX11_cause_80 rfl ?_
          refine z_iload X 0 dX11_cause_81 rfl ?_
          refine z_iconst (v := 1) X dX11_cause_83 (by decide) ?_
          refine z_iadd X dX11_cause_84 ?_
          refine z_toe (y := nI (nc + 1)) (nI_add (nc) (1)) ?_
          refine z_put X fp_X11_117_2 dX11_cause_85 zK182 (by first | rfl | decide) (by first | rfl | decide) (Nat.le_of_ble_eq_true rfl) rfl ?_
          obtain ⟨zh188, ze189⟩ : ∃ z : Mm, z = va_up zh178 (o + 1 + 1) (some (.inr (2, [.ref (o + 3), .ref (o + 4), .ref (o + 5), .ref (o + 6), .ref (o + 7), .int (nI len), .int (d 0), .int (d 2), .int (d 3), .int (nI (nc + 1)), .int ((d 10) ||| (1 <<< ((nI nc) &&& 31))), .int cold, .int wind]))) := ⟨_, rfl⟩
          refine z_heap (h' := zh188) ze189.symm ?_
          have zK190 := up_off ze189 (show o ≠ o + 2 by omega) zK180
          have zK191 := up_off ze189 (show o + 1 ≠ o + 2 by omega) zK181
          have zK192 := up_at ze189
          have zK193 := up_off ze189 (show o + 6 ≠ o + 2 by omega) zK183
          have zK194 := up_off ze189 (show o + 61 ≠ o + 2 by omega) zK184
          have zK195 := up_off ze189 (show n ≠ o + 2 by omega) zK185
          have zl196 : ∀ zq : Nat, zq < (o + 76) → zq ≠ (o + 6) → zq ≠ (o + 2) → zh188 zq = h zq := by intro zq hzq zn0 zn1; rw [ze189, va_up_ne _ _ (show zq ≠ o + 2 by omega)]; exact zl186 zq hzq zn0 zn1
          have zr197 : Zr κ (o + 76) h zh188 := Zr.agree hltB (fun zq h1 h2 => by rw [ze189, va_up_ne _ _ (show zq ≠ o + 2 by omega)]) (zr187)
          refine z_iload X 0 dX11_cause_88 rfl ?_
          refine z_iret X E dX11_cause_90 (by omega) (by omega) ⟨(nc + 1), (va_up cs nc (some n)), ?_, ?_, ?_, ?_, ?_, ?_, ?_, ?_⟩
          · rw [(dCause_0 (d := d) (nc := nc) (kd := 3) (by decide) hmm (by omega)).1]; first | exact congrArg (fun z => some (Value.int z)) (ansOf_0 _).symm | rfl
          · omega
          · exact fun zq hzq zn0 zn1 zn2 => zl196 zq hzq zn1 zn0
          · exact zr197
          · rw [(dCause_0 (d := d) (nc := nc) (kd := 3) (by decide) hmm (by omega)).2, show upd (upd (upd (upd d (20 + 2 * nc) (nI 3)) (20 + 2 * nc + 1) m) 10 (d 10 ||| 1 <<< (nI nc &&& 31))) 11 (nI (nc + 1)) 10 = d 10 ||| 1 <<< (nI nc &&& 31) from (pk_un (by omega)).trans pk_us]; exact zK192
          · exact zK193
          · rw [(dCause_0 (d := d) (nc := nc) (kd := 3) (by decide) hmm (by omega)).1]; first | (rw [bump_0]; exact zK194) | exact zK194
          · rw [(dCause_0 (d := d) (nc := nc) (kd := 3) (by decide) hmm (by omega)).2]; exact ⟨pk_us, by omega, CsO_add (CsO.mono zr197 hCs) hzn (by omega) (by decide) zK195, CsA_add (kd := 3) (CsA.mono zr197 hCA) hzn (by decide) zK195⟩
        · skip
          refine z_aload_n X 1 dX11_cause_53 rfl ?_
          refine z_get X fl_X11_120_2 dX11_cause_54 K2 rfl ?_
          refine z_iload X 0 dX11_cause_57 rfl ?_
          refine z_iload_n X 3 dX11_cause_59 rfl ?_
          refine z_iload X 0 dX11_cause_60 rfl ?_
          refine z_iload_n X 4 dX11_cause_62 rfl ?_
          refine z_callS X (c_newCause_4 (κ := κ) (n := n) (nb := (nI nc)) (em := (m))  ) mk_X11_newCause dX11_cause_63 wd_318 wd_319 rfl rfl (Nat.le_of_ble_eq_true rfl) (Nat.le_of_ble_eq_true rfl) (Nat.le_of_ble_eq_true rfl) (by omega) (by omega) (fun q zh198 zm200 zp201 => ?_)
          obtain ⟨rfl, ze199, zn202⟩ := zp201
          subst zm200
          refine z_st (st' := [.ref n, .int (nI nc), .ref (o + 6)]) rfl ?_
          have zK203 : zh198 o = some (.inr (11, [.ref (o + 1), .ref (o + 14), .ref (o + 27), .ref (o + 33), .ref (o + 42), .ref (o + 55), .ref (o + 57), .ref (o + 59), .ref (o + 61), .int im])) := by rw [ze199]; rw [va_up_ne _ _ (show o ≠ n by omega)]; exact K0
          have zK204 : zh198 (o + 1) = some (.inr (3, [.ref (o + 1 + 1), .ref (o + 1 + 7), .ref (o + 1 + 9), .ref (o + 1 + 11), .int (d 13)])) := by rw [ze199]; rw [va_up_ne _ _ (show o + 1 ≠ n by omega)]; exact K1
          have zK205 : zh198 (o + 2) = some (.inr (2, [.ref (o + 3), .ref (o + 4), .ref (o + 5), .ref (o + 6), .ref (o + 7), .int (nI len), .int (d 0), .int (d 2), .int (d 3), .int (nI nc), .int (d 10), .int cold, .int wind])) := by rw [ze199]; rw [va_up_ne _ _ (show o + 2 ≠ n by omega)]; exact K2
          have zK206 : zh198 (o + 6) = arR κ 1 6 cs := by rw [ze199]; rw [va_up_ne _ _ (show o + 6 ≠ n by omega)]; exact K3
          have zK207 : zh198 (o + 61) = arI κ 6 fo := by rw [ze199]; rw [va_up_ne _ _ (show o + 61 ≠ n by omega)]; exact K4
          have zK208 : zh198 n = some (.inr (7, [.int 4, .int ((nI nc)), .int m])) := by rw [ze199]; exact va_up_self _ _ _
          have zl209 : ∀ zq : Nat, zq < (o + 76) → zh198 zq = h zq := by intro zq hzq ; rw [ze199, va_up_ne _ _ (show zq ≠ n by omega)]; try rfl
          have zr210 : Zr κ (o + 76) h zh198 := Zr.agree hltB (fun zq h1 h2 => by rw [ze199, va_up_ne _ _ (show zq ≠ n by omega)]) (Zr.refl)
          refine z_aast (t := 1) (E := "IcicleRings$Cause") X dX11_cause_66 zK206 rfl zK208 rfl (Or.inr (by decide +kernel)) (vp_in_nI (n := nc) (by omega) (by omega)) (congrArg (fun z => va_up zh198 (o + 6) (arR κ 1 6 (va_up cs z (some (n))))) (nI_clamp (n := nc) (by omega))) ?_
          obtain ⟨zh211, ze212⟩ : ∃ z : Mm, z = va_up zh198 (o + 6) (arR κ 1 6 (va_up cs nc (some (n)))) := ⟨_, rfl⟩
          refine z_heap (h' := zh211) ze212.symm ?_
          have zK213 := up_off ze212 (show o ≠ o + 6 by omega) zK203
          have zK214 := up_off ze212 (show o + 1 ≠ o + 6 by omega) zK204
          have zK215 := up_off ze212 (show o + 2 ≠ o + 6 by omega) zK205
          have zK216 := up_at ze212
          have zK217 := up_off ze212 (show o + 61 ≠ o + 6 by omega) zK207
          have zK218 := up_off ze212 (show n ≠ o + 6 by omega) zK208
          have zl219 : ∀ zq : Nat, zq < (o + 76) → zq ≠ (o + 6) → zh211 zq = h zq := by intro zq hzq zn0; rw [ze212, va_up_ne _ _ (show zq ≠ o + 6 by omega)]; exact zl209 zq hzq 
          have zr220 : Zr κ (o + 76) h zh211 := Zr.agree hltB (fun zq h1 h2 => by rw [ze212, va_up_ne _ _ (show zq ≠ o + 6 by omega)]) (zr210)
          refine z_aload_n X 1 dX11_cause_67 rfl ?_
          refine z_aload_n X 1 dX11_cause_68 rfl ?_
          refine z_get X fl_X11_128_2 dX11_cause_69 zK215 rfl ?_
          refine z_iconst (v := 1) X dX11_cause_72 (by decide) ?_
          refine z_iload X 0 dX11_cause_73 rfl ?_
          refine z_ishl X dX11_cause_75 ?_
          refine z_ior X dX11_cause_76 ?_
          refine z_put X fp_X11_128_2 dX11_cause_77 zK215 (by first | rfl | decide) (by first | rfl | decide) (Nat.le_of_ble_eq_true rfl) rfl ?_
          obtain ⟨zh221, ze222⟩ : ∃ z : Mm, z = va_up zh211 (o + 1 + 1) (some (.inr (2, [.ref (o + 3), .ref (o + 4), .ref (o + 5), .ref (o + 6), .ref (o + 7), .int (nI len), .int (d 0), .int (d 2), .int (d 3), .int (nI nc), .int ((d 10) ||| (1 <<< ((nI nc) &&& 31))), .int cold, .int wind]))) := ⟨_, rfl⟩
          refine z_heap (h' := zh221) ze222.symm ?_
          have zK223 := up_off ze222 (show o ≠ o + 2 by omega) zK213
          have zK224 := up_off ze222 (show o + 1 ≠ o + 2 by omega) zK214
          have zK225 := up_at ze222
          have zK226 := up_off ze222 (show o + 6 ≠ o + 2 by omega) zK216
          have zK227 := up_off ze222 (show o + 61 ≠ o + 2 by omega) zK217
          have zK228 := up_off ze222 (show n ≠ o + 2 by omega) zK218
          have zl229 : ∀ zq : Nat, zq < (o + 76) → zq ≠ (o + 6) → zq ≠ (o + 2) → zh221 zq = h zq := by intro zq hzq zn0 zn1; rw [ze222, va_up_ne _ _ (show zq ≠ o + 2 by omega)]; exact zl219 zq hzq zn0
          have zr230 : Zr κ (o + 76) h zh221 := Zr.agree hltB (fun zq h1 h2 => by rw [ze222, va_up_ne _ _ (show zq ≠ o + 2 by omega)]) (zr220)
          refine z_aload_n X 1 dX11_cause_80 rfl ?_
          refine z_iload X 0 dX11_cause_81 rfl ?_
          refine z_iconst (v := 1) X dX11_cause_83 (by decide) ?_
          refine z_iadd X dX11_cause_84 ?_
          refine z_toe (y := nI (nc + 1)) (nI_add (nc) (1)) ?_
          refine z_put X fp_X11_117_2 dX11_cause_85 zK225 (by first | rfl | decide) (by first | rfl | decide) (Nat.le_of_ble_eq_true rfl) rfl ?_
          obtain ⟨zh231, ze232⟩ : ∃ z : Mm, z = va_up zh221 (o + 1 + 1) (some (.inr (2, [.ref (o + 3), .ref (o + 4), .ref (o + 5), .ref (o + 6), .ref (o + 7), .int (nI len), .int (d 0), .int (d 2), .int (d 3), .int (nI (nc + 1)), .int ((d 10) ||| (1 <<< ((nI nc) &&& 31))), .int cold, .int wind]))) := ⟨_, rfl⟩
          refine z_heap (h' := zh231) ze232.symm ?_
          have zK233 := up_off ze232 (show o ≠ o + 2 by omega) zK223
          have zK234 := up_off ze232 (show o + 1 ≠ o + 2 by omega) zK224
          have zK235 := up_at ze232
          have zK236 := up_off ze232 (show o + 6 ≠ o + 2 by omega) zK226
          have zK237 := up_off ze232 (show o + 61 ≠ o + 2 by omega) zK227
          have zK238 := up_off ze232 (show n ≠ o + 2 by omega) zK228
          have zl239 : ∀ zq : Nat, zq < (o + 76) → zq ≠ (o + 6) → zq ≠ (o + 2) → zh231 zq = h zq := by intro zq hzq zn0 zn1; rw [ze232, va_up_ne _ _ (show zq ≠ o + 2 by omega)]; exact zl229 zq hzq zn0 zn1
          have zr240 : Zr κ (o + 76) h zh231 := Zr.agree hltB (fun zq h1 h2 => by rw [ze232, va_up_ne _ _ (show zq ≠ o + 2 by omega)]) (zr230)
          refine z_iload X 0 dX11_cause_88 rfl ?_
          refine z_iret X E dX11_cause_90 (by omega) (by omega) ⟨(nc + 1), (va_up cs nc (some n)), ?_, ?_, ?_, ?_, ?_, ?_, ?_, ?_⟩
          · rw [(dCause_0 (d := d) (nc := nc) (kd := 4) (by decide) hmm (by omega)).1]; first | exact congrArg (fun z => some (Value.int z)) (ansOf_0 _).symm | rfl
          · omega
          · exact fun zq hzq zn0 zn1 zn2 => zl239 zq hzq zn1 zn0
          · exact zr240
          · rw [(dCause_0 (d := d) (nc := nc) (kd := 4) (by decide) hmm (by omega)).2, show upd (upd (upd (upd d (20 + 2 * nc) (nI 4)) (20 + 2 * nc + 1) m) 10 (d 10 ||| 1 <<< (nI nc &&& 31))) 11 (nI (nc + 1)) 10 = d 10 ||| 1 <<< (nI nc &&& 31) from (pk_un (by omega)).trans pk_us]; exact zK235
          · exact zK236
          · rw [(dCause_0 (d := d) (nc := nc) (kd := 4) (by decide) hmm (by omega)).1]; first | (rw [bump_0]; exact zK237) | exact zK237
          · rw [(dCause_0 (d := d) (nc := nc) (kd := 4) (by decide) hmm (by omega)).2]; exact ⟨pk_us, by omega, CsO_add (CsO.mono zr240 hCs) hzn (by omega) (by decide) zK238, CsA_add (kd := 4) (CsA.mono zr240 hCA) hzn (by decide) zK238⟩
        · skip
          refine z_aload_n X 1 dX11_cause_53 rfl ?_
          refine z_get X fl_X11_120_2 dX11_cause_54 K2 rfl ?_
          refine z_iload X 0 dX11_cause_57 rfl ?_
          refine z_iload_n X 3 dX11_cause_59 rfl ?_
          refine z_iload X 0 dX11_cause_60 rfl ?_
          refine z_iload_n X 4 dX11_cause_62 rfl ?_
          refine z_callS X (c_newCause_5 (κ := κ) (n := n) (nb := (nI nc)) (em := (m))  ) mk_X11_newCause dX11_cause_63 wd_318 wd_319 rfl rfl (Nat.le_of_ble_eq_true rfl) (Nat.le_of_ble_eq_true rfl) (Nat.le_of_ble_eq_true rfl) (by omega) (by omega) (fun q zh241 zm243 zp244 => ?_)
          obtain ⟨rfl, ze242, zn245⟩ := zp244
          subst zm243
          refine z_st (st' := [.ref n, .int (nI nc), .ref (o + 6)]) rfl ?_
          have zK246 : zh241 o = some (.inr (11, [.ref (o + 1), .ref (o + 14), .ref (o + 27), .ref (o + 33), .ref (o + 42), .ref (o + 55), .ref (o + 57), .ref (o + 59), .ref (o + 61), .int im])) := by rw [ze242]; rw [va_up_ne _ _ (show o ≠ n by omega)]; exact K0
          have zK247 : zh241 (o + 1) = some (.inr (3, [.ref (o + 1 + 1), .ref (o + 1 + 7), .ref (o + 1 + 9), .ref (o + 1 + 11), .int (d 13)])) := by rw [ze242]; rw [va_up_ne _ _ (show o + 1 ≠ n by omega)]; exact K1
          have zK248 : zh241 (o + 2) = some (.inr (2, [.ref (o + 3), .ref (o + 4), .ref (o + 5), .ref (o + 6), .ref (o + 7), .int (nI len), .int (d 0), .int (d 2), .int (d 3), .int (nI nc), .int (d 10), .int cold, .int wind])) := by rw [ze242]; rw [va_up_ne _ _ (show o + 2 ≠ n by omega)]; exact K2
          have zK249 : zh241 (o + 6) = arR κ 1 6 cs := by rw [ze242]; rw [va_up_ne _ _ (show o + 6 ≠ n by omega)]; exact K3
          have zK250 : zh241 (o + 61) = arI κ 6 fo := by rw [ze242]; rw [va_up_ne _ _ (show o + 61 ≠ n by omega)]; exact K4
          have zK251 : zh241 n = some (.inr (4, [.int 5, .int ((nI nc)), .int m])) := by rw [ze242]; exact va_up_self _ _ _
          have zl252 : ∀ zq : Nat, zq < (o + 76) → zh241 zq = h zq := by intro zq hzq ; rw [ze242, va_up_ne _ _ (show zq ≠ n by omega)]; try rfl
          have zr253 : Zr κ (o + 76) h zh241 := Zr.agree hltB (fun zq h1 h2 => by rw [ze242, va_up_ne _ _ (show zq ≠ n by omega)]) (Zr.refl)
          refine z_aast (t := 1) (E := "IcicleRings$Cause") X dX11_cause_66 zK249 rfl zK251 rfl (Or.inr (by decide +kernel)) (vp_in_nI (n := nc) (by omega) (by omega)) (congrArg (fun z => va_up zh241 (o + 6) (arR κ 1 6 (va_up cs z (some (n))))) (nI_clamp (n := nc) (by omega))) ?_
          obtain ⟨zh254, ze255⟩ : ∃ z : Mm, z = va_up zh241 (o + 6) (arR κ 1 6 (va_up cs nc (some (n)))) := ⟨_, rfl⟩
          refine z_heap (h' := zh254) ze255.symm ?_
          have zK256 := up_off ze255 (show o ≠ o + 6 by omega) zK246
          have zK257 := up_off ze255 (show o + 1 ≠ o + 6 by omega) zK247
          have zK258 := up_off ze255 (show o + 2 ≠ o + 6 by omega) zK248
          have zK259 := up_at ze255
          have zK260 := up_off ze255 (show o + 61 ≠ o + 6 by omega) zK250
          have zK261 := up_off ze255 (show n ≠ o + 6 by omega) zK251
          have zl262 : ∀ zq : Nat, zq < (o + 76) → zq ≠ (o + 6) → zh254 zq = h zq := by intro zq hzq zn0; rw [ze255, va_up_ne _ _ (show zq ≠ o + 6 by omega)]; exact zl252 zq hzq 
          have zr263 : Zr κ (o + 76) h zh254 := Zr.agree hltB (fun zq h1 h2 => by rw [ze255, va_up_ne _ _ (show zq ≠ o + 6 by omega)]) (zr253)
          refine z_aload_n X 1 dX11_cause_67 rfl ?_
          refine z_aload_n X 1 dX11_cause_68 rfl ?_
          refine z_get X fl_X11_128_2 dX11_cause_69 zK258 rfl ?_
          refine z_iconst (v := 1) X dX11_cause_72 (by decide) ?_
          refine z_iload X 0 dX11_cause_73 rfl ?_
          refine z_ishl X dX11_cause_75 ?_
          refine z_ior X dX11_cause_76 ?_
          refine z_put X fp_X11_128_2 dX11_cause_77 zK258 (by first | rfl | decide) (by first | rfl | decide) (Nat.le_of_ble_eq_true rfl) rfl ?_
          obtain ⟨zh264, ze265⟩ : ∃ z : Mm, z = va_up zh254 (o + 1 + 1) (some (.inr (2, [.ref (o + 3), .ref (o + 4), .ref (o + 5), .ref (o + 6), .ref (o + 7), .int (nI len), .int (d 0), .int (d 2), .int (d 3), .int (nI nc), .int ((d 10) ||| (1 <<< ((nI nc) &&& 31))), .int cold, .int wind]))) := ⟨_, rfl⟩
          refine z_heap (h' := zh264) ze265.symm ?_
          have zK266 := up_off ze265 (show o ≠ o + 2 by omega) zK256
          have zK267 := up_off ze265 (show o + 1 ≠ o + 2 by omega) zK257
          have zK268 := up_at ze265
          have zK269 := up_off ze265 (show o + 6 ≠ o + 2 by omega) zK259
          have zK270 := up_off ze265 (show o + 61 ≠ o + 2 by omega) zK260
          have zK271 := up_off ze265 (show n ≠ o + 2 by omega) zK261
          have zl272 : ∀ zq : Nat, zq < (o + 76) → zq ≠ (o + 6) → zq ≠ (o + 2) → zh264 zq = h zq := by intro zq hzq zn0 zn1; rw [ze265, va_up_ne _ _ (show zq ≠ o + 2 by omega)]; exact zl262 zq hzq zn0
          have zr273 : Zr κ (o + 76) h zh264 := Zr.agree hltB (fun zq h1 h2 => by rw [ze265, va_up_ne _ _ (show zq ≠ o + 2 by omega)]) (zr263)
          refine z_aload_n X 1 dX11_cause_80 rfl ?_
          refine z_iload X 0 dX11_cause_81 rfl ?_
          refine z_iconst (v := 1) X dX11_cause_83 (by decide) ?_
          refine z_iadd X dX11_cause_84 ?_
          refine z_toe (y := nI (nc + 1)) (nI_add (nc) (1)) ?_
          refine z_put X fp_X11_117_2 dX11_cause_85 zK268 (by first | rfl | decide) (by first | rfl | decide) (Nat.le_of_ble_eq_true rfl) rfl ?_
          obtain ⟨zh274, ze275⟩ : ∃ z : Mm, z = va_up zh264 (o + 1 + 1) (some (.inr (2, [.ref (o + 3), .ref (o + 4), .ref (o + 5), .ref (o + 6), .ref (o + 7), .int (nI len), .int (d 0), .int (d 2), .int (d 3), .int (nI (nc + 1)), .int ((d 10) ||| (1 <<< ((nI nc) &&& 31))), .int cold, .int wind]))) := ⟨_, rfl⟩
          refine z_heap (h' := zh274) ze275.symm ?_
          have zK276 := up_off ze275 (show o ≠ o + 2 by omega) zK266
          have zK277 := up_off ze275 (show o + 1 ≠ o + 2 by omega) zK267
          have zK278 := up_at ze275
          have zK279 := up_off ze275 (show o + 6 ≠ o + 2 by omega) zK269
          have zK280 := up_off ze275 (show o + 61 ≠ o + 2 by omega) zK270
          have zK281 := up_off ze275 (show n ≠ o + 2 by omega) zK271
          have zl282 : ∀ zq : Nat, zq < (o + 76) → zq ≠ (o + 6) → zq ≠ (o + 2) → zh274 zq = h zq := by intro zq hzq zn0 zn1; rw [ze275, va_up_ne _ _ (show zq ≠ o + 2 by omega)]; exact zl272 zq hzq zn0 zn1
          have zr283 : Zr κ (o + 76) h zh274 := Zr.agree hltB (fun zq h1 h2 => by rw [ze275, va_up_ne _ _ (show zq ≠ o + 2 by omega)]) (zr273)
          refine z_iload X 0 dX11_cause_88 rfl ?_
          refine z_iret X E dX11_cause_90 (by omega) (by omega) ⟨(nc + 1), (va_up cs nc (some n)), ?_, ?_, ?_, ?_, ?_, ?_, ?_, ?_⟩
          · rw [(dCause_0 (d := d) (nc := nc) (kd := 5) (by decide) hmm (by omega)).1]; first | exact congrArg (fun z => some (Value.int z)) (ansOf_0 _).symm | rfl
          · omega
          · exact fun zq hzq zn0 zn1 zn2 => zl282 zq hzq zn1 zn0
          · exact zr283
          · rw [(dCause_0 (d := d) (nc := nc) (kd := 5) (by decide) hmm (by omega)).2, show upd (upd (upd (upd d (20 + 2 * nc) (nI 5)) (20 + 2 * nc + 1) m) 10 (d 10 ||| 1 <<< (nI nc &&& 31))) 11 (nI (nc + 1)) 10 = d 10 ||| 1 <<< (nI nc &&& 31) from (pk_un (by omega)).trans pk_us]; exact zK278
          · exact zK279
          · rw [(dCause_0 (d := d) (nc := nc) (kd := 5) (by decide) hmm (by omega)).1]; first | (rw [bump_0]; exact zK280) | exact zK280
          · rw [(dCause_0 (d := d) (nc := nc) (kd := 5) (by decide) hmm (by omega)).2]; exact ⟨pk_us, by omega, CsO_add (CsO.mono zr283 hCs) hzn (by omega) (by decide) zK281, CsA_add (kd := 5) (CsA.mono zr283 hCA) hzn (by decide) zK281⟩
        · skip
          refine z_aload_n X 1 dX11_cause_53 rfl ?_
          refine z_get X fl_X11_120_2 dX11_cause_54 K2 rfl ?_
          refine z_iload X 0 dX11_cause_57 rfl ?_
          refine z_iload_n X 3 dX11_cause_59 rfl ?_
          refine z_iload X 0 dX11_cause_60 rfl ?_
          refine z_iload_n X 4 dX11_cause_62 rfl ?_
          refine z_callS X (c_newCause_6 (κ := κ) (n := n) (nb := (nI nc)) (em := (m))  ) mk_X11_newCause dX11_cause_63 wd_318 wd_319 rfl rfl (Nat.le_of_ble_eq_true rfl) (Nat.le_of_ble_eq_true rfl) (Nat.le_of_ble_eq_true rfl) (by omega) (by omega) (fun q zh284 zm286 zp287 => ?_)
          obtain ⟨rfl, ze285, zn288⟩ := zp287
          subst zm286
          refine z_st (st' := [.ref n, .int (nI nc), .ref (o + 6)]) rfl ?_
          have zK289 : zh284 o = some (.inr (11, [.ref (o + 1), .ref (o + 14), .ref (o + 27), .ref (o + 33), .ref (o + 42), .ref (o + 55), .ref (o + 57), .ref (o + 59), .ref (o + 61), .int im])) := by rw [ze285]; rw [va_up_ne _ _ (show o ≠ n by omega)]; exact K0
          have zK290 : zh284 (o + 1) = some (.inr (3, [.ref (o + 1 + 1), .ref (o + 1 + 7), .ref (o + 1 + 9), .ref (o + 1 + 11), .int (d 13)])) := by rw [ze285]; rw [va_up_ne _ _ (show o + 1 ≠ n by omega)]; exact K1
          have zK291 : zh284 (o + 2) = some (.inr (2, [.ref (o + 3), .ref (o + 4), .ref (o + 5), .ref (o + 6), .ref (o + 7), .int (nI len), .int (d 0), .int (d 2), .int (d 3), .int (nI nc), .int (d 10), .int cold, .int wind])) := by rw [ze285]; rw [va_up_ne _ _ (show o + 2 ≠ n by omega)]; exact K2
          have zK292 : zh284 (o + 6) = arR κ 1 6 cs := by rw [ze285]; rw [va_up_ne _ _ (show o + 6 ≠ n by omega)]; exact K3
          have zK293 : zh284 (o + 61) = arI κ 6 fo := by rw [ze285]; rw [va_up_ne _ _ (show o + 61 ≠ n by omega)]; exact K4
          have zK294 : zh284 n = some (.inr (1, [.int 6, .int ((nI nc)), .int m])) := by rw [ze285]; exact va_up_self _ _ _
          have zl295 : ∀ zq : Nat, zq < (o + 76) → zh284 zq = h zq := by intro zq hzq ; rw [ze285, va_up_ne _ _ (show zq ≠ n by omega)]; try rfl
          have zr296 : Zr κ (o + 76) h zh284 := Zr.agree hltB (fun zq h1 h2 => by rw [ze285, va_up_ne _ _ (show zq ≠ n by omega)]) (Zr.refl)
          refine z_aast (t := 1) (E := "IcicleRings$Cause") X dX11_cause_66 zK292 rfl zK294 rfl (Or.inr (by decide +kernel)) (vp_in_nI (n := nc) (by omega) (by omega)) (congrArg (fun z => va_up zh284 (o + 6) (arR κ 1 6 (va_up cs z (some (n))))) (nI_clamp (n := nc) (by omega))) ?_
          obtain ⟨zh297, ze298⟩ : ∃ z : Mm, z = va_up zh284 (o + 6) (arR κ 1 6 (va_up cs nc (some (n)))) := ⟨_, rfl⟩
          refine z_heap (h' := zh297) ze298.symm ?_
          have zK299 := up_off ze298 (show o ≠ o + 6 by omega) zK289
          have zK300 := up_off ze298 (show o + 1 ≠ o + 6 by omega) zK290
          have zK301 := up_off ze298 (show o + 2 ≠ o + 6 by omega) zK291
          have zK302 := up_at ze298
          have zK303 := up_off ze298 (show o + 61 ≠ o + 6 by omega) zK293
          have zK304 := up_off ze298 (show n ≠ o + 6 by omega) zK294
          have zl305 : ∀ zq : Nat, zq < (o + 76) → zq ≠ (o + 6) → zh297 zq = h zq := by intro zq hzq zn0; rw [ze298, va_up_ne _ _ (show zq ≠ o + 6 by omega)]; exact zl295 zq hzq 
          have zr306 : Zr κ (o + 76) h zh297 := Zr.agree hltB (fun zq h1 h2 => by rw [ze298, va_up_ne _ _ (show zq ≠ o + 6 by omega)]) (zr296)
          refine z_aload_n X 1 dX11_cause_67 rfl ?_
          refine z_aload_n X 1 dX11_cause_68 rfl ?_
          refine z_get X fl_X11_128_2 dX11_cause_69 zK301 rfl ?_
          refine z_iconst (v := 1) X dX11_cause_72 (by decide) ?_
          refine z_iload X 0 dX11_cause_73 rfl ?_
          refine z_ishl X dX11_cause_75 ?_
          refine z_ior X dX11_cause_76 ?_
          refine z_put X fp_X11_128_2 dX11_cause_77 zK301 (by first | rfl | decide) (by first | rfl | decide) (Nat.le_of_ble_eq_true rfl) rfl ?_
          obtain ⟨zh307, ze308⟩ : ∃ z : Mm, z = va_up zh297 (o + 1 + 1) (some (.inr (2, [.ref (o + 3), .ref (o + 4), .ref (o + 5), .ref (o + 6), .ref (o + 7), .int (nI len), .int (d 0), .int (d 2), .int (d 3), .int (nI nc), .int ((d 10) ||| (1 <<< ((nI nc) &&& 31))), .int cold, .int wind]))) := ⟨_, rfl⟩
          refine z_heap (h' := zh307) ze308.symm ?_
          have zK309 := up_off ze308 (show o ≠ o + 2 by omega) zK299
          have zK310 := up_off ze308 (show o + 1 ≠ o + 2 by omega) zK300
          have zK311 := up_at ze308
          have zK312 := up_off ze308 (show o + 6 ≠ o + 2 by omega) zK302
          have zK313 := up_off ze308 (show o + 61 ≠ o + 2 by omega) zK303
          have zK314 := up_off ze308 (show n ≠ o + 2 by omega) zK304
          have zl315 : ∀ zq : Nat, zq < (o + 76) → zq ≠ (o + 6) → zq ≠ (o + 2) → zh307 zq = h zq := by intro zq hzq zn0 zn1; rw [ze308, va_up_ne _ _ (show zq ≠ o + 2 by omega)]; exact zl305 zq hzq zn0
          have zr316 : Zr κ (o + 76) h zh307 := Zr.agree hltB (fun zq h1 h2 => by rw [ze308, va_up_ne _ _ (show zq ≠ o + 2 by omega)]) (zr306)
          refine z_aload_n X 1 dX11_cause_80 rfl ?_
          refine z_iload X 0 dX11_cause_81 rfl ?_
          refine z_iconst (v := 1) X dX11_cause_83 (by decide) ?_
          refine z_iadd X dX11_cause_84 ?_
          refine z_toe (y := nI (nc + 1)) (nI_add (nc) (1)) ?_
          refine z_put X fp_X11_117_2 dX11_cause_85 zK311 (by first | rfl | decide) (by first | rfl | decide) (Nat.le_of_ble_eq_true rfl) rfl ?_
          obtain ⟨zh317, ze318⟩ : ∃ z : Mm, z = va_up zh307 (o + 1 + 1) (some (.inr (2, [.ref (o + 3), .ref (o + 4), .ref (o + 5), .ref (o + 6), .ref (o + 7), .int (nI len), .int (d 0), .int (d 2), .int (d 3), .int (nI (nc + 1)), .int ((d 10) ||| (1 <<< ((nI nc) &&& 31))), .int cold, .int wind]))) := ⟨_, rfl⟩
          refine z_heap (h' := zh317) ze318.symm ?_
          have zK319 := up_off ze318 (show o ≠ o + 2 by omega) zK309
          have zK320 := up_off ze318 (show o + 1 ≠ o + 2 by omega) zK310
          have zK321 := up_at ze318
          have zK322 := up_off ze318 (show o + 6 ≠ o + 2 by omega) zK312
          have zK323 := up_off ze318 (show o + 61 ≠ o + 2 by omega) zK313
          have zK324 := up_off ze318 (show n ≠ o + 2 by omega) zK314
          have zl325 : ∀ zq : Nat, zq < (o + 76) → zq ≠ (o + 6) → zq ≠ (o + 2) → zh317 zq = h zq := by intro zq hzq zn0 zn1; rw [ze318, va_up_ne _ _ (show zq ≠ o + 2 by omega)]; exact zl315 zq hzq zn0 zn1
          have zr326 : Zr κ (o + 76) h zh317 := Zr.agree hltB (fun zq h1 h2 => by rw [ze318, va_up_ne _ _ (show zq ≠ o + 2 by omega)]) (zr316)
          refine z_iload X 0 dX11_cause_88 rfl ?_
          refine z_iret X E dX11_cause_90 (by omega) (by omega) ⟨(nc + 1), (va_up cs nc (some n)), ?_, ?_, ?_, ?_, ?_, ?_, ?_, ?_⟩
          · rw [(dCause_0 (d := d) (nc := nc) (kd := 6) (by decide) hmm (by omega)).1]; first | exact congrArg (fun z => some (Value.int z)) (ansOf_0 _).symm | rfl
          · omega
          · exact fun zq hzq zn0 zn1 zn2 => zl325 zq hzq zn1 zn0
          · exact zr326
          · rw [(dCause_0 (d := d) (nc := nc) (kd := 6) (by decide) hmm (by omega)).2, show upd (upd (upd (upd d (20 + 2 * nc) (nI 6)) (20 + 2 * nc + 1) m) 10 (d 10 ||| 1 <<< (nI nc &&& 31))) 11 (nI (nc + 1)) 10 = d 10 ||| 1 <<< (nI nc &&& 31) from (pk_un (by omega)).trans pk_us]; exact zK321
          · exact zK322
          · rw [(dCause_0 (d := d) (nc := nc) (kd := 6) (by decide) hmm (by omega)).1]; first | (rw [bump_0]; exact zK323) | exact zK323
          · rw [(dCause_0 (d := d) (nc := nc) (kd := 6) (by decide) hmm (by omega)).2]; exact ⟨pk_us, by omega, CsO_add (CsO.mono zr326 hCs) hzn (by omega) (by decide) zK324, CsA_add (kd := 6) (CsA.mono zr326 hCA) hzn (by decide) zK324⟩
      · try replace zc25 := mt (nI_ltI (a := nc) (b := 6) (by omega) (by omega)).mpr zc25
        refine z_aload_n X 2 dX11_cause_47 rfl ?_
        refine z_iconst (v := 4) X dX11_cause_48 (by decide) ?_
        refine z_callV X (c_fail (κ := κ) (n := n) (o := (o)) (im := (im)) (fo := (fo)) (k := (4)) K0 K4 (by first | assumption | omega) (by first | assumption | omega)) mk_X11_fail dX11_cause_49 wd_260 wd_262 wd_0 rfl K0 rfl rfl rfl (Nat.le_of_ble_eq_true rfl) (Nat.le_of_ble_eq_true rfl) (Nat.le_of_ble_eq_true rfl) (by omega) (by omega) (fun q zh327 zm329 zp330 => ?_)
        obtain ⟨rfl, ze328, zn331⟩ := zp330
        subst zm329
        refine z_st (st' := [.int (lowE 4)]) rfl ?_
        have zK332 : zh327 o = some (.inr (11, [.ref (o + 1), .ref (o + 14), .ref (o + 27), .ref (o + 33), .ref (o + 42), .ref (o + 55), .ref (o + 57), .ref (o + 59), .ref (o + 61), .int im])) := by rw [ze328]; rw [va_up_ne _ _ (show o ≠ o + 61 by omega)]; exact K0
        have zK333 : zh327 (o + 1) = some (.inr (3, [.ref (o + 1 + 1), .ref (o + 1 + 7), .ref (o + 1 + 9), .ref (o + 1 + 11), .int (d 13)])) := by rw [ze328]; rw [va_up_ne _ _ (show o + 1 ≠ o + 61 by omega)]; exact K1
        have zK334 : zh327 (o + 2) = some (.inr (2, [.ref (o + 3), .ref (o + 4), .ref (o + 5), .ref (o + 6), .ref (o + 7), .int (nI len), .int (d 0), .int (d 2), .int (d 3), .int (nI nc), .int (d 10), .int cold, .int wind])) := by rw [ze328]; rw [va_up_ne _ _ (show o + 2 ≠ o + 61 by omega)]; exact K2
        have zK335 : zh327 (o + 6) = arR κ 1 6 cs := by rw [ze328]; rw [va_up_ne _ _ (show o + 6 ≠ o + 61 by omega)]; exact K3
        have zK336 : zh327 (o + 61) = arI κ 6 (bmp fo 4) := by rw [ze328]; exact va_up_self _ _ _
        have zl337 : ∀ zq : Nat, zq < (o + 76) → zq ≠ (o + 61) → zh327 zq = h zq := by intro zq hzq zn0; rw [ze328, va_up_ne _ _ (show zq ≠ o + 61 by omega)]; try rfl
        have zr338 : Zr κ (o + 76) h zh327 := Zr.agree hltB (fun zq h1 h2 => by rw [ze328, va_up_ne _ _ (show zq ≠ o + 61 by omega)]) (Zr.refl)
        refine z_iret X E dX11_cause_52 (by omega) (by omega) ⟨nc, cs, ?_, ?_, ?_, ?_, ?_, ?_, ?_, ?_⟩
        · rw [(dCause_4 (d := d) hkk hmm (by omega)).1]; first | exact congrArg (fun z => some (Value.int z)) (ansOf_0 _).symm | rfl
        · omega
        · exact fun zq hzq zn0 zn1 zn2 => zl337 zq hzq zn2
        · exact zr338
        · rw [(dCause_4 (d := d) hkk hmm (by omega)).2]; exact zK334
        · exact zK335
        · rw [(dCause_4 (d := d) hkk hmm (by omega)).1]; first | (rw [bump_0]; exact zK336) | exact zK336
        · rw [(dCause_4 (d := d) hkk hmm (by omega)).2]; exact ⟨q4, q5, CsO.mono zr338 hCs, CsA.mono zr338 hCA⟩
    · replace zc24 := b2i_f zc24
      refine z_aload_n X 0 dX11_cause_20 rfl ?_
      refine z_iconst (v := 1) X dX11_cause_21 (by decide) ?_
      refine z_callV X (c_fail (κ := κ) (n := n) (o := (o)) (im := (im)) (fo := (fo)) (k := (1)) K0 K4 (by first | assumption | omega) (by first | assumption | omega)) mk_X11_fail dX11_cause_22 wd_260 wd_262 wd_0 rfl K0 rfl rfl rfl (Nat.le_of_ble_eq_true rfl) (Nat.le_of_ble_eq_true rfl) (Nat.le_of_ble_eq_true rfl) (by omega) (by omega) (fun q zh339 zm341 zp342 => ?_)
      obtain ⟨rfl, ze340, zn343⟩ := zp342
      subst zm341
      refine z_st (st' := [.int (lowE 1)]) rfl ?_
      have zK344 : zh339 o = some (.inr (11, [.ref (o + 1), .ref (o + 14), .ref (o + 27), .ref (o + 33), .ref (o + 42), .ref (o + 55), .ref (o + 57), .ref (o + 59), .ref (o + 61), .int im])) := by rw [ze340]; rw [va_up_ne _ _ (show o ≠ o + 61 by omega)]; exact K0
      have zK345 : zh339 (o + 1) = some (.inr (3, [.ref (o + 1 + 1), .ref (o + 1 + 7), .ref (o + 1 + 9), .ref (o + 1 + 11), .int (d 13)])) := by rw [ze340]; rw [va_up_ne _ _ (show o + 1 ≠ o + 61 by omega)]; exact K1
      have zK346 : zh339 (o + 2) = some (.inr (2, [.ref (o + 3), .ref (o + 4), .ref (o + 5), .ref (o + 6), .ref (o + 7), .int (nI len), .int (d 0), .int (d 2), .int (d 3), .int (nI nc), .int (d 10), .int cold, .int wind])) := by rw [ze340]; rw [va_up_ne _ _ (show o + 2 ≠ o + 61 by omega)]; exact K2
      have zK347 : zh339 (o + 6) = arR κ 1 6 cs := by rw [ze340]; rw [va_up_ne _ _ (show o + 6 ≠ o + 61 by omega)]; exact K3
      have zK348 : zh339 (o + 61) = arI κ 6 (bmp fo 1) := by rw [ze340]; exact va_up_self _ _ _
      have zl349 : ∀ zq : Nat, zq < (o + 76) → zq ≠ (o + 61) → zh339 zq = h zq := by intro zq hzq zn0; rw [ze340, va_up_ne _ _ (show zq ≠ o + 61 by omega)]; try rfl
      have zr350 : Zr κ (o + 76) h zh339 := Zr.agree hltB (fun zq h1 h2 => by rw [ze340, va_up_ne _ _ (show zq ≠ o + 61 by omega)]) (Zr.refl)
      refine z_iret X E dX11_cause_25 (by omega) (by omega) ⟨nc, cs, ?_, ?_, ?_, ?_, ?_, ?_, ?_, ?_⟩
      · rw [(dCause_1 (d := d) (nc := nc) (k := k) (m := m) (by omega)).1]; first | exact congrArg (fun z => some (Value.int z)) (ansOf_0 _).symm | rfl
      · omega
      · exact fun zq hzq zn0 zn1 zn2 => zl349 zq hzq zn2
      · exact zr350
      · rw [(dCause_1 (d := d) (nc := nc) (k := k) (m := m) (by omega)).2]; exact zK346
      · exact zK347
      · rw [(dCause_1 (d := d) (nc := nc) (k := k) (m := m) (by omega)).1]; first | (rw [bump_0]; exact zK348) | exact zK348
      · rw [(dCause_1 (d := d) (nc := nc) (k := k) (m := m) (by omega)).2]; exact ⟨q4, q5, CsO.mono zr350 hCs, CsA.mono zr350 hCA⟩
theorem Tx_ext {d d2 : Nat → Int32} {u j : Nat} (h : d (180 + 50 * u + j) = d2 (180 + 50 * u + j)) : Tx d u j = Tx d2 u j := h
theorem dTxt_b {d : Nat → Int32} {nt u j : Nat} (hj : j < nt) : dTxt d nt u (180 + 50 * u + j) = d (280 + j) := by
  unfold dTxt
  rw [if_pos (by omega), show 180 + 50 * u + j - (180 + 50 * u) = j by omega]
theorem dTxt_o {d : Nat → Int32} {nt u q : Nat} (h : ¬ (180 + 50 * u ≤ q ∧ q < 180 + 50 * u + nt)) (h1 : q ≠ 14) (h2 : q ≠ 60 + u) : dTxt d nt u q = d q := by
  unfold dTxt
  rw [if_neg h]
  exact (pk_un h2).trans (pk_un h1)
theorem wk_len {b : Nat → Int32} {nt : Nat} {nm : Nat → Int32} (h : (wkE b nt nm).2 = none) : ¬ nt = 0 := by
  intro q
  subst q
  have h1 : ∀ (p : Nat) (f : Option Nat), tk b 0 p f = -1 := fun p f => if_neg (fun z => absurd z.1 (by omega))
  have h2 : ∀ k, unitF 5 b 0 nm (0, none, k) = (0, 0, some 0, k) := fun k => unit_bad (by rw [h1]; decide) (by rw [h1]; decide) (by rw [h1]; decide) (by rw [h1]; decide) (Or.inl (by rw [h1]; decide))
  have h3 : evE 5 b 0 nm (0, none, 0) = (0, 0, some 0, 0) := by
    have e1 : prodE (unitF 5) b 0 nm (0, none, 0) = (0, 0, some 0, 0) := by unfold prodE; rw [h2]; exact prodF_stop (by rw [h1]; decide)
    have e2 : sumE (prodE (unitF 5)) b 0 nm (0, none, 0) = (0, 0, some 0, 0) := by unfold sumE; rw [e1]; exact sumF_stop (by rw [h1]; decide)
    have e3 : cmpE (sumE (prodE (unitF 5))) b 0 nm (0, none, 0) = (0, 0, some 0, 0) := cmpE_stop e2 (by rw [h1]; decide)
    have e4 : bothE (cmpE (sumE (prodE (unitF 5)))) b 0 nm (0, none, 0) = (0, 0, some 0, 0) := by unfold bothE; rw [e3]; exact bothF_stop (by rw [h1]; decide)
    show eithE (bothE (cmpE (sumE (prodE (unitF 5))))) b 0 nm (0, none, 0) = _
    unfold eithE; rw [e4]; exact eithF_stop (by rw [h1]; decide)
  rw [wkE_v h3 (fun z => by cases z.1)] at h
  cases h
set_option maxHeartbeats 4000000 in
set_option maxRecDepth 100000 in
theorem p_text {κ : Wc} {l : Launch} {h : Mm} {n : Nat} {o : Nat} {im : Int32} {d : Nat → Int32} {len : Nat} {nc : Nat} {cold : Int32} {wind : Int32} {ts : Nat → Option Nat} {nt : Nat} {tp : Nat → Int32} {fo : Nat → Int32} {u : Int32} {nm : Nat → Int32} {tx : Nat → Nat} (K0 : h o = some (.inr (11, [.ref (o + 1), .ref (o + 14), .ref (o + 27), .ref (o + 33), .ref (o + 42), .ref (o + 55), .ref (o + 57), .ref (o + 59), .ref (o + 61), .int im]))) (K1 : h (o + 1) = some (.inr (3, [.ref (o + 1 + 1), .ref (o + 1 + 7), .ref (o + 1 + 9), .ref (o + 1 + 11), .int (d 13)]))) (K2 : h (o + 2) = some (.inr (2, [.ref (o + 3), .ref (o + 4), .ref (o + 5), .ref (o + 6), .ref (o + 7), .int (nI len), .int (d 0), .int (d 2), .int (d 3), .int (nI nc), .int (d 10), .int cold, .int wind]))) (K3 : h (o + 7) = arR κ 2 2 ts) (K4 : h (o + 8) = some (.inr (6, [.ref (o + 8 + 1), .int (nI nt), .int 32]))) (K5 : h (o + 9) = arI κ 50 tp) (K6 : h (o + 61) = arI κ 6 fo) (hTs : TsO κ (o + 76) h ts (Tx d) tx) (q8 : ∀ u, u < 2 → d (60 + u) = nI (tx u) ∧ tx u ≤ 50) (p1 : d 14 = nI nt) (p2 : nt ≤ 50) (p3 : ∀ j, j < nt → tp j = d (280 + j)) (hzn : o + 76 ≤ n) : Con κ l yX11_text cX11_text 4 (some .int) 48 3 105 [.ref o, .int u] h n (fun q h' n' => ∃ nt2' : Nat, ∃ tx2' : Nat → Nat, ∃ ts' : Nat → Option Nat, q = some (.int (ansOf (opText d nt nm u))) ∧ n ≤ n' ∧ (∀ zq : Nat, zq < (o + 76) → zq ≠ (o + 7) → zq ≠ (o + 8) → zq ≠ (o + 61) → h' zq = h zq) ∧ Zr κ (o + 76) h h' ∧ h' (o + 7) = arR κ 2 2 ts' ∧ h' (o + 8) = some (.inr (6, [.ref (o + 8 + 1), .int (nI nt2'), .int 32])) ∧ h' (o + 61) = arI κ 6 (bump (opText d nt nm u) fo) ∧ ((dText d nt nm u) 14 = nI nt2' ∧ nt2' ≤ 50 ∧ (∀ j, j < nt2' → tp j = (dText d nt nm u) (280 + j)) ∧ (∀ u2, u2 < 2 → (dText d nt nm u) (60 + u2) = nI (tx2' u2) ∧ tx2' u2 ≤ 50) ∧ TsO κ (o + 76) h' ts' (Tx (dText d nt nm u)) tx2')) := by
  refine Con.of mk_X11_text (Nat.le_of_ble_eq_true rfl) (fun G hG X E => ?_)
  subst hG
  refine z_ls (ls' := [(0, .ref o), (1, .int u)]) rfl ?_
  refine z_lts (fun hltB => ?_)
  refine z_iload_n X 1 dX11_text_0 rfl ?_
  refine z_iconst (v := 0) X dX11_text_1 (by decide) ?_
  refine z_iconst (v := 1) X dX11_text_2 (by decide) ?_
  refine z_callS X (c_within (κ := κ) (n := n) (v := (u)) (lo := (0)) (hi := (1))  ) mk_X11_within dX11_text_3 wd_259 wd_257 rfl rfl (Nat.le_of_ble_eq_true rfl) (Nat.le_of_ble_eq_true rfl) (Nat.le_of_ble_eq_true rfl) (by omega) (by omega) (fun q zh1 zm3 zp4 => ?_)
  obtain ⟨rfl, ze2, zn5⟩ := zp4
  subst zm3
  subst zh1
  refine z_st (st' := [.int (b2i ((0 : Int32).toInt ≤ (u : Int32).toInt ∧ (u : Int32).toInt ≤ (1 : Int32).toInt))]) rfl ?_
  refine z_toe (y := b2i (0 ≤ u.toInt ∧ u.toInt ≤ 1)) (by simp only [show (0 : Int32).toInt = 0 by decide, show (1 : Int32).toInt = 1 by decide]) ?_
  refine z_if_ne X 15 dX11_text_6 (by decide) (fun zc6 => ?_) (fun zc6 => ?_)
  · replace zc6 := b2i_t zc6
    obtain ⟨uk, huk, rfl⟩ := ix_of (c := u) (len := 2) (by omega) (by omega)
    refine z_new X fn_X9 dX11_text_15 wd_508 (by omega) (by omega) ?_
    obtain ⟨zh7, ze8⟩ : ∃ z : Mm, z = va_up h n (some (.inr (9, [.null, .null, .int 0, .int 0, .int 0]))) := ⟨_, rfl⟩
    refine z_heap (h' := zh7) ze8.symm ?_
    have zK9 := up_off ze8 (show o ≠ n by omega) K0
    have zK10 := up_off ze8 (show o + 1 ≠ n by omega) K1
    have zK11 := up_off ze8 (show o + 2 ≠ n by omega) K2
    have zK12 := up_off ze8 (show o + 7 ≠ n by omega) K3
    have zK13 := up_off ze8 (show o + 8 ≠ n by omega) K4
    have zK14 := up_off ze8 (show o + 9 ≠ n by omega) K5
    have zK15 := up_off ze8 (show o + 61 ≠ n by omega) K6
    have zK16 := up_at ze8
    have zl17 : ∀ zq : Nat, zq < (o + 76) → zh7 zq = h zq := by intro zq hzq ; rw [ze8, va_up_ne _ _ (show zq ≠ n by omega)]; try rfl
    have zr18 : Zr κ (o + 76) h zh7 := Zr.agree hltB (fun zq h1 h2 => by rw [ze8, va_up_ne _ _ (show zq ≠ n by omega)]) (Zr.refl)
    refine z_dup X dX11_text_18 rfl ?_
    refine z_callIN (host := "IcicleRings") X (t_init (κ := κ) (t := (n)) zK16 ) mk_X9_init dX11_text_19 (by decide +kernel) wd_510 rfl rfl rfl (Nat.le_of_ble_eq_true rfl) (Nat.le_of_ble_eq_true rfl) (Nat.le_of_ble_eq_true rfl) (by omega) (by omega) (fun q zh19 zm21 zp22 => ?_)
    obtain ⟨rfl, ze20, zn23⟩ := zp22
    subst zm21
    refine z_st (st' := [.ref n]) rfl ?_
    have zK24 : zh19 o = some (.inr (11, [.ref (o + 1), .ref (o + 14), .ref (o + 27), .ref (o + 33), .ref (o + 42), .ref (o + 55), .ref (o + 57), .ref (o + 59), .ref (o + 61), .int im])) := by rw [ze20]; rw [va_up_ne _ _ (show o ≠ n + 2 by omega)]; rw [va_up_ne _ _ (show o ≠ n + 1 by omega)]; rw [va_up_ne _ _ (show o ≠ n by omega)]; exact zK9
    have zK25 : zh19 (o + 1) = some (.inr (3, [.ref (o + 1 + 1), .ref (o + 1 + 7), .ref (o + 1 + 9), .ref (o + 1 + 11), .int (d 13)])) := by rw [ze20]; rw [va_up_ne _ _ (show o + 1 ≠ n + 2 by omega)]; rw [va_up_ne _ _ (show o + 1 ≠ n + 1 by omega)]; rw [va_up_ne _ _ (show o + 1 ≠ n by omega)]; exact zK10
    have zK26 : zh19 (o + 2) = some (.inr (2, [.ref (o + 3), .ref (o + 4), .ref (o + 5), .ref (o + 6), .ref (o + 7), .int (nI len), .int (d 0), .int (d 2), .int (d 3), .int (nI nc), .int (d 10), .int cold, .int wind])) := by rw [ze20]; rw [va_up_ne _ _ (show o + 2 ≠ n + 2 by omega)]; rw [va_up_ne _ _ (show o + 2 ≠ n + 1 by omega)]; rw [va_up_ne _ _ (show o + 2 ≠ n by omega)]; exact zK11
    have zK27 : zh19 (o + 7) = arR κ 2 2 ts := by rw [ze20]; rw [va_up_ne _ _ (show o + 7 ≠ n + 2 by omega)]; rw [va_up_ne _ _ (show o + 7 ≠ n + 1 by omega)]; rw [va_up_ne _ _ (show o + 7 ≠ n by omega)]; exact zK12
    have zK28 : zh19 (o + 8) = some (.inr (6, [.ref (o + 8 + 1), .int (nI nt), .int 32])) := by rw [ze20]; rw [va_up_ne _ _ (show o + 8 ≠ n + 2 by omega)]; rw [va_up_ne _ _ (show o + 8 ≠ n + 1 by omega)]; rw [va_up_ne _ _ (show o + 8 ≠ n by omega)]; exact zK13
    have zK29 : zh19 (o + 9) = arI κ 50 tp := by rw [ze20]; rw [va_up_ne _ _ (show o + 9 ≠ n + 2 by omega)]; rw [va_up_ne _ _ (show o + 9 ≠ n + 1 by omega)]; rw [va_up_ne _ _ (show o + 9 ≠ n by omega)]; exact zK14
    have zK30 : zh19 (o + 61) = arI κ 6 fo := by rw [ze20]; rw [va_up_ne _ _ (show o + 61 ≠ n + 2 by omega)]; rw [va_up_ne _ _ (show o + 61 ≠ n + 1 by omega)]; rw [va_up_ne _ _ (show o + 61 ≠ n by omega)]; exact zK15
    have zK31 : zh19 n = some (.inr (9, [.ref (n + 1), .ref (n + 2), .int 0, .int 0, .int 0])) := by rw [ze20]; rw [va_up_ne _ _ (show n ≠ n + 2 by omega)]; rw [va_up_ne _ _ (show n ≠ n + 1 by omega)]; exact va_up_self _ _ _
    have zK32 : zh19 (n + 1) = arI κ 50 (fun _ => 0) := by rw [ze20]; rw [va_up_ne _ _ (show n + 1 ≠ n + 2 by omega)]; exact va_up_self _ _ _
    have zK33 : zh19 (n + 2) = arI κ 50 (fun _ => 0) := by rw [ze20]; exact va_up_self _ _ _
    have zl34 : ∀ zq : Nat, zq < (o + 76) → zh19 zq = h zq := by intro zq hzq ; rw [ze20, va_up_ne _ _ (show zq ≠ n + 2 by omega), va_up_ne _ _ (show zq ≠ n + 1 by omega), va_up_ne _ _ (show zq ≠ n by omega)]; exact zl17 zq hzq 
    have zr35 : Zr κ (o + 76) h zh19 := Zr.agree hltB (fun zq h1 h2 => by rw [ze20, va_up_ne _ _ (show zq ≠ n + 2 by omega), va_up_ne _ _ (show zq ≠ n + 1 by omega), va_up_ne _ _ (show zq ≠ n by omega)]) (zr18)
    refine z_astore_n (ls' := [(2, .ref n), (0, .ref o), (1, .int (nI uk))]) X dX11_text_22 (by decide) rfl ?_
    refine z_aload_n X 0 dX11_text_23 rfl ?_
    refine z_aload_n X 1 dX11_text_24 rfl ?_
    refine z_get X fl_X11_10_11 dX11_text_25 zK24 rfl ?_
    refine z_get X fl_X11_158_3 dX11_text_28 zK25 rfl ?_
    refine z_callV X (t_faultOf (κ := κ) (n := n + 3) (t := (n)) (r := (o + 1 + 7)) (nn := (nt)) (b := (tp)) (st := (fun _ => 0)) (s0 := (0)) (p0 := (0)) (tp := (0)) (bits := (32)) zK31 zK32 zK28 zK29 (by first | assumption | omega) (by first | assumption | omega)) mk_X9_faultOf dX11_text_31 wd_529 wd_530 wd_531 rfl zK31 rfl rfl rfl (Nat.le_of_ble_eq_true rfl) (Nat.le_of_ble_eq_true rfl) (Nat.le_of_ble_eq_true rfl) (by omega) (by omega) (fun q zh39 zm41 zp42 => ?_)
    obtain ⟨L'36, pl'37, f'38, rfl, ze40, zn44, zf43⟩ := zp42
    subst zm41
    refine z_st (st' := [.int (faI f'38)]) rfl ?_
    have zK45 : zh39 o = some (.inr (11, [.ref (o + 1), .ref (o + 14), .ref (o + 27), .ref (o + 33), .ref (o + 42), .ref (o + 55), .ref (o + 57), .ref (o + 59), .ref (o + 61), .int im])) := by rw [ze40]; rw [va_up_ne _ _ (show o ≠ n + 1 by omega)]; rw [va_up_ne _ _ (show o ≠ n by omega)]; exact zK24
    have zK46 : zh39 (o + 1) = some (.inr (3, [.ref (o + 1 + 1), .ref (o + 1 + 7), .ref (o + 1 + 9), .ref (o + 1 + 11), .int (d 13)])) := by rw [ze40]; rw [va_up_ne _ _ (show o + 1 ≠ n + 1 by omega)]; rw [va_up_ne _ _ (show o + 1 ≠ n by omega)]; exact zK25
    have zK47 : zh39 (o + 2) = some (.inr (2, [.ref (o + 3), .ref (o + 4), .ref (o + 5), .ref (o + 6), .ref (o + 7), .int (nI len), .int (d 0), .int (d 2), .int (d 3), .int (nI nc), .int (d 10), .int cold, .int wind])) := by rw [ze40]; rw [va_up_ne _ _ (show o + 2 ≠ n + 1 by omega)]; rw [va_up_ne _ _ (show o + 2 ≠ n by omega)]; exact zK26
    have zK48 : zh39 (o + 7) = arR κ 2 2 ts := by rw [ze40]; rw [va_up_ne _ _ (show o + 7 ≠ n + 1 by omega)]; rw [va_up_ne _ _ (show o + 7 ≠ n by omega)]; exact zK27
    have zK49 : zh39 (o + 8) = some (.inr (6, [.ref (o + 8 + 1), .int (nI nt), .int 32])) := by rw [ze40]; rw [va_up_ne _ _ (show o + 8 ≠ n + 1 by omega)]; rw [va_up_ne _ _ (show o + 8 ≠ n by omega)]; exact zK28
    have zK50 : zh39 (o + 9) = arI κ 50 tp := by rw [ze40]; rw [va_up_ne _ _ (show o + 9 ≠ n + 1 by omega)]; rw [va_up_ne _ _ (show o + 9 ≠ n by omega)]; exact zK29
    have zK51 : zh39 (o + 61) = arI κ 6 fo := by rw [ze40]; rw [va_up_ne _ _ (show o + 61 ≠ n + 1 by omega)]; rw [va_up_ne _ _ (show o + 61 ≠ n by omega)]; exact zK30
    have zK52 : zh39 n = some (.inr (9, [.ref (n + 1), .ref (n + 2), .int (nI (L'36 : _).length), .int pl'37, .int 0])) := by rw [ze40]; rw [va_up_ne _ _ (show n ≠ n + 1 by omega)]; exact va_up_self _ _ _
    have zK53 : zh39 (n + 1) = arI κ 50 (wrs (fun _ => 0) 0 L'36) := by rw [ze40]; exact va_up_self _ _ _
    have zK54 : zh39 (n + 2) = arI κ 50 (fun _ => 0) := by rw [ze40]; rw [va_up_ne _ _ (show n + 2 ≠ n + 1 by omega)]; rw [va_up_ne _ _ (show n + 2 ≠ n by omega)]; exact zK33
    have zl55 : ∀ zq : Nat, zq < (o + 76) → zh39 zq = h zq := by intro zq hzq ; rw [ze40, va_up_ne _ _ (show zq ≠ n + 1 by omega), va_up_ne _ _ (show zq ≠ n by omega)]; exact zl34 zq hzq 
    have zr56 : Zr κ (o + 76) h zh39 := Zr.agree hltB (fun zq h1 h2 => by rw [ze40, va_up_ne _ _ (show zq ≠ n + 1 by omega), va_up_ne _ _ (show zq ≠ n by omega)]) (zr35)
    have hFa := zf43; have hfk : flOk f'38 := zf43.2.1; have hwk := fun nm => wkE_cong (b := tp) (b2 := sh d 280) (n := nt) p3 nm
    refine z_istore_n (ls' := [(3, .int (faI f'38)), (2, .ref n), (0, .ref o), (1, .int (nI uk))]) X dX11_text_34 (by decide) rfl ?_
    refine z_aload_n X 2 dX11_text_35 rfl ?_
    refine z_get X fl_X11_10_11 dX11_text_36 zK45 rfl ?_
    refine z_get X fl_X11_158_3 dX11_text_39 zK46 rfl ?_
    refine z_callV X (c_Row_clear (κ := κ) (n := n + 3) (r := (o + 1 + 7)) (sz := (nI nt)) (bt := (32)) zK49 ) mk_X6_clear dX11_text_42 wd_583 wd_584 wd_585 rfl zK49 rfl rfl rfl (Nat.le_of_ble_eq_true rfl) (Nat.le_of_ble_eq_true rfl) (Nat.le_of_ble_eq_true rfl) (by omega) (by omega) (fun q zh57 zm59 zp60 => ?_)
    obtain ⟨rfl, ze58, zn61⟩ := zp60
    subst zm59
    refine z_st (st' := []) rfl ?_
    have zK62 : zh57 o = some (.inr (11, [.ref (o + 1), .ref (o + 14), .ref (o + 27), .ref (o + 33), .ref (o + 42), .ref (o + 55), .ref (o + 57), .ref (o + 59), .ref (o + 61), .int im])) := by rw [ze58]; rw [va_up_ne _ _ (show o ≠ o + 8 by omega)]; exact zK45
    have zK63 : zh57 (o + 1) = some (.inr (3, [.ref (o + 1 + 1), .ref (o + 1 + 7), .ref (o + 1 + 9), .ref (o + 1 + 11), .int (d 13)])) := by rw [ze58]; rw [va_up_ne _ _ (show o + 1 ≠ o + 8 by omega)]; exact zK46
    have zK64 : zh57 (o + 2) = some (.inr (2, [.ref (o + 3), .ref (o + 4), .ref (o + 5), .ref (o + 6), .ref (o + 7), .int (nI len), .int (d 0), .int (d 2), .int (d 3), .int (nI nc), .int (d 10), .int cold, .int wind])) := by rw [ze58]; rw [va_up_ne _ _ (show o + 2 ≠ o + 8 by omega)]; exact zK47
    have zK65 : zh57 (o + 7) = arR κ 2 2 ts := by rw [ze58]; rw [va_up_ne _ _ (show o + 7 ≠ o + 8 by omega)]; exact zK48
    have zK66 : zh57 (o + 8) = some (.inr (6, [.ref ((o + 1 + 7) + 1), .int 0, .int 32])) := by rw [ze58]; exact va_up_self _ _ _
    have zK67 : zh57 (o + 9) = arI κ 50 tp := by rw [ze58]; rw [va_up_ne _ _ (show o + 9 ≠ o + 8 by omega)]; exact zK50
    have zK68 : zh57 (o + 61) = arI κ 6 fo := by rw [ze58]; rw [va_up_ne _ _ (show o + 61 ≠ o + 8 by omega)]; exact zK51
    have zK69 : zh57 n = some (.inr (9, [.ref (n + 1), .ref (n + 2), .int (nI (L'36 : _).length), .int pl'37, .int 0])) := by rw [ze58]; rw [va_up_ne _ _ (show n ≠ o + 8 by omega)]; exact zK52
    have zK70 : zh57 (n + 1) = arI κ 50 (wrs (fun _ => 0) 0 L'36) := by rw [ze58]; rw [va_up_ne _ _ (show n + 1 ≠ o + 8 by omega)]; exact zK53
    have zK71 : zh57 (n + 2) = arI κ 50 (fun _ => 0) := by rw [ze58]; rw [va_up_ne _ _ (show n + 2 ≠ o + 8 by omega)]; exact zK54
    have zl72 : ∀ zq : Nat, zq < (o + 76) → zq ≠ (o + 8) → zh57 zq = h zq := by intro zq hzq zn0; rw [ze58, va_up_ne _ _ (show zq ≠ o + 8 by omega)]; exact zl55 zq hzq 
    have zr73 : Zr κ (o + 76) h zh57 := Zr.agree hltB (fun zq h1 h2 => by rw [ze58, va_up_ne _ _ (show zq ≠ o + 8 by omega)]) (zr56)
    refine z_iload_n X 0 dX11_text_45 rfl ?_
    refine z_if_lt X 54 dX11_text_46 (by decide) (fun zc74 => ?_) (fun zc74 => ?_)
    · have hfn := (faI_lt hfk).mp zc74
      have hsm : (wkE (sh d 280) nt nm).2 = none := by rw [← hwk nm, hFa.1 nm]; exact hfn
      refine z_aload_n X 2 dX11_text_54 rfl ?_
      refine z_get X fl_X11_10_11 dX11_text_55 zK62 rfl ?_
      refine z_get X fl_X11_56_3 dX11_text_58 zK63 rfl ?_
      refine z_get X fl_X11_174_2 dX11_text_61 zK64 rfl ?_
      refine z_iload_n X 3 dX11_text_64 rfl ?_
      refine z_aload_n X 1 dX11_text_65 rfl ?_
      refine z_aast (t := 2) (E := "IcicleRings$Text") X dX11_text_66 zK65 rfl zK69 rfl (Or.inl rfl) (vp_in_nI (n := uk) (by omega) (by omega)) (congrArg (fun z => va_up zh57 (o + 7) (arR κ 2 2 (va_up ts z (some (n))))) (nI_clamp (n := uk) (by omega))) ?_
      obtain ⟨zh75, ze76⟩ : ∃ z : Mm, z = va_up zh57 (o + 7) (arR κ 2 2 (va_up ts uk (some (n)))) := ⟨_, rfl⟩
      refine z_heap (h' := zh75) ze76.symm ?_
      have zK77 := up_off ze76 (show o ≠ o + 7 by omega) zK62
      have zK78 := up_off ze76 (show o + 1 ≠ o + 7 by omega) zK63
      have zK79 := up_off ze76 (show o + 2 ≠ o + 7 by omega) zK64
      have zK80 := up_at ze76
      have zK81 := up_off ze76 (show o + 8 ≠ o + 7 by omega) zK66
      have zK82 := up_off ze76 (show o + 9 ≠ o + 7 by omega) zK67
      have zK83 := up_off ze76 (show o + 61 ≠ o + 7 by omega) zK68
      have zK84 := up_off ze76 (show n ≠ o + 7 by omega) zK69
      have zK85 := up_off ze76 (show n + 1 ≠ o + 7 by omega) zK70
      have zK86 := up_off ze76 (show n + 2 ≠ o + 7 by omega) zK71
      have zl87 : ∀ zq : Nat, zq < (o + 76) → zq ≠ (o + 8) → zq ≠ (o + 7) → zh75 zq = h zq := by intro zq hzq zn0 zn1; rw [ze76, va_up_ne _ _ (show zq ≠ o + 7 by omega)]; exact zl72 zq hzq zn0
      have zr88 : Zr κ (o + 76) h zh75 := Zr.agree hltB (fun zq h1 h2 => by rw [ze76, va_up_ne _ _ (show zq ≠ o + 7 by omega)]) (zr73)
      refine z_iconst (v := 1) X dX11_text_67 (by decide) ?_
      refine z_iret X E dX11_text_68 (by omega) (by omega) ⟨0, (fun v => if v = uk then nt else tx v), (va_up ts uk (some n)), ?_, ?_, ?_, ?_, ?_, ?_, ?_, ?_⟩
      · rw [opText_n (nm := nm) huk hsm]; first | exact congrArg (fun z => some (Value.int z)) (ansOf_0 _).symm | rfl
      · omega
      · exact fun zq hzq zn0 zn1 zn2 => zl87 zq hzq zn1 zn0
      · exact zr88
      · exact zK80
      · exact zK81
      · rw [opText_n (nm := nm) huk hsm]; first | (rw [bump_0]; exact zK83) | exact zK83
      · rw [dText_n huk hsm]; refine ⟨?_, by omega, fun z hz => absurd hz (by omega), fun u2 hu2 => ?_, TsO.add (T := Tx d) (T2 := Tx (dTxt d nt uk)) (TsO.mono zr88 hTs) hzn (wk_len hsm) ⟨L'36, fun _ => 0, fun _ => 0, _, _, zK84, zK85, zK86, hFa.2.2.1, hFa.2.2.2.1, fun nm2 => (by (rw [wkE_cong (b := Tx (dTxt d nt uk) uk) (b2 := tp) (fun j hj => (dTxt_b hj).trans (p3 j hj).symm)]; exact hFa.2.2.2.2 hfn nm2))⟩ (fun v hv hvu j hj => Tx_ext (dTxt_o (q := 180 + 50 * v + j) (by have := (q8 v hv).2; omega) (by omega) (by omega)).symm)⟩; (unfold dTxt; rw [if_neg (by omega)]; exact (pk_un (by omega)).trans pk_us); (dsimp only); (by_cases e : u2 = uk); (rw [e]; unfold dTxt; rw [if_neg (by omega)]; exact ⟨pk_us.trans (by rw [if_pos rfl]), by (rw [if_pos rfl]; exact p2)⟩); (rw [if_neg e, dTxt_o (by omega) (by omega) (by omega)]; exact q8 u2 hu2)
    · obtain ⟨fp, hfp⟩ := Option.ne_none_iff_exists'.mp ((faI_ge hfk).mp (Int32.not_lt.mp zc74))
      have hsm : (wkE (sh d 280) nt nm).2 = some fp := by rw [← hwk nm, hFa.1 nm]; exact hfp
      refine z_bipush (v := -10) X dX11_text_49 (by decide) ?_
      refine z_iload_n X 0 dX11_text_51 rfl ?_
      refine z_isub X dX11_text_52 ?_
      refine z_toe (y := -10 - nI fp) (by rw [hfp]; rfl) ?_
      refine z_iret X E dX11_text_53 (by omega) (by omega) ⟨0, tx, ts, ?_, ?_, ?_, ?_, ?_, ?_, ?_, ?_⟩
      · rw [opText_s (nm := nm) huk hsm]; first | exact congrArg (fun z => some (Value.int z)) (ansOf_0 _).symm | rfl
      · omega
      · exact fun zq hzq zn0 zn1 zn2 => zl72 zq hzq zn1
      · exact zr73
      · exact zK65
      · exact zK66
      · rw [opText_s (nm := nm) huk hsm]; first | (rw [bump_0]; exact zK68) | exact zK68
      · rw [dText_s huk hsm]; refine ⟨pk_us, by omega, fun z hz => absurd hz (by omega), fun u2 hu2 => ⟨(pk_un (by omega)).trans (q8 u2 hu2).1, (q8 u2 hu2).2⟩, (TsO.mono zr73 hTs).row (fun u2 hu2 => ⟨rfl, fun j hj => Tx_ext (pk_un (show 180 + 50 * u2 + j ≠ 14 by omega)).symm⟩)⟩
  · replace zc6 := b2i_f zc6
    refine z_aload_n X 0 dX11_text_9 rfl ?_
    refine z_iconst (v := 1) X dX11_text_10 (by decide) ?_
    refine z_callV X (c_fail (κ := κ) (n := n) (o := (o)) (im := (im)) (fo := (fo)) (k := (1)) K0 K6 (by first | assumption | omega) (by first | assumption | omega)) mk_X11_fail dX11_text_11 wd_260 wd_262 wd_0 rfl K0 rfl rfl rfl (Nat.le_of_ble_eq_true rfl) (Nat.le_of_ble_eq_true rfl) (Nat.le_of_ble_eq_true rfl) (by omega) (by omega) (fun q zh89 zm91 zp92 => ?_)
    obtain ⟨rfl, ze90, zn93⟩ := zp92
    subst zm91
    refine z_st (st' := [.int (lowE 1)]) rfl ?_
    have zK94 : zh89 o = some (.inr (11, [.ref (o + 1), .ref (o + 14), .ref (o + 27), .ref (o + 33), .ref (o + 42), .ref (o + 55), .ref (o + 57), .ref (o + 59), .ref (o + 61), .int im])) := by rw [ze90]; rw [va_up_ne _ _ (show o ≠ o + 61 by omega)]; exact K0
    have zK95 : zh89 (o + 1) = some (.inr (3, [.ref (o + 1 + 1), .ref (o + 1 + 7), .ref (o + 1 + 9), .ref (o + 1 + 11), .int (d 13)])) := by rw [ze90]; rw [va_up_ne _ _ (show o + 1 ≠ o + 61 by omega)]; exact K1
    have zK96 : zh89 (o + 2) = some (.inr (2, [.ref (o + 3), .ref (o + 4), .ref (o + 5), .ref (o + 6), .ref (o + 7), .int (nI len), .int (d 0), .int (d 2), .int (d 3), .int (nI nc), .int (d 10), .int cold, .int wind])) := by rw [ze90]; rw [va_up_ne _ _ (show o + 2 ≠ o + 61 by omega)]; exact K2
    have zK97 : zh89 (o + 7) = arR κ 2 2 ts := by rw [ze90]; rw [va_up_ne _ _ (show o + 7 ≠ o + 61 by omega)]; exact K3
    have zK98 : zh89 (o + 8) = some (.inr (6, [.ref (o + 8 + 1), .int (nI nt), .int 32])) := by rw [ze90]; rw [va_up_ne _ _ (show o + 8 ≠ o + 61 by omega)]; exact K4
    have zK99 : zh89 (o + 9) = arI κ 50 tp := by rw [ze90]; rw [va_up_ne _ _ (show o + 9 ≠ o + 61 by omega)]; exact K5
    have zK100 : zh89 (o + 61) = arI κ 6 (bmp fo 1) := by rw [ze90]; exact va_up_self _ _ _
    have zl101 : ∀ zq : Nat, zq < (o + 76) → zq ≠ (o + 61) → zh89 zq = h zq := by intro zq hzq zn0; rw [ze90, va_up_ne _ _ (show zq ≠ o + 61 by omega)]; try rfl
    have zr102 : Zr κ (o + 76) h zh89 := Zr.agree hltB (fun zq h1 h2 => by rw [ze90, va_up_ne _ _ (show zq ≠ o + 61 by omega)]) (Zr.refl)
    refine z_iret X E dX11_text_14 (by omega) (by omega) ⟨nt, tx, ts, ?_, ?_, ?_, ?_, ?_, ?_, ?_, ?_⟩
    · rw [(show opText d nt nm u = (1, 0) from if_pos (by assumption))]; first | exact congrArg (fun z => some (Value.int z)) (ansOf_0 _).symm | rfl
    · omega
    · exact fun zq hzq zn0 zn1 zn2 => zl101 zq hzq zn2
    · exact zr102
    · exact zK97
    · exact zK98
    · rw [(show opText d nt nm u = (1, 0) from if_pos (by assumption))]; first | (rw [bump_0]; exact zK100) | exact zK100
    · (have hd1 : dText d nt nm u = d := if_pos (by assumption)); rw [hd1]; exact ⟨p1, p2, p3, q8, TsO.mono zr102 hTs⟩
