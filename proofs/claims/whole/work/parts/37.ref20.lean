/-! voices: what each kind's body answers, and which bodies ran -/
def wrs : (Nat → Int32) → Nat → List Int32 → Nat → Int32
  | tr, _, [] => tr
  | tr, tn, b :: L => wrs (upd tr tn b) (tn + 1) L
theorem wrs_app : ∀ (L M : List Int32) (tr : Nat → Int32) (tn : Nat), wrs tr tn (L ++ M) = wrs (wrs tr tn L) (tn + L.length) M := by
  intro L
  induction L with
  | nil => intro M tr tn; rfl
  | cons b L ih =>
    intro M tr tn
    show wrs (upd tr tn b) (tn + 1) (L ++ M) = wrs (wrs (upd tr tn b) (tn + 1) L) (tn + (L.length + 1)) M
    rw [ih, show tn + 1 + L.length = tn + (L.length + 1) by omega]
theorem wrs_1 (tr : Nat → Int32) (tn : Nat) (b : Int32) (L : List Int32) : wrs tr tn (b :: L) = wrs (upd tr tn b) (tn + 1) L := rfl
theorem wrs_n (tr : Nat → Int32) (tn : Nat) : wrs tr tn [] = tr := rfl
def vRuns (k : Nat) (c x : Int32) : Int32 := match k with
  | 2 => (x + c) * 3
  | 3 => (x + 1 + c) * 3
  | 4 => (x + 1 + c) * 3
  | _ => x + c
def bRuns (k : Nat) : List Int32 := match k with
  | 2 => [30, 10]
  | 3 => [41, 30, 10]
  | 4 => [41, 30, 10]
  | _ => [10]
def vMoves (k : Nat) (c m x : Int32) : Int32 := match k with
  | 3 => -(x - m)
  | 4 => -(x - m)
  | 5 => (x - m) ^^^ c
  | _ => x - m
def bMoves (k : Nat) : List Int32 := match k with
  | 3 => [40, 12]
  | 4 => [40, 12]
  | 5 => [60, 12]
  | _ => [12]
def vChills (k w : Nat) (c m x : Int32) : Int32 := match k with
  | 1 => vRuns w c x * 2 - vMoves w c m 1
  | 6 => vRuns w c x * 2 - vMoves w c m 1 + m
  | _ => vRuns w c x * 2
def bChills (k w : Nat) : List Int32 := match k with
  | 1 => 20 :: ((11 :: bRuns w) ++ bMoves w)
  | 6 => 70 :: 20 :: ((11 :: bRuns w) ++ bMoves w)
  | _ => 11 :: bRuns w
def vTells (k w : Nat) (c m x : Int32) : Int32 := match k with
  | 4 => (vChills w w c m x ^^^ vMoves w c m x) - vRuns w c 2
  | 6 => vChills w w c m x - (vChills w w c m x ^^^ vMoves w c m x)
  | _ => vChills w w c m x ^^^ vMoves w c m x
def bTells (k w : Nat) : List Int32 := match k with
  | 4 => 50 :: ((13 :: (bChills w w ++ bMoves w)) ++ bRuns w)
  | 6 => 71 :: (bChills w w ++ (13 :: (bChills w w ++ bMoves w)))
  | _ => 13 :: (bChills w w ++ bMoves w)
theorem bRuns_le (k : Nat) : (bRuns k).length ≤ 3 := by unfold bRuns; split <;> decide
theorem bMoves_le (k : Nat) : (bMoves k).length ≤ 2 := by unfold bMoves; split <;> decide
theorem bChills_le (k w : Nat) : (bChills k w).length ≤ 8 := by
  have h1 := bRuns_le w
  have h2 := bMoves_le w
  unfold bChills
  split <;> simp only [List.length_cons, List.length_append] <;> omega
theorem bTells_le (k w : Nat) : (bTells k w).length ≤ 22 := by
  have h1 := bRuns_le w
  have h2 := bMoves_le w
  have h3 := bChills_le w w
  unfold bTells
  split <;> simp only [List.length_cons, List.length_append] <;> omega
set_option maxHeartbeats 4000000 in
set_option maxRecDepth 100000 in
theorem r_ran2 {κ : Wc} {l : Launch} {h : Mm} {n : Nat} {o : Nat} {b : Int32} {tn : Nat} {tr : Nat → Int32} {im : Int32} {ba : Int32} {at_ : Int32} {sz : Int32} {fa : Int32} {op : Int32} {rm : Int32} {ti : Int32} {wh : Int32} (K0 : h o = some (.inr (12, [.ref (o + 1), .ref (o + 2), .ref (o + 3), .int im, .ref (o + 4), .int ba, .int at_, .int sz, .int fa, .int op, .ref (o + 5), .ref (o + 6), .int rm, .ref (o + 7), .ref (o + 8), .int ti, .ref (o + 9), .int (nI tn), .int wh, .ref (o + 10), .ref (o + 11), .ref (o + 12), .ref (o + 13)]))) (K1 : h (o + 9) = arI κ 40 tr) (p1 : tn < 40) : Con κ l yX12_ran cX12_ran 2 none 1 0 0 [.ref o, .int b] h n (fun q h' n' => q = none ∧ h' = va_up (va_up h o (some (.inr (12, [.ref (o + 1), .ref (o + 2), .ref (o + 3), .int im, .ref (o + 4), .int ba, .int at_, .int sz, .int fa, .int op, .ref (o + 5), .ref (o + 6), .int rm, .ref (o + 7), .ref (o + 8), .int ti, .ref (o + 9), .int (nI (tn + 1)), .int wh, .ref (o + 10), .ref (o + 11), .ref (o + 12), .ref (o + 13)])))) (o + 9) (arI κ 40 (upd tr tn b)) ∧ n' = n) := by
  refine Con.of mk_X12_ran (Nat.le_of_ble_eq_true rfl) (fun G hG X E => ?_)
  subst hG
  refine z_ls (ls' := [(0, .ref o), (1, .int b)]) rfl ?_
  refine z_aload_n X 0 dX12_ran_0 rfl ?_
  refine z_get X fl_X12_241_12 dX12_ran_1 K0 rfl ?_
  refine z_bipush (v := 40) X dX12_ran_4 (by decide) ?_
  refine z_icmp_ge X 29 dX12_ran_6 (by decide) (fun zc1 => ?_) (fun zc1 => ?_)
  · try replace zc1 := (nI_leI (a := 40) (b := tn) (by omega) (by omega)).mp zc1
    omega
  · try replace zc1 := mt (nI_leI (a := 40) (b := tn) (by omega) (by omega)).mpr zc1
    refine z_aload_n X 0 dX12_ran_9 rfl ?_
    refine z_get X fl_X12_34_12 dX12_ran_10 K0 rfl ?_
    refine z_aload_n X 0 dX12_ran_13 rfl ?_
    refine z_get X fl_X12_241_12 dX12_ran_14 K0 rfl ?_
    refine z_iload_n X 1 dX12_ran_17 rfl ?_
    refine z_iast X dX12_ran_18 K1 (vp_in_nI (n := tn) (by omega) (by omega)) (congrArg (fun z => va_up h (o + 9) (arI κ 40 (upd tr z b))) (nI_clamp (n := tn) (by omega))) ?_
    obtain ⟨zh2, ze3⟩ : ∃ z : Mm, z = va_up h (o + 9) (arI κ 40 (upd tr tn b)) := ⟨_, rfl⟩
    refine z_heap (h' := zh2) ze3.symm ?_
    have zK4 := up_off ze3 (show o ≠ o + 9 by omega) K0
    have zK5 := up_at ze3
    refine z_aload_n X 0 dX12_ran_19 rfl ?_
    refine z_dup X dX12_ran_20 rfl ?_
    refine z_get X fl_X12_241_12 dX12_ran_21 zK4 rfl ?_
    refine z_iconst (v := 1) X dX12_ran_24 (by decide) ?_
    refine z_iadd X dX12_ran_25 ?_
    refine z_toe (y := nI (tn + 1)) (nI_add (tn) (1)) ?_
    refine z_put X fp_X12_241_12 dX12_ran_26 zK4 (by first | rfl | decide) (by first | rfl | decide) (Nat.le_of_ble_eq_true rfl) rfl ?_
    obtain ⟨zh6, ze7⟩ : ∃ z : Mm, z = va_up zh2 o (some (.inr (12, [.ref (o + 1), .ref (o + 2), .ref (o + 3), .int im, .ref (o + 4), .int ba, .int at_, .int sz, .int fa, .int op, .ref (o + 5), .ref (o + 6), .int rm, .ref (o + 7), .ref (o + 8), .int ti, .ref (o + 9), .int (nI (tn + 1)), .int wh, .ref (o + 10), .ref (o + 11), .ref (o + 12), .ref (o + 13)]))) := ⟨_, rfl⟩
    refine z_heap (h' := zh6) ze7.symm ?_
    have zK8 := up_at ze7
    have zK9 := up_off ze7 (show o + 9 ≠ o by omega) zK5
    refine z_vret X E dX12_ran_29 (by omega) (by omega) ⟨?_, ?_, ?_⟩
    · rfl
    · first | (rw [ze7, ze3]; done) | (rw [ze7, ze3]; simp only [up_up]; done) | (rw [ze7, ze3]; funext zz; simp only [va_up]; (repeat' split) <;> first | rfl | (exfalso; omega) | simp_all)
    · rfl
set_option maxHeartbeats 4000000 in
set_option maxRecDepth 100000 in
theorem r_runs_0 {κ : Wc} {l : Launch} {h : Mm} {n : Nat} {o : Nat} {x : Int32} {tn : Nat} {dd : Nat} {w : Nat} {m : Int32} {d : Nat → Int32} {tr : Nat → Int32} {who : Nat} {im : Int32} {ba : Int32} {at_ : Int32} {sz : Int32} {fa : Int32} {op : Int32} {rm : Int32} {ti : Int32} (K0 : h o = some (.inr (12, [.ref (o + 1), .ref (o + 2), .ref (o + 3), .int im, .ref (o + 4), .int ba, .int at_, .int sz, .int fa, .int op, .ref (o + 5), .ref (o + 6), .int rm, .ref (o + 7), .ref (o + 8), .int ti, .ref (o + 9), .int (nI tn), .int (nI who), .ref (o + 10), .ref (o + 11), .ref (o + 12), .ref (o + 13)]))) (K1 : h (o + 9) = arI κ 40 tr) (K2 : h (o + 1) = arI κ 340 d) (p1 : who < 6) (p2 : w ≤ 6) (hw : d (20 + 2 * who) = nI w) (hm : d (20 + 2 * who + 1) = m) (hd : 2 ≤ dd) (ht : tn + 4 ≤ 40) : Con κ l yX12_runs cX12_runs 3 (some .int) dd 0 0 [.ref o, .int 0, .int x] h n (fun q h' n' => q = some (.int (vRuns 0 (nI who) x)) ∧ h' = va_up (va_up h o (some (.inr (12, [.ref (o + 1), .ref (o + 2), .ref (o + 3), .int im, .ref (o + 4), .int ba, .int at_, .int sz, .int fa, .int op, .ref (o + 5), .ref (o + 6), .int rm, .ref (o + 7), .ref (o + 8), .int ti, .ref (o + 9), .int (nI (tn + (bRuns 0).length)), .int (nI who), .ref (o + 10), .ref (o + 11), .ref (o + 12), .ref (o + 13)])))) (o + 9) (arI κ 40 (wrs tr tn (bRuns 0))) ∧ n' = n) := by
  refine Con.of mk_X12_runs (Nat.le_of_ble_eq_true rfl) (fun G hG X E => ?_)
  subst hG
  refine z_ls (ls' := [(0, .ref o), (1, .int 0), (2, .int x)]) rfl ?_
  have hb1 := bRuns_le w
  have hb2 := bMoves_le w
  have hb3 := bChills_le w w
  have hbr0 := bRuns_le 0
  have hbm0 := bMoves_le 0
  have hbc0 := bChills_le 0 w
  have hbt0 := bTells_le 0 w
  have hbr1 := bRuns_le 1
  have hbm1 := bMoves_le 1
  have hbc1 := bChills_le 1 w
  have hbt1 := bTells_le 1 w
  have hbr2 := bRuns_le 2
  have hbm2 := bMoves_le 2
  have hbc2 := bChills_le 2 w
  have hbt2 := bTells_le 2 w
  have hbr3 := bRuns_le 3
  have hbm3 := bMoves_le 3
  have hbc3 := bChills_le 3 w
  have hbt3 := bTells_le 3 w
  have hbr4 := bRuns_le 4
  have hbm4 := bMoves_le 4
  have hbc4 := bChills_le 4 w
  have hbt4 := bTells_le 4 w
  have hbr5 := bRuns_le 5
  have hbm5 := bMoves_le 5
  have hbc5 := bChills_le 5 w
  have hbt5 := bTells_le 5 w
  have hbr6 := bRuns_le 6
  have hbm6 := bMoves_le 6
  have hbc6 := bChills_le 6 w
  have hbt6 := bTells_le 6 w
  refine z_iload_n X 1 dX12_runs_0 rfl ?_
  refine z_tableIn (off := 31) X 32 dX12_runs_1 (by decide) (by decide) (by decide) (by decide) ?_
  refine z_aload_n X 0 dX12_runs_32 rfl ?_
  refine z_bipush (v := 10) X dX12_runs_33 (by decide) ?_
  refine z_callV X (r_ran2 (κ := κ) (n := n) (o := (o)) (b := (10)) (tn := (tn)) (tr := (tr)) (im := (im)) (ba := (ba)) (at_ := (at_)) (sz := (sz)) (fa := (fa)) (op := (op)) (rm := (rm)) (ti := (ti)) (wh := (nI who)) K0 K1 (by first | assumption | omega)) mk_X12_ran dX12_runs_35 wd_1303 wd_1305 wd_52 rfl K0 rfl rfl rfl (Nat.le_of_ble_eq_true rfl) (by omega) (Nat.le_of_ble_eq_true rfl) (by omega) (by omega) (fun q zh1 zm3 zp4 => ?_)
  obtain ⟨rfl, ze2, zn5⟩ := zp4
  subst zm3
  refine z_st (st' := []) rfl ?_
  have zK6 : zh1 o = some (.inr (12, [.ref (o + 1), .ref (o + 2), .ref (o + 3), .int im, .ref (o + 4), .int ba, .int at_, .int sz, .int fa, .int op, .ref (o + 5), .ref (o + 6), .int rm, .ref (o + 7), .ref (o + 8), .int ti, .ref (o + 9), .int (nI (tn + 1)), .int ((nI who)), .ref (o + 10), .ref (o + 11), .ref (o + 12), .ref (o + 13)])) := by rw [ze2]; rw [va_up_ne _ _ (show o ≠ o + 9 by omega)]; exact va_up_self _ _ _
  have zK7 : zh1 (o + 9) = arI κ 40 (upd tr tn 10) := by rw [ze2]; exact va_up_self _ _ _
  have zK8 : zh1 (o + 1) = arI κ 340 d := by rw [ze2]; rw [va_up_ne _ _ (show o + 1 ≠ o + 9 by omega)]; rw [va_up_ne _ _ (show o + 1 ≠ o by omega)]; exact K2
  refine z_iload_n X 2 dX12_runs_38 rfl ?_
  refine z_aload_n X 0 dX12_runs_39 rfl ?_
  refine z_get X fl_X12_244_12 dX12_runs_40 zK6 rfl ?_
  refine z_iadd X dX12_runs_43 ?_
  refine z_iret X E dX12_runs_44 (by omega) (by omega) ⟨?_, ?_, ?_⟩
  · rfl
  · rw [show wrs tr tn (bRuns 0) = upd tr tn 10 from (by first | rfl | exact wrs_app _ _ _ _), show tn + (bRuns 0).length = tn + 1 from (by first | rfl | (simp only [bRuns, bMoves, bChills, bTells, List.length_cons, List.length_append, List.length_nil]; omega))]; funext zz; by_cases zq1 : zz = o + 9; (rw [zq1, va_up_self]; exact zK7); by_cases zq0 : zz = o; (rw [zq0, va_up_ne _ _ (show o ≠ o + 9 by omega), va_up_self]; exact zK6); rw [va_up_ne _ _ zq1, va_up_ne _ _ zq0]; rw [ze2]; simp only [va_up, if_neg zq0, if_neg zq1]
  · rfl
set_option maxHeartbeats 4000000 in
set_option maxRecDepth 100000 in
theorem r_runs_1 {κ : Wc} {l : Launch} {h : Mm} {n : Nat} {o : Nat} {x : Int32} {tn : Nat} {dd : Nat} {w : Nat} {m : Int32} {d : Nat → Int32} {tr : Nat → Int32} {who : Nat} {im : Int32} {ba : Int32} {at_ : Int32} {sz : Int32} {fa : Int32} {op : Int32} {rm : Int32} {ti : Int32} (K0 : h o = some (.inr (12, [.ref (o + 1), .ref (o + 2), .ref (o + 3), .int im, .ref (o + 4), .int ba, .int at_, .int sz, .int fa, .int op, .ref (o + 5), .ref (o + 6), .int rm, .ref (o + 7), .ref (o + 8), .int ti, .ref (o + 9), .int (nI tn), .int (nI who), .ref (o + 10), .ref (o + 11), .ref (o + 12), .ref (o + 13)]))) (K1 : h (o + 9) = arI κ 40 tr) (K2 : h (o + 1) = arI κ 340 d) (p1 : who < 6) (p2 : w ≤ 6) (hw : d (20 + 2 * who) = nI w) (hm : d (20 + 2 * who + 1) = m) (hd : 3 ≤ dd) (ht : tn + 5 ≤ 40) : Con κ l yX12_runs cX12_runs 3 (some .int) dd 0 0 [.ref o, .int 1, .int x] h n (fun q h' n' => q = some (.int (vRuns 1 (nI who) x)) ∧ h' = va_up (va_up h o (some (.inr (12, [.ref (o + 1), .ref (o + 2), .ref (o + 3), .int im, .ref (o + 4), .int ba, .int at_, .int sz, .int fa, .int op, .ref (o + 5), .ref (o + 6), .int rm, .ref (o + 7), .ref (o + 8), .int ti, .ref (o + 9), .int (nI (tn + (bRuns 1).length)), .int (nI who), .ref (o + 10), .ref (o + 11), .ref (o + 12), .ref (o + 13)])))) (o + 9) (arI κ 40 (wrs tr tn (bRuns 1))) ∧ n' = n) := by
  refine Con.of mk_X12_runs (Nat.le_of_ble_eq_true rfl) (fun G hG X E => ?_)
  subst hG
  refine z_ls (ls' := [(0, .ref o), (1, .int 1), (2, .int x)]) rfl ?_
  have hb1 := bRuns_le w
  have hb2 := bMoves_le w
  have hb3 := bChills_le w w
  have hbr0 := bRuns_le 0
  have hbm0 := bMoves_le 0
  have hbc0 := bChills_le 0 w
  have hbt0 := bTells_le 0 w
  have hbr1 := bRuns_le 1
  have hbm1 := bMoves_le 1
  have hbc1 := bChills_le 1 w
  have hbt1 := bTells_le 1 w
  have hbr2 := bRuns_le 2
  have hbm2 := bMoves_le 2
  have hbc2 := bChills_le 2 w
  have hbt2 := bTells_le 2 w
  have hbr3 := bRuns_le 3
  have hbm3 := bMoves_le 3
  have hbc3 := bChills_le 3 w
  have hbt3 := bTells_le 3 w
  have hbr4 := bRuns_le 4
  have hbm4 := bMoves_le 4
  have hbc4 := bChills_le 4 w
  have hbt4 := bTells_le 4 w
  have hbr5 := bRuns_le 5
  have hbm5 := bMoves_le 5
  have hbc5 := bChills_le 5 w
  have hbt5 := bTells_le 5 w
  have hbr6 := bRuns_le 6
  have hbm6 := bMoves_le 6
  have hbc6 := bChills_le 6 w
  have hbt6 := bTells_le 6 w
  refine z_iload_n X 1 dX12_runs_0 rfl ?_
  refine z_tableIn (off := 80) X 81 dX12_runs_1 (by decide) (by decide) (by decide) (by decide) ?_
  refine z_aload_n X 0 dX12_runs_81 rfl ?_
  refine z_iload_n X 1 dX12_runs_82 rfl ?_
  refine z_callS X (r_above (κ := κ) (n := n) (k := (1))  ) mk_X12_above dX12_runs_83 wd_1307 wd_1308 rfl rfl (Nat.le_of_ble_eq_true rfl) (by omega) (Nat.le_of_ble_eq_true rfl) (by omega) (by omega) (fun q zh1 zm3 zp4 => ?_)
  obtain ⟨rfl, ze2, zn5⟩ := zp4
  subst zm3
  subst zh1
  refine z_st (st' := [.int (aboveR 1), .ref o]) rfl ?_
  refine z_toe (y := 0) (by decide) ?_
  refine z_iload_n X 2 dX12_runs_86 rfl ?_
  refine z_callV X (r_runs_0 (κ := κ) (n := n) (o := (o)) (x := (x)) (tn := (tn)) (dd := (dd - 1)) (w := (w)) (m := (m)) (d := (d)) (tr := (tr)) (who := (who)) (im := (im)) (ba := (ba)) (at_ := (at_)) (sz := (sz)) (fa := (fa)) (op := (op)) (rm := (rm)) (ti := (ti)) K0 K1 K2 (p1) (p2) (hw) (hm) (by first | assumption | omega) (by first | assumption | omega)) mk_X12_runs dX12_runs_87 wd_1299 wd_1301 wd_51 rfl K0 rfl rfl rfl (Nat.le_of_ble_eq_true rfl) (by omega) (Nat.le_of_ble_eq_true rfl) (by omega) (by omega) (fun q zh6 zm8 zp9 => ?_)
  obtain ⟨rfl, ze7, zn10⟩ := zp9
  subst zm8
  refine z_st (st' := [.int (vRuns 0 (nI who) x)]) rfl ?_
  have zK11 : zh6 o = some (.inr (12, [.ref (o + 1), .ref (o + 2), .ref (o + 3), .int im, .ref (o + 4), .int ba, .int at_, .int sz, .int fa, .int op, .ref (o + 5), .ref (o + 6), .int rm, .ref (o + 7), .ref (o + 8), .int ti, .ref (o + 9), .int (nI (tn + (bRuns 0).length)), .int (nI who), .ref (o + 10), .ref (o + 11), .ref (o + 12), .ref (o + 13)])) := by rw [ze7]; rw [va_up_ne _ _ (show o ≠ o + 9 by omega)]; exact va_up_self _ _ _
  have zK12 : zh6 (o + 9) = arI κ 40 (wrs tr tn (bRuns 0)) := by rw [ze7]; exact va_up_self _ _ _
  have zK13 : zh6 (o + 1) = arI κ 340 d := by rw [ze7]; rw [va_up_ne _ _ (show o + 1 ≠ o + 9 by omega)]; rw [va_up_ne _ _ (show o + 1 ≠ o by omega)]; exact K2
  refine z_iret X E dX12_runs_90 (by omega) (by omega) ⟨?_, ?_, ?_⟩
  · rfl
  · rw [show wrs tr tn (bRuns 1) = wrs tr tn (bRuns 0) from (by first | rfl | exact wrs_app _ _ _ _), show tn + (bRuns 1).length = tn + (bRuns 0).length from (by first | rfl | (simp only [bRuns, bMoves, bChills, bTells, List.length_cons, List.length_append, List.length_nil]; omega))]; funext zz; by_cases zq1 : zz = o + 9; (rw [zq1, va_up_self]; exact zK12); by_cases zq0 : zz = o; (rw [zq0, va_up_ne _ _ (show o ≠ o + 9 by omega), va_up_self]; exact zK11); rw [va_up_ne _ _ zq1, va_up_ne _ _ zq0]; rw [ze7]; simp only [va_up, if_neg zq0, if_neg zq1]
  · rfl
set_option maxHeartbeats 4000000 in
set_option maxRecDepth 100000 in
theorem r_runs_2 {κ : Wc} {l : Launch} {h : Mm} {n : Nat} {o : Nat} {x : Int32} {tn : Nat} {dd : Nat} {w : Nat} {m : Int32} {d : Nat → Int32} {tr : Nat → Int32} {who : Nat} {im : Int32} {ba : Int32} {at_ : Int32} {sz : Int32} {fa : Int32} {op : Int32} {rm : Int32} {ti : Int32} (K0 : h o = some (.inr (12, [.ref (o + 1), .ref (o + 2), .ref (o + 3), .int im, .ref (o + 4), .int ba, .int at_, .int sz, .int fa, .int op, .ref (o + 5), .ref (o + 6), .int rm, .ref (o + 7), .ref (o + 8), .int ti, .ref (o + 9), .int (nI tn), .int (nI who), .ref (o + 10), .ref (o + 11), .ref (o + 12), .ref (o + 13)]))) (K1 : h (o + 9) = arI κ 40 tr) (K2 : h (o + 1) = arI κ 340 d) (p1 : who < 6) (p2 : w ≤ 6) (hw : d (20 + 2 * who) = nI w) (hm : d (20 + 2 * who + 1) = m) (hd : 3 ≤ dd) (ht : tn + 5 ≤ 40) : Con κ l yX12_runs cX12_runs 3 (some .int) dd 0 0 [.ref o, .int 2, .int x] h n (fun q h' n' => q = some (.int (vRuns 2 (nI who) x)) ∧ h' = va_up (va_up h o (some (.inr (12, [.ref (o + 1), .ref (o + 2), .ref (o + 3), .int im, .ref (o + 4), .int ba, .int at_, .int sz, .int fa, .int op, .ref (o + 5), .ref (o + 6), .int rm, .ref (o + 7), .ref (o + 8), .int ti, .ref (o + 9), .int (nI (tn + (bRuns 2).length)), .int (nI who), .ref (o + 10), .ref (o + 11), .ref (o + 12), .ref (o + 13)])))) (o + 9) (arI κ 40 (wrs tr tn (bRuns 2))) ∧ n' = n) := by
  refine Con.of mk_X12_runs (Nat.le_of_ble_eq_true rfl) (fun G hG X E => ?_)
  subst hG
  refine z_ls (ls' := [(0, .ref o), (1, .int 2), (2, .int x)]) rfl ?_
  have hb1 := bRuns_le w
  have hb2 := bMoves_le w
  have hb3 := bChills_le w w
  have hbr0 := bRuns_le 0
  have hbm0 := bMoves_le 0
  have hbc0 := bChills_le 0 w
  have hbt0 := bTells_le 0 w
  have hbr1 := bRuns_le 1
  have hbm1 := bMoves_le 1
  have hbc1 := bChills_le 1 w
  have hbt1 := bTells_le 1 w
  have hbr2 := bRuns_le 2
  have hbm2 := bMoves_le 2
  have hbc2 := bChills_le 2 w
  have hbt2 := bTells_le 2 w
  have hbr3 := bRuns_le 3
  have hbm3 := bMoves_le 3
  have hbc3 := bChills_le 3 w
  have hbt3 := bTells_le 3 w
  have hbr4 := bRuns_le 4
  have hbm4 := bMoves_le 4
  have hbc4 := bChills_le 4 w
  have hbt4 := bTells_le 4 w
  have hbr5 := bRuns_le 5
  have hbm5 := bMoves_le 5
  have hbc5 := bChills_le 5 w
  have hbt5 := bTells_le 5 w
  have hbr6 := bRuns_le 6
  have hbm6 := bMoves_le 6
  have hbc6 := bChills_le 6 w
  have hbt6 := bTells_le 6 w
  refine z_iload_n X 1 dX12_runs_0 rfl ?_
  refine z_tableIn (off := 44) X 45 dX12_runs_1 (by decide) (by decide) (by decide) (by decide) ?_
  refine z_aload_n X 0 dX12_runs_45 rfl ?_
  refine z_bipush (v := 30) X dX12_runs_46 (by decide) ?_
  refine z_callV X (r_ran2 (κ := κ) (n := n) (o := (o)) (b := (30)) (tn := (tn)) (tr := (tr)) (im := (im)) (ba := (ba)) (at_ := (at_)) (sz := (sz)) (fa := (fa)) (op := (op)) (rm := (rm)) (ti := (ti)) (wh := (nI who)) K0 K1 (by first | assumption | omega)) mk_X12_ran dX12_runs_48 wd_1303 wd_1305 wd_52 rfl K0 rfl rfl rfl (Nat.le_of_ble_eq_true rfl) (by omega) (Nat.le_of_ble_eq_true rfl) (by omega) (by omega) (fun q zh1 zm3 zp4 => ?_)
  obtain ⟨rfl, ze2, zn5⟩ := zp4
  subst zm3
  refine z_st (st' := []) rfl ?_
  have zK6 : zh1 o = some (.inr (12, [.ref (o + 1), .ref (o + 2), .ref (o + 3), .int im, .ref (o + 4), .int ba, .int at_, .int sz, .int fa, .int op, .ref (o + 5), .ref (o + 6), .int rm, .ref (o + 7), .ref (o + 8), .int ti, .ref (o + 9), .int (nI (tn + 1)), .int ((nI who)), .ref (o + 10), .ref (o + 11), .ref (o + 12), .ref (o + 13)])) := by rw [ze2]; rw [va_up_ne _ _ (show o ≠ o + 9 by omega)]; exact va_up_self _ _ _
  have zK7 : zh1 (o + 9) = arI κ 40 (upd tr tn 30) := by rw [ze2]; exact va_up_self _ _ _
  have zK8 : zh1 (o + 1) = arI κ 340 d := by rw [ze2]; rw [va_up_ne _ _ (show o + 1 ≠ o + 9 by omega)]; rw [va_up_ne _ _ (show o + 1 ≠ o by omega)]; exact K2
  refine z_aload_n X 0 dX12_runs_51 rfl ?_
  refine z_iconst (v := 2) X dX12_runs_52 (by decide) ?_
  refine z_callS X (r_above (κ := κ) (n := n) (k := (2))  ) mk_X12_above dX12_runs_53 wd_1307 wd_1308 rfl rfl (Nat.le_of_ble_eq_true rfl) (by omega) (Nat.le_of_ble_eq_true rfl) (by omega) (by omega) (fun q zh9 zm11 zp12 => ?_)
  obtain ⟨rfl, ze10, zn13⟩ := zp12
  subst zm11
  subst zh9
  refine z_st (st' := [.int (aboveR 2), .ref o]) rfl ?_
  refine z_toe (y := 0) (by decide) ?_
  refine z_iload_n X 2 dX12_runs_56 rfl ?_
  refine z_callV X (r_runs_0 (κ := κ) (n := n) (o := (o)) (x := (x)) (tn := (tn + 1)) (dd := (dd - 1)) (w := (w)) (m := (m)) (d := (d)) (tr := (upd tr tn 30)) (who := (who)) (im := (im)) (ba := (ba)) (at_ := (at_)) (sz := (sz)) (fa := (fa)) (op := (op)) (rm := (rm)) (ti := (ti)) zK6 zK7 zK8 (p1) (p2) (hw) (hm) (by first | assumption | omega) (by first | assumption | omega)) mk_X12_runs dX12_runs_57 wd_1299 wd_1301 wd_51 rfl zK6 rfl rfl rfl (Nat.le_of_ble_eq_true rfl) (by omega) (Nat.le_of_ble_eq_true rfl) (by omega) (by omega) (fun q zh14 zm16 zp17 => ?_)
  obtain ⟨rfl, ze15, zn18⟩ := zp17
  subst zm16
  refine z_st (st' := [.int (vRuns 0 (nI who) x)]) rfl ?_
  have zK19 : zh14 o = some (.inr (12, [.ref (o + 1), .ref (o + 2), .ref (o + 3), .int im, .ref (o + 4), .int ba, .int at_, .int sz, .int fa, .int op, .ref (o + 5), .ref (o + 6), .int rm, .ref (o + 7), .ref (o + 8), .int ti, .ref (o + 9), .int (nI ((tn + 1) + (bRuns 0).length)), .int (nI who), .ref (o + 10), .ref (o + 11), .ref (o + 12), .ref (o + 13)])) := by rw [ze15]; rw [va_up_ne _ _ (show o ≠ o + 9 by omega)]; exact va_up_self _ _ _
  have zK20 : zh14 (o + 9) = arI κ 40 (wrs (upd tr tn 30) (tn + 1) (bRuns 0)) := by rw [ze15]; exact va_up_self _ _ _
  have zK21 : zh14 (o + 1) = arI κ 340 d := by rw [ze15]; rw [va_up_ne _ _ (show o + 1 ≠ o + 9 by omega)]; rw [va_up_ne _ _ (show o + 1 ≠ o by omega)]; exact zK8
  refine z_iconst (v := 3) X dX12_runs_60 (by decide) ?_
  refine z_imul X dX12_runs_61 ?_
  refine z_iret X E dX12_runs_62 (by omega) (by omega) ⟨?_, ?_, ?_⟩
  · rfl
  · rw [show wrs tr tn (bRuns 2) = wrs (upd tr tn 30) (tn + 1) (bRuns 0) from (by first | rfl | exact wrs_app _ _ _ _), show tn + (bRuns 2).length = (tn + 1) + (bRuns 0).length from (by first | rfl | (simp only [bRuns, bMoves, bChills, bTells, List.length_cons, List.length_append, List.length_nil]; omega))]; funext zz; by_cases zq1 : zz = o + 9; (rw [zq1, va_up_self]; exact zK20); by_cases zq0 : zz = o; (rw [zq0, va_up_ne _ _ (show o ≠ o + 9 by omega), va_up_self]; exact zK19); rw [va_up_ne _ _ zq1, va_up_ne _ _ zq0]; rw [ze15, ze2]; simp only [va_up, if_neg zq0, if_neg zq1]
  · rfl
set_option maxHeartbeats 4000000 in
set_option maxRecDepth 100000 in
theorem r_runs_3 {κ : Wc} {l : Launch} {h : Mm} {n : Nat} {o : Nat} {x : Int32} {tn : Nat} {dd : Nat} {w : Nat} {m : Int32} {d : Nat → Int32} {tr : Nat → Int32} {who : Nat} {im : Int32} {ba : Int32} {at_ : Int32} {sz : Int32} {fa : Int32} {op : Int32} {rm : Int32} {ti : Int32} (K0 : h o = some (.inr (12, [.ref (o + 1), .ref (o + 2), .ref (o + 3), .int im, .ref (o + 4), .int ba, .int at_, .int sz, .int fa, .int op, .ref (o + 5), .ref (o + 6), .int rm, .ref (o + 7), .ref (o + 8), .int ti, .ref (o + 9), .int (nI tn), .int (nI who), .ref (o + 10), .ref (o + 11), .ref (o + 12), .ref (o + 13)]))) (K1 : h (o + 9) = arI κ 40 tr) (K2 : h (o + 1) = arI κ 340 d) (p1 : who < 6) (p2 : w ≤ 6) (hw : d (20 + 2 * who) = nI w) (hm : d (20 + 2 * who + 1) = m) (hd : 4 ≤ dd) (ht : tn + 6 ≤ 40) : Con κ l yX12_runs cX12_runs 3 (some .int) dd 0 0 [.ref o, .int 3, .int x] h n (fun q h' n' => q = some (.int (vRuns 3 (nI who) x)) ∧ h' = va_up (va_up h o (some (.inr (12, [.ref (o + 1), .ref (o + 2), .ref (o + 3), .int im, .ref (o + 4), .int ba, .int at_, .int sz, .int fa, .int op, .ref (o + 5), .ref (o + 6), .int rm, .ref (o + 7), .ref (o + 8), .int ti, .ref (o + 9), .int (nI (tn + (bRuns 3).length)), .int (nI who), .ref (o + 10), .ref (o + 11), .ref (o + 12), .ref (o + 13)])))) (o + 9) (arI κ 40 (wrs tr tn (bRuns 3))) ∧ n' = n) := by
  refine Con.of mk_X12_runs (Nat.le_of_ble_eq_true rfl) (fun G hG X E => ?_)
  subst hG
  refine z_ls (ls' := [(0, .ref o), (1, .int 3), (2, .int x)]) rfl ?_
  have hb1 := bRuns_le w
  have hb2 := bMoves_le w
  have hb3 := bChills_le w w
  have hbr0 := bRuns_le 0
  have hbm0 := bMoves_le 0
  have hbc0 := bChills_le 0 w
  have hbt0 := bTells_le 0 w
  have hbr1 := bRuns_le 1
  have hbm1 := bMoves_le 1
  have hbc1 := bChills_le 1 w
  have hbt1 := bTells_le 1 w
  have hbr2 := bRuns_le 2
  have hbm2 := bMoves_le 2
  have hbc2 := bChills_le 2 w
  have hbt2 := bTells_le 2 w
  have hbr3 := bRuns_le 3
  have hbm3 := bMoves_le 3
  have hbc3 := bChills_le 3 w
  have hbt3 := bTells_le 3 w
  have hbr4 := bRuns_le 4
  have hbm4 := bMoves_le 4
  have hbc4 := bChills_le 4 w
  have hbt4 := bTells_le 4 w
  have hbr5 := bRuns_le 5
  have hbm5 := bMoves_le 5
  have hbc5 := bChills_le 5 w
  have hbt5 := bTells_le 5 w
  have hbr6 := bRuns_le 6
  have hbm6 := bMoves_le 6
  have hbc6 := bChills_le 6 w
  have hbt6 := bTells_le 6 w
  refine z_iload_n X 1 dX12_runs_0 rfl ?_
  refine z_tableIn (off := 62) X 63 dX12_runs_1 (by decide) (by decide) (by decide) (by decide) ?_
  refine z_aload_n X 0 dX12_runs_63 rfl ?_
  refine z_bipush (v := 41) X dX12_runs_64 (by decide) ?_
  refine z_callV X (r_ran2 (κ := κ) (n := n) (o := (o)) (b := (41)) (tn := (tn)) (tr := (tr)) (im := (im)) (ba := (ba)) (at_ := (at_)) (sz := (sz)) (fa := (fa)) (op := (op)) (rm := (rm)) (ti := (ti)) (wh := (nI who)) K0 K1 (by first | assumption | omega)) mk_X12_ran dX12_runs_66 wd_1303 wd_1305 wd_52 rfl K0 rfl rfl rfl (Nat.le_of_ble_eq_true rfl) (by omega) (Nat.le_of_ble_eq_true rfl) (by omega) (by omega) (fun q zh1 zm3 zp4 => ?_)
  obtain ⟨rfl, ze2, zn5⟩ := zp4
  subst zm3
  refine z_st (st' := []) rfl ?_
  have zK6 : zh1 o = some (.inr (12, [.ref (o + 1), .ref (o + 2), .ref (o + 3), .int im, .ref (o + 4), .int ba, .int at_, .int sz, .int fa, .int op, .ref (o + 5), .ref (o + 6), .int rm, .ref (o + 7), .ref (o + 8), .int ti, .ref (o + 9), .int (nI (tn + 1)), .int ((nI who)), .ref (o + 10), .ref (o + 11), .ref (o + 12), .ref (o + 13)])) := by rw [ze2]; rw [va_up_ne _ _ (show o ≠ o + 9 by omega)]; exact va_up_self _ _ _
  have zK7 : zh1 (o + 9) = arI κ 40 (upd tr tn 41) := by rw [ze2]; exact va_up_self _ _ _
  have zK8 : zh1 (o + 1) = arI κ 340 d := by rw [ze2]; rw [va_up_ne _ _ (show o + 1 ≠ o + 9 by omega)]; rw [va_up_ne _ _ (show o + 1 ≠ o by omega)]; exact K2
  refine z_aload_n X 0 dX12_runs_69 rfl ?_
  refine z_iconst (v := 3) X dX12_runs_70 (by decide) ?_
  refine z_callS X (r_above (κ := κ) (n := n) (k := (3))  ) mk_X12_above dX12_runs_71 wd_1307 wd_1308 rfl rfl (Nat.le_of_ble_eq_true rfl) (by omega) (Nat.le_of_ble_eq_true rfl) (by omega) (by omega) (fun q zh9 zm11 zp12 => ?_)
  obtain ⟨rfl, ze10, zn13⟩ := zp12
  subst zm11
  subst zh9
  refine z_st (st' := [.int (aboveR 3), .ref o]) rfl ?_
  refine z_toe (y := 2) (by decide) ?_
  refine z_iload_n X 2 dX12_runs_74 rfl ?_
  refine z_iconst (v := 1) X dX12_runs_75 (by decide) ?_
  refine z_iadd X dX12_runs_76 ?_
  refine z_callV X (r_runs_2 (κ := κ) (n := n) (o := (o)) (x := (x + 1)) (tn := (tn + 1)) (dd := (dd - 1)) (w := (w)) (m := (m)) (d := (d)) (tr := (upd tr tn 41)) (who := (who)) (im := (im)) (ba := (ba)) (at_ := (at_)) (sz := (sz)) (fa := (fa)) (op := (op)) (rm := (rm)) (ti := (ti)) zK6 zK7 zK8 (p1) (p2) (hw) (hm) (by first | assumption | omega) (by first | assumption | omega)) mk_X12_runs dX12_runs_77 wd_1299 wd_1301 wd_51 rfl zK6 rfl rfl rfl (Nat.le_of_ble_eq_true rfl) (by omega) (Nat.le_of_ble_eq_true rfl) (by omega) (by omega) (fun q zh14 zm16 zp17 => ?_)
  obtain ⟨rfl, ze15, zn18⟩ := zp17
  subst zm16
  refine z_st (st' := [.int (vRuns 2 (nI who) (x + 1))]) rfl ?_
  have zK19 : zh14 o = some (.inr (12, [.ref (o + 1), .ref (o + 2), .ref (o + 3), .int im, .ref (o + 4), .int ba, .int at_, .int sz, .int fa, .int op, .ref (o + 5), .ref (o + 6), .int rm, .ref (o + 7), .ref (o + 8), .int ti, .ref (o + 9), .int (nI ((tn + 1) + (bRuns 2).length)), .int (nI who), .ref (o + 10), .ref (o + 11), .ref (o + 12), .ref (o + 13)])) := by rw [ze15]; rw [va_up_ne _ _ (show o ≠ o + 9 by omega)]; exact va_up_self _ _ _
  have zK20 : zh14 (o + 9) = arI κ 40 (wrs (upd tr tn 41) (tn + 1) (bRuns 2)) := by rw [ze15]; exact va_up_self _ _ _
  have zK21 : zh14 (o + 1) = arI κ 340 d := by rw [ze15]; rw [va_up_ne _ _ (show o + 1 ≠ o + 9 by omega)]; rw [va_up_ne _ _ (show o + 1 ≠ o by omega)]; exact zK8
  refine z_iret X E dX12_runs_80 (by omega) (by omega) ⟨?_, ?_, ?_⟩
  · rfl
  · rw [show wrs tr tn (bRuns 3) = wrs (upd tr tn 41) (tn + 1) (bRuns 2) from (by first | rfl | exact wrs_app _ _ _ _), show tn + (bRuns 3).length = (tn + 1) + (bRuns 2).length from (by first | rfl | (simp only [bRuns, bMoves, bChills, bTells, List.length_cons, List.length_append, List.length_nil]; omega))]; funext zz; by_cases zq1 : zz = o + 9; (rw [zq1, va_up_self]; exact zK20); by_cases zq0 : zz = o; (rw [zq0, va_up_ne _ _ (show o ≠ o + 9 by omega), va_up_self]; exact zK19); rw [va_up_ne _ _ zq1, va_up_ne _ _ zq0]; rw [ze15, ze2]; simp only [va_up, if_neg zq0, if_neg zq1]
  · rfl
set_option maxHeartbeats 4000000 in
set_option maxRecDepth 100000 in
theorem r_runs_4 {κ : Wc} {l : Launch} {h : Mm} {n : Nat} {o : Nat} {x : Int32} {tn : Nat} {dd : Nat} {w : Nat} {m : Int32} {d : Nat → Int32} {tr : Nat → Int32} {who : Nat} {im : Int32} {ba : Int32} {at_ : Int32} {sz : Int32} {fa : Int32} {op : Int32} {rm : Int32} {ti : Int32} (K0 : h o = some (.inr (12, [.ref (o + 1), .ref (o + 2), .ref (o + 3), .int im, .ref (o + 4), .int ba, .int at_, .int sz, .int fa, .int op, .ref (o + 5), .ref (o + 6), .int rm, .ref (o + 7), .ref (o + 8), .int ti, .ref (o + 9), .int (nI tn), .int (nI who), .ref (o + 10), .ref (o + 11), .ref (o + 12), .ref (o + 13)]))) (K1 : h (o + 9) = arI κ 40 tr) (K2 : h (o + 1) = arI κ 340 d) (p1 : who < 6) (p2 : w ≤ 6) (hw : d (20 + 2 * who) = nI w) (hm : d (20 + 2 * who + 1) = m) (hd : 5 ≤ dd) (ht : tn + 7 ≤ 40) : Con κ l yX12_runs cX12_runs 3 (some .int) dd 0 0 [.ref o, .int 4, .int x] h n (fun q h' n' => q = some (.int (vRuns 4 (nI who) x)) ∧ h' = va_up (va_up h o (some (.inr (12, [.ref (o + 1), .ref (o + 2), .ref (o + 3), .int im, .ref (o + 4), .int ba, .int at_, .int sz, .int fa, .int op, .ref (o + 5), .ref (o + 6), .int rm, .ref (o + 7), .ref (o + 8), .int ti, .ref (o + 9), .int (nI (tn + (bRuns 4).length)), .int (nI who), .ref (o + 10), .ref (o + 11), .ref (o + 12), .ref (o + 13)])))) (o + 9) (arI κ 40 (wrs tr tn (bRuns 4))) ∧ n' = n) := by
  refine Con.of mk_X12_runs (Nat.le_of_ble_eq_true rfl) (fun G hG X E => ?_)
  subst hG
  refine z_ls (ls' := [(0, .ref o), (1, .int 4), (2, .int x)]) rfl ?_
  have hb1 := bRuns_le w
  have hb2 := bMoves_le w
  have hb3 := bChills_le w w
  have hbr0 := bRuns_le 0
  have hbm0 := bMoves_le 0
  have hbc0 := bChills_le 0 w
  have hbt0 := bTells_le 0 w
  have hbr1 := bRuns_le 1
  have hbm1 := bMoves_le 1
  have hbc1 := bChills_le 1 w
  have hbt1 := bTells_le 1 w
  have hbr2 := bRuns_le 2
  have hbm2 := bMoves_le 2
  have hbc2 := bChills_le 2 w
  have hbt2 := bTells_le 2 w
  have hbr3 := bRuns_le 3
  have hbm3 := bMoves_le 3
  have hbc3 := bChills_le 3 w
  have hbt3 := bTells_le 3 w
  have hbr4 := bRuns_le 4
  have hbm4 := bMoves_le 4
  have hbc4 := bChills_le 4 w
  have hbt4 := bTells_le 4 w
  have hbr5 := bRuns_le 5
  have hbm5 := bMoves_le 5
  have hbc5 := bChills_le 5 w
  have hbt5 := bTells_le 5 w
  have hbr6 := bRuns_le 6
  have hbm6 := bMoves_le 6
  have hbc6 := bChills_le 6 w
  have hbt6 := bTells_le 6 w
  refine z_iload_n X 1 dX12_runs_0 rfl ?_
  refine z_tableOut X 81 dX12_runs_1 (by decide) (by decide) ?_
  refine z_aload_n X 0 dX12_runs_81 rfl ?_
  refine z_iload_n X 1 dX12_runs_82 rfl ?_
  refine z_callS X (r_above (κ := κ) (n := n) (k := (4))  ) mk_X12_above dX12_runs_83 wd_1307 wd_1308 rfl rfl (Nat.le_of_ble_eq_true rfl) (by omega) (Nat.le_of_ble_eq_true rfl) (by omega) (by omega) (fun q zh1 zm3 zp4 => ?_)
  obtain ⟨rfl, ze2, zn5⟩ := zp4
  subst zm3
  subst zh1
  refine z_st (st' := [.int (aboveR 4), .ref o]) rfl ?_
  refine z_toe (y := 3) (by decide) ?_
  refine z_iload_n X 2 dX12_runs_86 rfl ?_
  refine z_callV X (r_runs_3 (κ := κ) (n := n) (o := (o)) (x := (x)) (tn := (tn)) (dd := (dd - 1)) (w := (w)) (m := (m)) (d := (d)) (tr := (tr)) (who := (who)) (im := (im)) (ba := (ba)) (at_ := (at_)) (sz := (sz)) (fa := (fa)) (op := (op)) (rm := (rm)) (ti := (ti)) K0 K1 K2 (p1) (p2) (hw) (hm) (by first | assumption | omega) (by first | assumption | omega)) mk_X12_runs dX12_runs_87 wd_1299 wd_1301 wd_51 rfl K0 rfl rfl rfl (Nat.le_of_ble_eq_true rfl) (by omega) (Nat.le_of_ble_eq_true rfl) (by omega) (by omega) (fun q zh6 zm8 zp9 => ?_)
  obtain ⟨rfl, ze7, zn10⟩ := zp9
  subst zm8
  refine z_st (st' := [.int (vRuns 3 (nI who) x)]) rfl ?_
  have zK11 : zh6 o = some (.inr (12, [.ref (o + 1), .ref (o + 2), .ref (o + 3), .int im, .ref (o + 4), .int ba, .int at_, .int sz, .int fa, .int op, .ref (o + 5), .ref (o + 6), .int rm, .ref (o + 7), .ref (o + 8), .int ti, .ref (o + 9), .int (nI (tn + (bRuns 3).length)), .int (nI who), .ref (o + 10), .ref (o + 11), .ref (o + 12), .ref (o + 13)])) := by rw [ze7]; rw [va_up_ne _ _ (show o ≠ o + 9 by omega)]; exact va_up_self _ _ _
  have zK12 : zh6 (o + 9) = arI κ 40 (wrs tr tn (bRuns 3)) := by rw [ze7]; exact va_up_self _ _ _
  have zK13 : zh6 (o + 1) = arI κ 340 d := by rw [ze7]; rw [va_up_ne _ _ (show o + 1 ≠ o + 9 by omega)]; rw [va_up_ne _ _ (show o + 1 ≠ o by omega)]; exact K2
  refine z_iret X E dX12_runs_90 (by omega) (by omega) ⟨?_, ?_, ?_⟩
  · rfl
  · rw [show wrs tr tn (bRuns 4) = wrs tr tn (bRuns 3) from (by first | rfl | exact wrs_app _ _ _ _), show tn + (bRuns 4).length = tn + (bRuns 3).length from (by first | rfl | (simp only [bRuns, bMoves, bChills, bTells, List.length_cons, List.length_append, List.length_nil]; omega))]; funext zz; by_cases zq1 : zz = o + 9; (rw [zq1, va_up_self]; exact zK12); by_cases zq0 : zz = o; (rw [zq0, va_up_ne _ _ (show o ≠ o + 9 by omega), va_up_self]; exact zK11); rw [va_up_ne _ _ zq1, va_up_ne _ _ zq0]; rw [ze7]; simp only [va_up, if_neg zq0, if_neg zq1]
  · rfl
set_option maxHeartbeats 4000000 in
set_option maxRecDepth 100000 in
theorem r_runs_5 {κ : Wc} {l : Launch} {h : Mm} {n : Nat} {o : Nat} {x : Int32} {tn : Nat} {dd : Nat} {w : Nat} {m : Int32} {d : Nat → Int32} {tr : Nat → Int32} {who : Nat} {im : Int32} {ba : Int32} {at_ : Int32} {sz : Int32} {fa : Int32} {op : Int32} {rm : Int32} {ti : Int32} (K0 : h o = some (.inr (12, [.ref (o + 1), .ref (o + 2), .ref (o + 3), .int im, .ref (o + 4), .int ba, .int at_, .int sz, .int fa, .int op, .ref (o + 5), .ref (o + 6), .int rm, .ref (o + 7), .ref (o + 8), .int ti, .ref (o + 9), .int (nI tn), .int (nI who), .ref (o + 10), .ref (o + 11), .ref (o + 12), .ref (o + 13)]))) (K1 : h (o + 9) = arI κ 40 tr) (K2 : h (o + 1) = arI κ 340 d) (p1 : who < 6) (p2 : w ≤ 6) (hw : d (20 + 2 * who) = nI w) (hm : d (20 + 2 * who + 1) = m) (hd : 3 ≤ dd) (ht : tn + 5 ≤ 40) : Con κ l yX12_runs cX12_runs 3 (some .int) dd 0 0 [.ref o, .int 5, .int x] h n (fun q h' n' => q = some (.int (vRuns 5 (nI who) x)) ∧ h' = va_up (va_up h o (some (.inr (12, [.ref (o + 1), .ref (o + 2), .ref (o + 3), .int im, .ref (o + 4), .int ba, .int at_, .int sz, .int fa, .int op, .ref (o + 5), .ref (o + 6), .int rm, .ref (o + 7), .ref (o + 8), .int ti, .ref (o + 9), .int (nI (tn + (bRuns 5).length)), .int (nI who), .ref (o + 10), .ref (o + 11), .ref (o + 12), .ref (o + 13)])))) (o + 9) (arI κ 40 (wrs tr tn (bRuns 5))) ∧ n' = n) := by
  refine Con.of mk_X12_runs (Nat.le_of_ble_eq_true rfl) (fun G hG X E => ?_)
  subst hG
  refine z_ls (ls' := [(0, .ref o), (1, .int 5), (2, .int x)]) rfl ?_
  have hb1 := bRuns_le w
  have hb2 := bMoves_le w
  have hb3 := bChills_le w w
  have hbr0 := bRuns_le 0
  have hbm0 := bMoves_le 0
  have hbc0 := bChills_le 0 w
  have hbt0 := bTells_le 0 w
  have hbr1 := bRuns_le 1
  have hbm1 := bMoves_le 1
  have hbc1 := bChills_le 1 w
  have hbt1 := bTells_le 1 w
  have hbr2 := bRuns_le 2
  have hbm2 := bMoves_le 2
  have hbc2 := bChills_le 2 w
  have hbt2 := bTells_le 2 w
  have hbr3 := bRuns_le 3
  have hbm3 := bMoves_le 3
  have hbc3 := bChills_le 3 w
  have hbt3 := bTells_le 3 w
  have hbr4 := bRuns_le 4
  have hbm4 := bMoves_le 4
  have hbc4 := bChills_le 4 w
  have hbt4 := bTells_le 4 w
  have hbr5 := bRuns_le 5
  have hbm5 := bMoves_le 5
  have hbc5 := bChills_le 5 w
  have hbt5 := bTells_le 5 w
  have hbr6 := bRuns_le 6
  have hbm6 := bMoves_le 6
  have hbc6 := bChills_le 6 w
  have hbt6 := bTells_le 6 w
  refine z_iload_n X 1 dX12_runs_0 rfl ?_
  refine z_tableOut X 81 dX12_runs_1 (by decide) (by decide) ?_
  refine z_aload_n X 0 dX12_runs_81 rfl ?_
  refine z_iload_n X 1 dX12_runs_82 rfl ?_
  refine z_callS X (r_above (κ := κ) (n := n) (k := (5))  ) mk_X12_above dX12_runs_83 wd_1307 wd_1308 rfl rfl (Nat.le_of_ble_eq_true rfl) (by omega) (Nat.le_of_ble_eq_true rfl) (by omega) (by omega) (fun q zh1 zm3 zp4 => ?_)
  obtain ⟨rfl, ze2, zn5⟩ := zp4
  subst zm3
  subst zh1
  refine z_st (st' := [.int (aboveR 5), .ref o]) rfl ?_
  refine z_toe (y := 0) (by decide) ?_
  refine z_iload_n X 2 dX12_runs_86 rfl ?_
  refine z_callV X (r_runs_0 (κ := κ) (n := n) (o := (o)) (x := (x)) (tn := (tn)) (dd := (dd - 1)) (w := (w)) (m := (m)) (d := (d)) (tr := (tr)) (who := (who)) (im := (im)) (ba := (ba)) (at_ := (at_)) (sz := (sz)) (fa := (fa)) (op := (op)) (rm := (rm)) (ti := (ti)) K0 K1 K2 (p1) (p2) (hw) (hm) (by first | assumption | omega) (by first | assumption | omega)) mk_X12_runs dX12_runs_87 wd_1299 wd_1301 wd_51 rfl K0 rfl rfl rfl (Nat.le_of_ble_eq_true rfl) (by omega) (Nat.le_of_ble_eq_true rfl) (by omega) (by omega) (fun q zh6 zm8 zp9 => ?_)
  obtain ⟨rfl, ze7, zn10⟩ := zp9
  subst zm8
  refine z_st (st' := [.int (vRuns 0 (nI who) x)]) rfl ?_
  have zK11 : zh6 o = some (.inr (12, [.ref (o + 1), .ref (o + 2), .ref (o + 3), .int im, .ref (o + 4), .int ba, .int at_, .int sz, .int fa, .int op, .ref (o + 5), .ref (o + 6), .int rm, .ref (o + 7), .ref (o + 8), .int ti, .ref (o + 9), .int (nI (tn + (bRuns 0).length)), .int (nI who), .ref (o + 10), .ref (o + 11), .ref (o + 12), .ref (o + 13)])) := by rw [ze7]; rw [va_up_ne _ _ (show o ≠ o + 9 by omega)]; exact va_up_self _ _ _
  have zK12 : zh6 (o + 9) = arI κ 40 (wrs tr tn (bRuns 0)) := by rw [ze7]; exact va_up_self _ _ _
  have zK13 : zh6 (o + 1) = arI κ 340 d := by rw [ze7]; rw [va_up_ne _ _ (show o + 1 ≠ o + 9 by omega)]; rw [va_up_ne _ _ (show o + 1 ≠ o by omega)]; exact K2
  refine z_iret X E dX12_runs_90 (by omega) (by omega) ⟨?_, ?_, ?_⟩
  · rfl
  · rw [show wrs tr tn (bRuns 5) = wrs tr tn (bRuns 0) from (by first | rfl | exact wrs_app _ _ _ _), show tn + (bRuns 5).length = tn + (bRuns 0).length from (by first | rfl | (simp only [bRuns, bMoves, bChills, bTells, List.length_cons, List.length_append, List.length_nil]; omega))]; funext zz; by_cases zq1 : zz = o + 9; (rw [zq1, va_up_self]; exact zK12); by_cases zq0 : zz = o; (rw [zq0, va_up_ne _ _ (show o ≠ o + 9 by omega), va_up_self]; exact zK11); rw [va_up_ne _ _ zq1, va_up_ne _ _ zq0]; rw [ze7]; simp only [va_up, if_neg zq0, if_neg zq1]
  · rfl
set_option maxHeartbeats 4000000 in
set_option maxRecDepth 100000 in
theorem r_runs_6 {κ : Wc} {l : Launch} {h : Mm} {n : Nat} {o : Nat} {x : Int32} {tn : Nat} {dd : Nat} {w : Nat} {m : Int32} {d : Nat → Int32} {tr : Nat → Int32} {who : Nat} {im : Int32} {ba : Int32} {at_ : Int32} {sz : Int32} {fa : Int32} {op : Int32} {rm : Int32} {ti : Int32} (K0 : h o = some (.inr (12, [.ref (o + 1), .ref (o + 2), .ref (o + 3), .int im, .ref (o + 4), .int ba, .int at_, .int sz, .int fa, .int op, .ref (o + 5), .ref (o + 6), .int rm, .ref (o + 7), .ref (o + 8), .int ti, .ref (o + 9), .int (nI tn), .int (nI who), .ref (o + 10), .ref (o + 11), .ref (o + 12), .ref (o + 13)]))) (K1 : h (o + 9) = arI κ 40 tr) (K2 : h (o + 1) = arI κ 340 d) (p1 : who < 6) (p2 : w ≤ 6) (hw : d (20 + 2 * who) = nI w) (hm : d (20 + 2 * who + 1) = m) (hd : 4 ≤ dd) (ht : tn + 6 ≤ 40) : Con κ l yX12_runs cX12_runs 3 (some .int) dd 0 0 [.ref o, .int 6, .int x] h n (fun q h' n' => q = some (.int (vRuns 6 (nI who) x)) ∧ h' = va_up (va_up h o (some (.inr (12, [.ref (o + 1), .ref (o + 2), .ref (o + 3), .int im, .ref (o + 4), .int ba, .int at_, .int sz, .int fa, .int op, .ref (o + 5), .ref (o + 6), .int rm, .ref (o + 7), .ref (o + 8), .int ti, .ref (o + 9), .int (nI (tn + (bRuns 6).length)), .int (nI who), .ref (o + 10), .ref (o + 11), .ref (o + 12), .ref (o + 13)])))) (o + 9) (arI κ 40 (wrs tr tn (bRuns 6))) ∧ n' = n) := by
  refine Con.of mk_X12_runs (Nat.le_of_ble_eq_true rfl) (fun G hG X E => ?_)
  subst hG
  refine z_ls (ls' := [(0, .ref o), (1, .int 6), (2, .int x)]) rfl ?_
  have hb1 := bRuns_le w
  have hb2 := bMoves_le w
  have hb3 := bChills_le w w
  have hbr0 := bRuns_le 0
  have hbm0 := bMoves_le 0
  have hbc0 := bChills_le 0 w
  have hbt0 := bTells_le 0 w
  have hbr1 := bRuns_le 1
  have hbm1 := bMoves_le 1
  have hbc1 := bChills_le 1 w
  have hbt1 := bTells_le 1 w
  have hbr2 := bRuns_le 2
  have hbm2 := bMoves_le 2
  have hbc2 := bChills_le 2 w
  have hbt2 := bTells_le 2 w
  have hbr3 := bRuns_le 3
  have hbm3 := bMoves_le 3
  have hbc3 := bChills_le 3 w
  have hbt3 := bTells_le 3 w
  have hbr4 := bRuns_le 4
  have hbm4 := bMoves_le 4
  have hbc4 := bChills_le 4 w
  have hbt4 := bTells_le 4 w
  have hbr5 := bRuns_le 5
  have hbm5 := bMoves_le 5
  have hbc5 := bChills_le 5 w
  have hbt5 := bTells_le 5 w
  have hbr6 := bRuns_le 6
  have hbm6 := bMoves_le 6
  have hbc6 := bChills_le 6 w
  have hbt6 := bTells_le 6 w
  refine z_iload_n X 1 dX12_runs_0 rfl ?_
  refine z_tableOut X 81 dX12_runs_1 (by decide) (by decide) ?_
  refine z_aload_n X 0 dX12_runs_81 rfl ?_
  refine z_iload_n X 1 dX12_runs_82 rfl ?_
  refine z_callS X (r_above (κ := κ) (n := n) (k := (6))  ) mk_X12_above dX12_runs_83 wd_1307 wd_1308 rfl rfl (Nat.le_of_ble_eq_true rfl) (by omega) (Nat.le_of_ble_eq_true rfl) (by omega) (by omega) (fun q zh1 zm3 zp4 => ?_)
  obtain ⟨rfl, ze2, zn5⟩ := zp4
  subst zm3
  subst zh1
  refine z_st (st' := [.int (aboveR 6), .ref o]) rfl ?_
  refine z_toe (y := 1) (by decide) ?_
  refine z_iload_n X 2 dX12_runs_86 rfl ?_
  refine z_callV X (r_runs_1 (κ := κ) (n := n) (o := (o)) (x := (x)) (tn := (tn)) (dd := (dd - 1)) (w := (w)) (m := (m)) (d := (d)) (tr := (tr)) (who := (who)) (im := (im)) (ba := (ba)) (at_ := (at_)) (sz := (sz)) (fa := (fa)) (op := (op)) (rm := (rm)) (ti := (ti)) K0 K1 K2 (p1) (p2) (hw) (hm) (by first | assumption | omega) (by first | assumption | omega)) mk_X12_runs dX12_runs_87 wd_1299 wd_1301 wd_51 rfl K0 rfl rfl rfl (Nat.le_of_ble_eq_true rfl) (by omega) (Nat.le_of_ble_eq_true rfl) (by omega) (by omega) (fun q zh6 zm8 zp9 => ?_)
  obtain ⟨rfl, ze7, zn10⟩ := zp9
  subst zm8
  refine z_st (st' := [.int (vRuns 1 (nI who) x)]) rfl ?_
  have zK11 : zh6 o = some (.inr (12, [.ref (o + 1), .ref (o + 2), .ref (o + 3), .int im, .ref (o + 4), .int ba, .int at_, .int sz, .int fa, .int op, .ref (o + 5), .ref (o + 6), .int rm, .ref (o + 7), .ref (o + 8), .int ti, .ref (o + 9), .int (nI (tn + (bRuns 1).length)), .int (nI who), .ref (o + 10), .ref (o + 11), .ref (o + 12), .ref (o + 13)])) := by rw [ze7]; rw [va_up_ne _ _ (show o ≠ o + 9 by omega)]; exact va_up_self _ _ _
  have zK12 : zh6 (o + 9) = arI κ 40 (wrs tr tn (bRuns 1)) := by rw [ze7]; exact va_up_self _ _ _
  have zK13 : zh6 (o + 1) = arI κ 340 d := by rw [ze7]; rw [va_up_ne _ _ (show o + 1 ≠ o + 9 by omega)]; rw [va_up_ne _ _ (show o + 1 ≠ o by omega)]; exact K2
  refine z_iret X E dX12_runs_90 (by omega) (by omega) ⟨?_, ?_, ?_⟩
  · rfl
  · rw [show wrs tr tn (bRuns 6) = wrs tr tn (bRuns 1) from (by first | rfl | exact wrs_app _ _ _ _), show tn + (bRuns 6).length = tn + (bRuns 1).length from (by first | rfl | (simp only [bRuns, bMoves, bChills, bTells, List.length_cons, List.length_append, List.length_nil]; omega))]; funext zz; by_cases zq1 : zz = o + 9; (rw [zq1, va_up_self]; exact zK12); by_cases zq0 : zz = o; (rw [zq0, va_up_ne _ _ (show o ≠ o + 9 by omega), va_up_self]; exact zK11); rw [va_up_ne _ _ zq1, va_up_ne _ _ zq0]; rw [ze7]; simp only [va_up, if_neg zq0, if_neg zq1]
  · rfl
set_option maxHeartbeats 4000000 in
theorem r_runs {κ : Wc} {l : Launch} {h : Mm} {n : Nat} {k : Nat} {o : Nat} {x : Int32} {tn : Nat} {dd : Nat} {w : Nat} {m : Int32} {d : Nat → Int32} {tr : Nat → Int32} {who : Nat} {im : Int32} {ba : Int32} {at_ : Int32} {sz : Int32} {fa : Int32} {op : Int32} {rm : Int32} {ti : Int32} (K0 : h o = some (.inr (12, [.ref (o + 1), .ref (o + 2), .ref (o + 3), .int im, .ref (o + 4), .int ba, .int at_, .int sz, .int fa, .int op, .ref (o + 5), .ref (o + 6), .int rm, .ref (o + 7), .ref (o + 8), .int ti, .ref (o + 9), .int (nI tn), .int (nI who), .ref (o + 10), .ref (o + 11), .ref (o + 12), .ref (o + 13)]))) (K1 : h (o + 9) = arI κ 40 tr) (K2 : h (o + 1) = arI κ 340 d) (p1 : who < 6) (p2 : w ≤ 6) (hw : d (20 + 2 * who) = nI w) (hm : d (20 + 2 * who + 1) = m) (hd : 5 ≤ dd) (ht : tn + 8 ≤ 40) (hk : k ≤ 6) : Con κ l yX12_runs cX12_runs 3 (some .int) dd 0 0 [.ref o, .int (nI k), .int x] h n (fun q h' n' => q = some (.int (vRuns k (nI who) x)) ∧ h' = va_up (va_up h o (some (.inr (12, [.ref (o + 1), .ref (o + 2), .ref (o + 3), .int im, .ref (o + 4), .int ba, .int at_, .int sz, .int fa, .int op, .ref (o + 5), .ref (o + 6), .int rm, .ref (o + 7), .ref (o + 8), .int ti, .ref (o + 9), .int (nI (tn + (bRuns k).length)), .int (nI who), .ref (o + 10), .ref (o + 11), .ref (o + 12), .ref (o + 13)])))) (o + 9) (arI κ 40 (wrs tr tn (bRuns k))) ∧ n' = n) := by
  match k, hk with
  | 0, _ => exact r_runs_0 K0 K1 K2 p1 p2 hw hm (by omega) (by omega)
  | 1, _ => exact r_runs_1 K0 K1 K2 p1 p2 hw hm (by omega) (by omega)
  | 2, _ => exact r_runs_2 K0 K1 K2 p1 p2 hw hm (by omega) (by omega)
  | 3, _ => exact r_runs_3 K0 K1 K2 p1 p2 hw hm (by omega) (by omega)
  | 4, _ => exact r_runs_4 K0 K1 K2 p1 p2 hw hm (by omega) (by omega)
  | 5, _ => exact r_runs_5 K0 K1 K2 p1 p2 hw hm (by omega) (by omega)
  | 6, _ => exact r_runs_6 K0 K1 K2 p1 p2 hw hm (by omega) (by omega)
set_option maxHeartbeats 4000000 in
set_option maxRecDepth 100000 in
theorem r_moves_0 {κ : Wc} {l : Launch} {h : Mm} {n : Nat} {o : Nat} {x : Int32} {tn : Nat} {dd : Nat} {w : Nat} {m : Int32} {d : Nat → Int32} {tr : Nat → Int32} {who : Nat} {im : Int32} {ba : Int32} {at_ : Int32} {sz : Int32} {fa : Int32} {op : Int32} {rm : Int32} {ti : Int32} (K0 : h o = some (.inr (12, [.ref (o + 1), .ref (o + 2), .ref (o + 3), .int im, .ref (o + 4), .int ba, .int at_, .int sz, .int fa, .int op, .ref (o + 5), .ref (o + 6), .int rm, .ref (o + 7), .ref (o + 8), .int ti, .ref (o + 9), .int (nI tn), .int (nI who), .ref (o + 10), .ref (o + 11), .ref (o + 12), .ref (o + 13)]))) (K1 : h (o + 9) = arI κ 40 tr) (K2 : h (o + 1) = arI κ 340 d) (p1 : who < 6) (p2 : w ≤ 6) (hw : d (20 + 2 * who) = nI w) (hm : d (20 + 2 * who + 1) = m) (hd : 2 ≤ dd) (ht : tn + 4 ≤ 40) : Con κ l yX12_moves cX12_moves 3 (some .int) dd 0 0 [.ref o, .int 0, .int x] h n (fun q h' n' => q = some (.int (vMoves 0 (nI who) m x)) ∧ h' = va_up (va_up h o (some (.inr (12, [.ref (o + 1), .ref (o + 2), .ref (o + 3), .int im, .ref (o + 4), .int ba, .int at_, .int sz, .int fa, .int op, .ref (o + 5), .ref (o + 6), .int rm, .ref (o + 7), .ref (o + 8), .int ti, .ref (o + 9), .int (nI (tn + (bMoves 0).length)), .int (nI who), .ref (o + 10), .ref (o + 11), .ref (o + 12), .ref (o + 13)])))) (o + 9) (arI κ 40 (wrs tr tn (bMoves 0))) ∧ n' = n) := by
  refine Con.of mk_X12_moves (Nat.le_of_ble_eq_true rfl) (fun G hG X E => ?_)
  subst hG
  refine z_ls (ls' := [(0, .ref o), (1, .int 0), (2, .int x)]) rfl ?_
  have hb1 := bRuns_le w
  have hb2 := bMoves_le w
  have hb3 := bChills_le w w
  have hbr0 := bRuns_le 0
  have hbm0 := bMoves_le 0
  have hbc0 := bChills_le 0 w
  have hbt0 := bTells_le 0 w
  have hbr1 := bRuns_le 1
  have hbm1 := bMoves_le 1
  have hbc1 := bChills_le 1 w
  have hbt1 := bTells_le 1 w
  have hbr2 := bRuns_le 2
  have hbm2 := bMoves_le 2
  have hbc2 := bChills_le 2 w
  have hbt2 := bTells_le 2 w
  have hbr3 := bRuns_le 3
  have hbm3 := bMoves_le 3
  have hbc3 := bChills_le 3 w
  have hbt3 := bTells_le 3 w
  have hbr4 := bRuns_le 4
  have hbm4 := bMoves_le 4
  have hbc4 := bChills_le 4 w
  have hbt4 := bTells_le 4 w
  have hbr5 := bRuns_le 5
  have hbm5 := bMoves_le 5
  have hbc5 := bChills_le 5 w
  have hbt5 := bTells_le 5 w
  have hbr6 := bRuns_le 6
  have hbm6 := bMoves_le 6
  have hbc6 := bChills_le 6 w
  have hbt6 := bTells_le 6 w
  refine z_iload_n X 1 dX12_moves_0 rfl ?_
  refine z_lookup (off := 35) X 36 dX12_moves_1 (by decide) (by decide) (by decide) ?_
  refine z_aload_n X 0 dX12_moves_36 rfl ?_
  refine z_bipush (v := 12) X dX12_moves_37 (by decide) ?_
  refine z_callV X (r_ran2 (κ := κ) (n := n) (o := (o)) (b := (12)) (tn := (tn)) (tr := (tr)) (im := (im)) (ba := (ba)) (at_ := (at_)) (sz := (sz)) (fa := (fa)) (op := (op)) (rm := (rm)) (ti := (ti)) (wh := (nI who)) K0 K1 (by first | assumption | omega)) mk_X12_ran dX12_moves_39 wd_1303 wd_1305 wd_52 rfl K0 rfl rfl rfl (Nat.le_of_ble_eq_true rfl) (by omega) (Nat.le_of_ble_eq_true rfl) (by omega) (by omega) (fun q zh1 zm3 zp4 => ?_)
  obtain ⟨rfl, ze2, zn5⟩ := zp4
  subst zm3
  refine z_st (st' := []) rfl ?_
  have zK6 : zh1 o = some (.inr (12, [.ref (o + 1), .ref (o + 2), .ref (o + 3), .int im, .ref (o + 4), .int ba, .int at_, .int sz, .int fa, .int op, .ref (o + 5), .ref (o + 6), .int rm, .ref (o + 7), .ref (o + 8), .int ti, .ref (o + 9), .int (nI (tn + 1)), .int ((nI who)), .ref (o + 10), .ref (o + 11), .ref (o + 12), .ref (o + 13)])) := by rw [ze2]; rw [va_up_ne _ _ (show o ≠ o + 9 by omega)]; exact va_up_self _ _ _
  have zK7 : zh1 (o + 9) = arI κ 40 (upd tr tn 12) := by rw [ze2]; exact va_up_self _ _ _
  have zK8 : zh1 (o + 1) = arI κ 340 d := by rw [ze2]; rw [va_up_ne _ _ (show o + 1 ≠ o + 9 by omega)]; rw [va_up_ne _ _ (show o + 1 ≠ o by omega)]; exact K2
  refine z_iload_n X 2 dX12_moves_42 rfl ?_
  refine z_aload_n X 0 dX12_moves_43 rfl ?_
  refine z_callV X (r_toldM (κ := κ) (n := n) (o := (o)) (d := (d)) (who := (who)) (im := (im)) (ba := (ba)) (at_ := (at_)) (sz := (sz)) (fa := (fa)) (op := (op)) (rm := (rm)) (ti := (ti)) (tm := (nI (tn + 1))) zK6 zK8 (by first | assumption | omega)) mk_X12_toldM dX12_moves_44 wd_1318 wd_1320 wd_55 rfl zK6 rfl rfl rfl (Nat.le_of_ble_eq_true rfl) (by omega) (Nat.le_of_ble_eq_true rfl) (by omega) (by omega) (fun q zh9 zm11 zp12 => ?_)
  obtain ⟨rfl, ze10, zn13⟩ := zp12
  subst zm11
  subst zh9
  refine z_st (st' := [.int (d (20 + 2 * who + 1)), .int x]) rfl ?_
  refine z_toe (y := m) (hm) ?_
  refine z_isub X dX12_moves_47 ?_
  refine z_iret X E dX12_moves_48 (by omega) (by omega) ⟨?_, ?_, ?_⟩
  · rfl
  · rw [show wrs tr tn (bMoves 0) = upd tr tn 12 from (by first | rfl | exact wrs_app _ _ _ _), show tn + (bMoves 0).length = tn + 1 from (by first | rfl | (simp only [bRuns, bMoves, bChills, bTells, List.length_cons, List.length_append, List.length_nil]; omega))]; funext zz; by_cases zq1 : zz = o + 9; (rw [zq1, va_up_self]; exact zK7); by_cases zq0 : zz = o; (rw [zq0, va_up_ne _ _ (show o ≠ o + 9 by omega), va_up_self]; exact zK6); rw [va_up_ne _ _ zq1, va_up_ne _ _ zq0]; rw [ze2]; simp only [va_up, if_neg zq0, if_neg zq1]
  · rfl
set_option maxHeartbeats 4000000 in
set_option maxRecDepth 100000 in
theorem r_moves_1 {κ : Wc} {l : Launch} {h : Mm} {n : Nat} {o : Nat} {x : Int32} {tn : Nat} {dd : Nat} {w : Nat} {m : Int32} {d : Nat → Int32} {tr : Nat → Int32} {who : Nat} {im : Int32} {ba : Int32} {at_ : Int32} {sz : Int32} {fa : Int32} {op : Int32} {rm : Int32} {ti : Int32} (K0 : h o = some (.inr (12, [.ref (o + 1), .ref (o + 2), .ref (o + 3), .int im, .ref (o + 4), .int ba, .int at_, .int sz, .int fa, .int op, .ref (o + 5), .ref (o + 6), .int rm, .ref (o + 7), .ref (o + 8), .int ti, .ref (o + 9), .int (nI tn), .int (nI who), .ref (o + 10), .ref (o + 11), .ref (o + 12), .ref (o + 13)]))) (K1 : h (o + 9) = arI κ 40 tr) (K2 : h (o + 1) = arI κ 340 d) (p1 : who < 6) (p2 : w ≤ 6) (hw : d (20 + 2 * who) = nI w) (hm : d (20 + 2 * who + 1) = m) (hd : 3 ≤ dd) (ht : tn + 5 ≤ 40) : Con κ l yX12_moves cX12_moves 3 (some .int) dd 0 0 [.ref o, .int 1, .int x] h n (fun q h' n' => q = some (.int (vMoves 1 (nI who) m x)) ∧ h' = va_up (va_up h o (some (.inr (12, [.ref (o + 1), .ref (o + 2), .ref (o + 3), .int im, .ref (o + 4), .int ba, .int at_, .int sz, .int fa, .int op, .ref (o + 5), .ref (o + 6), .int rm, .ref (o + 7), .ref (o + 8), .int ti, .ref (o + 9), .int (nI (tn + (bMoves 1).length)), .int (nI who), .ref (o + 10), .ref (o + 11), .ref (o + 12), .ref (o + 13)])))) (o + 9) (arI κ 40 (wrs tr tn (bMoves 1))) ∧ n' = n) := by
  refine Con.of mk_X12_moves (Nat.le_of_ble_eq_true rfl) (fun G hG X E => ?_)
  subst hG
  refine z_ls (ls' := [(0, .ref o), (1, .int 1), (2, .int x)]) rfl ?_
  have hb1 := bRuns_le w
  have hb2 := bMoves_le w
  have hb3 := bChills_le w w
  have hbr0 := bRuns_le 0
  have hbm0 := bMoves_le 0
  have hbc0 := bChills_le 0 w
  have hbt0 := bTells_le 0 w
  have hbr1 := bRuns_le 1
  have hbm1 := bMoves_le 1
  have hbc1 := bChills_le 1 w
  have hbt1 := bTells_le 1 w
  have hbr2 := bRuns_le 2
  have hbm2 := bMoves_le 2
  have hbc2 := bChills_le 2 w
  have hbt2 := bTells_le 2 w
  have hbr3 := bRuns_le 3
  have hbm3 := bMoves_le 3
  have hbc3 := bChills_le 3 w
  have hbt3 := bTells_le 3 w
  have hbr4 := bRuns_le 4
  have hbm4 := bMoves_le 4
  have hbc4 := bChills_le 4 w
  have hbt4 := bTells_le 4 w
  have hbr5 := bRuns_le 5
  have hbm5 := bMoves_le 5
  have hbc5 := bChills_le 5 w
  have hbt5 := bTells_le 5 w
  have hbr6 := bRuns_le 6
  have hbm6 := bMoves_le 6
  have hbc6 := bChills_le 6 w
  have hbt6 := bTells_le 6 w
  refine z_iload_n X 1 dX12_moves_0 rfl ?_
  refine z_lookup (off := 86) X 87 dX12_moves_1 (by decide) (by decide) (by decide) ?_
  refine z_aload_n X 0 dX12_moves_87 rfl ?_
  refine z_iload_n X 1 dX12_moves_88 rfl ?_
  refine z_callS X (r_above (κ := κ) (n := n) (k := (1))  ) mk_X12_above dX12_moves_89 wd_1307 wd_1308 rfl rfl (Nat.le_of_ble_eq_true rfl) (by omega) (Nat.le_of_ble_eq_true rfl) (by omega) (by omega) (fun q zh1 zm3 zp4 => ?_)
  obtain ⟨rfl, ze2, zn5⟩ := zp4
  subst zm3
  subst zh1
  refine z_st (st' := [.int (aboveR 1), .ref o]) rfl ?_
  refine z_toe (y := 0) (by decide) ?_
  refine z_iload_n X 2 dX12_moves_92 rfl ?_
  refine z_callV X (r_moves_0 (κ := κ) (n := n) (o := (o)) (x := (x)) (tn := (tn)) (dd := (dd - 1)) (w := (w)) (m := (m)) (d := (d)) (tr := (tr)) (who := (who)) (im := (im)) (ba := (ba)) (at_ := (at_)) (sz := (sz)) (fa := (fa)) (op := (op)) (rm := (rm)) (ti := (ti)) K0 K1 K2 (p1) (p2) (hw) (hm) (by first | assumption | omega) (by first | assumption | omega)) mk_X12_moves dX12_moves_93 wd_1314 wd_1316 wd_54 rfl K0 rfl rfl rfl (Nat.le_of_ble_eq_true rfl) (by omega) (Nat.le_of_ble_eq_true rfl) (by omega) (by omega) (fun q zh6 zm8 zp9 => ?_)
  obtain ⟨rfl, ze7, zn10⟩ := zp9
  subst zm8
  refine z_st (st' := [.int (vMoves 0 (nI who) m x)]) rfl ?_
  have zK11 : zh6 o = some (.inr (12, [.ref (o + 1), .ref (o + 2), .ref (o + 3), .int im, .ref (o + 4), .int ba, .int at_, .int sz, .int fa, .int op, .ref (o + 5), .ref (o + 6), .int rm, .ref (o + 7), .ref (o + 8), .int ti, .ref (o + 9), .int (nI (tn + (bMoves 0).length)), .int (nI who), .ref (o + 10), .ref (o + 11), .ref (o + 12), .ref (o + 13)])) := by rw [ze7]; rw [va_up_ne _ _ (show o ≠ o + 9 by omega)]; exact va_up_self _ _ _
  have zK12 : zh6 (o + 9) = arI κ 40 (wrs tr tn (bMoves 0)) := by rw [ze7]; exact va_up_self _ _ _
  have zK13 : zh6 (o + 1) = arI κ 340 d := by rw [ze7]; rw [va_up_ne _ _ (show o + 1 ≠ o + 9 by omega)]; rw [va_up_ne _ _ (show o + 1 ≠ o by omega)]; exact K2
  refine z_iret X E dX12_moves_96 (by omega) (by omega) ⟨?_, ?_, ?_⟩
  · rfl
  · rw [show wrs tr tn (bMoves 1) = wrs tr tn (bMoves 0) from (by first | rfl | exact wrs_app _ _ _ _), show tn + (bMoves 1).length = tn + (bMoves 0).length from (by first | rfl | (simp only [bRuns, bMoves, bChills, bTells, List.length_cons, List.length_append, List.length_nil]; omega))]; funext zz; by_cases zq1 : zz = o + 9; (rw [zq1, va_up_self]; exact zK12); by_cases zq0 : zz = o; (rw [zq0, va_up_ne _ _ (show o ≠ o + 9 by omega), va_up_self]; exact zK11); rw [va_up_ne _ _ zq1, va_up_ne _ _ zq0]; rw [ze7]; simp only [va_up, if_neg zq0, if_neg zq1]
  · rfl
set_option maxHeartbeats 4000000 in
set_option maxRecDepth 100000 in
theorem r_moves_2 {κ : Wc} {l : Launch} {h : Mm} {n : Nat} {o : Nat} {x : Int32} {tn : Nat} {dd : Nat} {w : Nat} {m : Int32} {d : Nat → Int32} {tr : Nat → Int32} {who : Nat} {im : Int32} {ba : Int32} {at_ : Int32} {sz : Int32} {fa : Int32} {op : Int32} {rm : Int32} {ti : Int32} (K0 : h o = some (.inr (12, [.ref (o + 1), .ref (o + 2), .ref (o + 3), .int im, .ref (o + 4), .int ba, .int at_, .int sz, .int fa, .int op, .ref (o + 5), .ref (o + 6), .int rm, .ref (o + 7), .ref (o + 8), .int ti, .ref (o + 9), .int (nI tn), .int (nI who), .ref (o + 10), .ref (o + 11), .ref (o + 12), .ref (o + 13)]))) (K1 : h (o + 9) = arI κ 40 tr) (K2 : h (o + 1) = arI κ 340 d) (p1 : who < 6) (p2 : w ≤ 6) (hw : d (20 + 2 * who) = nI w) (hm : d (20 + 2 * who + 1) = m) (hd : 3 ≤ dd) (ht : tn + 5 ≤ 40) : Con κ l yX12_moves cX12_moves 3 (some .int) dd 0 0 [.ref o, .int 2, .int x] h n (fun q h' n' => q = some (.int (vMoves 2 (nI who) m x)) ∧ h' = va_up (va_up h o (some (.inr (12, [.ref (o + 1), .ref (o + 2), .ref (o + 3), .int im, .ref (o + 4), .int ba, .int at_, .int sz, .int fa, .int op, .ref (o + 5), .ref (o + 6), .int rm, .ref (o + 7), .ref (o + 8), .int ti, .ref (o + 9), .int (nI (tn + (bMoves 2).length)), .int (nI who), .ref (o + 10), .ref (o + 11), .ref (o + 12), .ref (o + 13)])))) (o + 9) (arI κ 40 (wrs tr tn (bMoves 2))) ∧ n' = n) := by
  refine Con.of mk_X12_moves (Nat.le_of_ble_eq_true rfl) (fun G hG X E => ?_)
  subst hG
  refine z_ls (ls' := [(0, .ref o), (1, .int 2), (2, .int x)]) rfl ?_
  have hb1 := bRuns_le w
  have hb2 := bMoves_le w
  have hb3 := bChills_le w w
  have hbr0 := bRuns_le 0
  have hbm0 := bMoves_le 0
  have hbc0 := bChills_le 0 w
  have hbt0 := bTells_le 0 w
  have hbr1 := bRuns_le 1
  have hbm1 := bMoves_le 1
  have hbc1 := bChills_le 1 w
  have hbt1 := bTells_le 1 w
  have hbr2 := bRuns_le 2
  have hbm2 := bMoves_le 2
  have hbc2 := bChills_le 2 w
  have hbt2 := bTells_le 2 w
  have hbr3 := bRuns_le 3
  have hbm3 := bMoves_le 3
  have hbc3 := bChills_le 3 w
  have hbt3 := bTells_le 3 w
  have hbr4 := bRuns_le 4
  have hbm4 := bMoves_le 4
  have hbc4 := bChills_le 4 w
  have hbt4 := bTells_le 4 w
  have hbr5 := bRuns_le 5
  have hbm5 := bMoves_le 5
  have hbc5 := bChills_le 5 w
  have hbt5 := bTells_le 5 w
  have hbr6 := bRuns_le 6
  have hbm6 := bMoves_le 6
  have hbc6 := bChills_le 6 w
  have hbt6 := bTells_le 6 w
  refine z_iload_n X 1 dX12_moves_0 rfl ?_
  refine z_lookup (off := 86) X 87 dX12_moves_1 (by decide) (by decide) (by decide) ?_
  refine z_aload_n X 0 dX12_moves_87 rfl ?_
  refine z_iload_n X 1 dX12_moves_88 rfl ?_
  refine z_callS X (r_above (κ := κ) (n := n) (k := (2))  ) mk_X12_above dX12_moves_89 wd_1307 wd_1308 rfl rfl (Nat.le_of_ble_eq_true rfl) (by omega) (Nat.le_of_ble_eq_true rfl) (by omega) (by omega) (fun q zh1 zm3 zp4 => ?_)
  obtain ⟨rfl, ze2, zn5⟩ := zp4
  subst zm3
  subst zh1
  refine z_st (st' := [.int (aboveR 2), .ref o]) rfl ?_
  refine z_toe (y := 0) (by decide) ?_
  refine z_iload_n X 2 dX12_moves_92 rfl ?_
  refine z_callV X (r_moves_0 (κ := κ) (n := n) (o := (o)) (x := (x)) (tn := (tn)) (dd := (dd - 1)) (w := (w)) (m := (m)) (d := (d)) (tr := (tr)) (who := (who)) (im := (im)) (ba := (ba)) (at_ := (at_)) (sz := (sz)) (fa := (fa)) (op := (op)) (rm := (rm)) (ti := (ti)) K0 K1 K2 (p1) (p2) (hw) (hm) (by first | assumption | omega) (by first | assumption | omega)) mk_X12_moves dX12_moves_93 wd_1314 wd_1316 wd_54 rfl K0 rfl rfl rfl (Nat.le_of_ble_eq_true rfl) (by omega) (Nat.le_of_ble_eq_true rfl) (by omega) (by omega) (fun q zh6 zm8 zp9 => ?_)
  obtain ⟨rfl, ze7, zn10⟩ := zp9
  subst zm8
  refine z_st (st' := [.int (vMoves 0 (nI who) m x)]) rfl ?_
  have zK11 : zh6 o = some (.inr (12, [.ref (o + 1), .ref (o + 2), .ref (o + 3), .int im, .ref (o + 4), .int ba, .int at_, .int sz, .int fa, .int op, .ref (o + 5), .ref (o + 6), .int rm, .ref (o + 7), .ref (o + 8), .int ti, .ref (o + 9), .int (nI (tn + (bMoves 0).length)), .int (nI who), .ref (o + 10), .ref (o + 11), .ref (o + 12), .ref (o + 13)])) := by rw [ze7]; rw [va_up_ne _ _ (show o ≠ o + 9 by omega)]; exact va_up_self _ _ _
  have zK12 : zh6 (o + 9) = arI κ 40 (wrs tr tn (bMoves 0)) := by rw [ze7]; exact va_up_self _ _ _
  have zK13 : zh6 (o + 1) = arI κ 340 d := by rw [ze7]; rw [va_up_ne _ _ (show o + 1 ≠ o + 9 by omega)]; rw [va_up_ne _ _ (show o + 1 ≠ o by omega)]; exact K2
  refine z_iret X E dX12_moves_96 (by omega) (by omega) ⟨?_, ?_, ?_⟩
  · rfl
  · rw [show wrs tr tn (bMoves 2) = wrs tr tn (bMoves 0) from (by first | rfl | exact wrs_app _ _ _ _), show tn + (bMoves 2).length = tn + (bMoves 0).length from (by first | rfl | (simp only [bRuns, bMoves, bChills, bTells, List.length_cons, List.length_append, List.length_nil]; omega))]; funext zz; by_cases zq1 : zz = o + 9; (rw [zq1, va_up_self]; exact zK12); by_cases zq0 : zz = o; (rw [zq0, va_up_ne _ _ (show o ≠ o + 9 by omega), va_up_self]; exact zK11); rw [va_up_ne _ _ zq1, va_up_ne _ _ zq0]; rw [ze7]; simp only [va_up, if_neg zq0, if_neg zq1]
  · rfl
set_option maxHeartbeats 4000000 in
set_option maxRecDepth 100000 in
theorem r_moves_3 {κ : Wc} {l : Launch} {h : Mm} {n : Nat} {o : Nat} {x : Int32} {tn : Nat} {dd : Nat} {w : Nat} {m : Int32} {d : Nat → Int32} {tr : Nat → Int32} {who : Nat} {im : Int32} {ba : Int32} {at_ : Int32} {sz : Int32} {fa : Int32} {op : Int32} {rm : Int32} {ti : Int32} (K0 : h o = some (.inr (12, [.ref (o + 1), .ref (o + 2), .ref (o + 3), .int im, .ref (o + 4), .int ba, .int at_, .int sz, .int fa, .int op, .ref (o + 5), .ref (o + 6), .int rm, .ref (o + 7), .ref (o + 8), .int ti, .ref (o + 9), .int (nI tn), .int (nI who), .ref (o + 10), .ref (o + 11), .ref (o + 12), .ref (o + 13)]))) (K1 : h (o + 9) = arI κ 40 tr) (K2 : h (o + 1) = arI κ 340 d) (p1 : who < 6) (p2 : w ≤ 6) (hw : d (20 + 2 * who) = nI w) (hm : d (20 + 2 * who + 1) = m) (hd : 4 ≤ dd) (ht : tn + 6 ≤ 40) : Con κ l yX12_moves cX12_moves 3 (some .int) dd 0 0 [.ref o, .int 3, .int x] h n (fun q h' n' => q = some (.int (vMoves 3 (nI who) m x)) ∧ h' = va_up (va_up h o (some (.inr (12, [.ref (o + 1), .ref (o + 2), .ref (o + 3), .int im, .ref (o + 4), .int ba, .int at_, .int sz, .int fa, .int op, .ref (o + 5), .ref (o + 6), .int rm, .ref (o + 7), .ref (o + 8), .int ti, .ref (o + 9), .int (nI (tn + (bMoves 3).length)), .int (nI who), .ref (o + 10), .ref (o + 11), .ref (o + 12), .ref (o + 13)])))) (o + 9) (arI κ 40 (wrs tr tn (bMoves 3))) ∧ n' = n) := by
  refine Con.of mk_X12_moves (Nat.le_of_ble_eq_true rfl) (fun G hG X E => ?_)
  subst hG
  refine z_ls (ls' := [(0, .ref o), (1, .int 3), (2, .int x)]) rfl ?_
  have hb1 := bRuns_le w
  have hb2 := bMoves_le w
  have hb3 := bChills_le w w
  have hbr0 := bRuns_le 0
  have hbm0 := bMoves_le 0
  have hbc0 := bChills_le 0 w
  have hbt0 := bTells_le 0 w
  have hbr1 := bRuns_le 1
  have hbm1 := bMoves_le 1
  have hbc1 := bChills_le 1 w
  have hbt1 := bTells_le 1 w
  have hbr2 := bRuns_le 2
  have hbm2 := bMoves_le 2
  have hbc2 := bChills_le 2 w
  have hbt2 := bTells_le 2 w
  have hbr3 := bRuns_le 3
  have hbm3 := bMoves_le 3
  have hbc3 := bChills_le 3 w
  have hbt3 := bTells_le 3 w
  have hbr4 := bRuns_le 4
  have hbm4 := bMoves_le 4
  have hbc4 := bChills_le 4 w
  have hbt4 := bTells_le 4 w
  have hbr5 := bRuns_le 5
  have hbm5 := bMoves_le 5
  have hbc5 := bChills_le 5 w
  have hbt5 := bTells_le 5 w
  have hbr6 := bRuns_le 6
  have hbm6 := bMoves_le 6
  have hbc6 := bChills_le 6 w
  have hbt6 := bTells_le 6 w
  refine z_iload_n X 1 dX12_moves_0 rfl ?_
  refine z_lookup (off := 48) X 49 dX12_moves_1 (by decide) (by decide) (by decide) ?_
  refine z_aload_n X 0 dX12_moves_49 rfl ?_
  refine z_bipush (v := 40) X dX12_moves_50 (by decide) ?_
  refine z_callV X (r_ran2 (κ := κ) (n := n) (o := (o)) (b := (40)) (tn := (tn)) (tr := (tr)) (im := (im)) (ba := (ba)) (at_ := (at_)) (sz := (sz)) (fa := (fa)) (op := (op)) (rm := (rm)) (ti := (ti)) (wh := (nI who)) K0 K1 (by first | assumption | omega)) mk_X12_ran dX12_moves_52 wd_1303 wd_1305 wd_52 rfl K0 rfl rfl rfl (Nat.le_of_ble_eq_true rfl) (by omega) (Nat.le_of_ble_eq_true rfl) (by omega) (by omega) (fun q zh1 zm3 zp4 => ?_)
  obtain ⟨rfl, ze2, zn5⟩ := zp4
  subst zm3
  refine z_st (st' := []) rfl ?_
  have zK6 : zh1 o = some (.inr (12, [.ref (o + 1), .ref (o + 2), .ref (o + 3), .int im, .ref (o + 4), .int ba, .int at_, .int sz, .int fa, .int op, .ref (o + 5), .ref (o + 6), .int rm, .ref (o + 7), .ref (o + 8), .int ti, .ref (o + 9), .int (nI (tn + 1)), .int ((nI who)), .ref (o + 10), .ref (o + 11), .ref (o + 12), .ref (o + 13)])) := by rw [ze2]; rw [va_up_ne _ _ (show o ≠ o + 9 by omega)]; exact va_up_self _ _ _
  have zK7 : zh1 (o + 9) = arI κ 40 (upd tr tn 40) := by rw [ze2]; exact va_up_self _ _ _
  have zK8 : zh1 (o + 1) = arI κ 340 d := by rw [ze2]; rw [va_up_ne _ _ (show o + 1 ≠ o + 9 by omega)]; rw [va_up_ne _ _ (show o + 1 ≠ o by omega)]; exact K2
  refine z_aload_n X 0 dX12_moves_55 rfl ?_
  refine z_iconst (v := 3) X dX12_moves_56 (by decide) ?_
  refine z_callS X (r_above (κ := κ) (n := n) (k := (3))  ) mk_X12_above dX12_moves_57 wd_1307 wd_1308 rfl rfl (Nat.le_of_ble_eq_true rfl) (by omega) (Nat.le_of_ble_eq_true rfl) (by omega) (by omega) (fun q zh9 zm11 zp12 => ?_)
  obtain ⟨rfl, ze10, zn13⟩ := zp12
  subst zm11
  subst zh9
  refine z_st (st' := [.int (aboveR 3), .ref o]) rfl ?_
  refine z_toe (y := 2) (by decide) ?_
  refine z_iload_n X 2 dX12_moves_60 rfl ?_
  refine z_callV X (r_moves_2 (κ := κ) (n := n) (o := (o)) (x := (x)) (tn := (tn + 1)) (dd := (dd - 1)) (w := (w)) (m := (m)) (d := (d)) (tr := (upd tr tn 40)) (who := (who)) (im := (im)) (ba := (ba)) (at_ := (at_)) (sz := (sz)) (fa := (fa)) (op := (op)) (rm := (rm)) (ti := (ti)) zK6 zK7 zK8 (p1) (p2) (hw) (hm) (by first | assumption | omega) (by first | assumption | omega)) mk_X12_moves dX12_moves_61 wd_1314 wd_1316 wd_54 rfl zK6 rfl rfl rfl (Nat.le_of_ble_eq_true rfl) (by omega) (Nat.le_of_ble_eq_true rfl) (by omega) (by omega) (fun q zh14 zm16 zp17 => ?_)
  obtain ⟨rfl, ze15, zn18⟩ := zp17
  subst zm16
  refine z_st (st' := [.int (vMoves 2 (nI who) m x)]) rfl ?_
  have zK19 : zh14 o = some (.inr (12, [.ref (o + 1), .ref (o + 2), .ref (o + 3), .int im, .ref (o + 4), .int ba, .int at_, .int sz, .int fa, .int op, .ref (o + 5), .ref (o + 6), .int rm, .ref (o + 7), .ref (o + 8), .int ti, .ref (o + 9), .int (nI ((tn + 1) + (bMoves 2).length)), .int (nI who), .ref (o + 10), .ref (o + 11), .ref (o + 12), .ref (o + 13)])) := by rw [ze15]; rw [va_up_ne _ _ (show o ≠ o + 9 by omega)]; exact va_up_self _ _ _
  have zK20 : zh14 (o + 9) = arI κ 40 (wrs (upd tr tn 40) (tn + 1) (bMoves 2)) := by rw [ze15]; exact va_up_self _ _ _
  have zK21 : zh14 (o + 1) = arI κ 340 d := by rw [ze15]; rw [va_up_ne _ _ (show o + 1 ≠ o + 9 by omega)]; rw [va_up_ne _ _ (show o + 1 ≠ o by omega)]; exact zK8
  refine z_ineg X dX12_moves_64 ?_
  refine z_iret X E dX12_moves_65 (by omega) (by omega) ⟨?_, ?_, ?_⟩
  · rfl
  · rw [show wrs tr tn (bMoves 3) = wrs (upd tr tn 40) (tn + 1) (bMoves 2) from (by first | rfl | exact wrs_app _ _ _ _), show tn + (bMoves 3).length = (tn + 1) + (bMoves 2).length from (by first | rfl | (simp only [bRuns, bMoves, bChills, bTells, List.length_cons, List.length_append, List.length_nil]; omega))]; funext zz; by_cases zq1 : zz = o + 9; (rw [zq1, va_up_self]; exact zK20); by_cases zq0 : zz = o; (rw [zq0, va_up_ne _ _ (show o ≠ o + 9 by omega), va_up_self]; exact zK19); rw [va_up_ne _ _ zq1, va_up_ne _ _ zq0]; rw [ze15, ze2]; simp only [va_up, if_neg zq0, if_neg zq1]
  · rfl
set_option maxHeartbeats 4000000 in
set_option maxRecDepth 100000 in
theorem r_moves_4 {κ : Wc} {l : Launch} {h : Mm} {n : Nat} {o : Nat} {x : Int32} {tn : Nat} {dd : Nat} {w : Nat} {m : Int32} {d : Nat → Int32} {tr : Nat → Int32} {who : Nat} {im : Int32} {ba : Int32} {at_ : Int32} {sz : Int32} {fa : Int32} {op : Int32} {rm : Int32} {ti : Int32} (K0 : h o = some (.inr (12, [.ref (o + 1), .ref (o + 2), .ref (o + 3), .int im, .ref (o + 4), .int ba, .int at_, .int sz, .int fa, .int op, .ref (o + 5), .ref (o + 6), .int rm, .ref (o + 7), .ref (o + 8), .int ti, .ref (o + 9), .int (nI tn), .int (nI who), .ref (o + 10), .ref (o + 11), .ref (o + 12), .ref (o + 13)]))) (K1 : h (o + 9) = arI κ 40 tr) (K2 : h (o + 1) = arI κ 340 d) (p1 : who < 6) (p2 : w ≤ 6) (hw : d (20 + 2 * who) = nI w) (hm : d (20 + 2 * who + 1) = m) (hd : 5 ≤ dd) (ht : tn + 7 ≤ 40) : Con κ l yX12_moves cX12_moves 3 (some .int) dd 0 0 [.ref o, .int 4, .int x] h n (fun q h' n' => q = some (.int (vMoves 4 (nI who) m x)) ∧ h' = va_up (va_up h o (some (.inr (12, [.ref (o + 1), .ref (o + 2), .ref (o + 3), .int im, .ref (o + 4), .int ba, .int at_, .int sz, .int fa, .int op, .ref (o + 5), .ref (o + 6), .int rm, .ref (o + 7), .ref (o + 8), .int ti, .ref (o + 9), .int (nI (tn + (bMoves 4).length)), .int (nI who), .ref (o + 10), .ref (o + 11), .ref (o + 12), .ref (o + 13)])))) (o + 9) (arI κ 40 (wrs tr tn (bMoves 4))) ∧ n' = n) := by
  refine Con.of mk_X12_moves (Nat.le_of_ble_eq_true rfl) (fun G hG X E => ?_)
  subst hG
  refine z_ls (ls' := [(0, .ref o), (1, .int 4), (2, .int x)]) rfl ?_
  have hb1 := bRuns_le w
  have hb2 := bMoves_le w
  have hb3 := bChills_le w w
  have hbr0 := bRuns_le 0
  have hbm0 := bMoves_le 0
  have hbc0 := bChills_le 0 w
  have hbt0 := bTells_le 0 w
  have hbr1 := bRuns_le 1
  have hbm1 := bMoves_le 1
  have hbc1 := bChills_le 1 w
  have hbt1 := bTells_le 1 w
  have hbr2 := bRuns_le 2
  have hbm2 := bMoves_le 2
  have hbc2 := bChills_le 2 w
  have hbt2 := bTells_le 2 w
  have hbr3 := bRuns_le 3
  have hbm3 := bMoves_le 3
  have hbc3 := bChills_le 3 w
  have hbt3 := bTells_le 3 w
  have hbr4 := bRuns_le 4
  have hbm4 := bMoves_le 4
  have hbc4 := bChills_le 4 w
  have hbt4 := bTells_le 4 w
  have hbr5 := bRuns_le 5
  have hbm5 := bMoves_le 5
  have hbc5 := bChills_le 5 w
  have hbt5 := bTells_le 5 w
  have hbr6 := bRuns_le 6
  have hbm6 := bMoves_le 6
  have hbc6 := bChills_le 6 w
  have hbt6 := bTells_le 6 w
  refine z_iload_n X 1 dX12_moves_0 rfl ?_
  refine z_lookup (off := 86) X 87 dX12_moves_1 (by decide) (by decide) (by decide) ?_
  refine z_aload_n X 0 dX12_moves_87 rfl ?_
  refine z_iload_n X 1 dX12_moves_88 rfl ?_
  refine z_callS X (r_above (κ := κ) (n := n) (k := (4))  ) mk_X12_above dX12_moves_89 wd_1307 wd_1308 rfl rfl (Nat.le_of_ble_eq_true rfl) (by omega) (Nat.le_of_ble_eq_true rfl) (by omega) (by omega) (fun q zh1 zm3 zp4 => ?_)
  obtain ⟨rfl, ze2, zn5⟩ := zp4
  subst zm3
  subst zh1
  refine z_st (st' := [.int (aboveR 4), .ref o]) rfl ?_
  refine z_toe (y := 3) (by decide) ?_
  refine z_iload_n X 2 dX12_moves_92 rfl ?_
  refine z_callV X (r_moves_3 (κ := κ) (n := n) (o := (o)) (x := (x)) (tn := (tn)) (dd := (dd - 1)) (w := (w)) (m := (m)) (d := (d)) (tr := (tr)) (who := (who)) (im := (im)) (ba := (ba)) (at_ := (at_)) (sz := (sz)) (fa := (fa)) (op := (op)) (rm := (rm)) (ti := (ti)) K0 K1 K2 (p1) (p2) (hw) (hm) (by first | assumption | omega) (by first | assumption | omega)) mk_X12_moves dX12_moves_93 wd_1314 wd_1316 wd_54 rfl K0 rfl rfl rfl (Nat.le_of_ble_eq_true rfl) (by omega) (Nat.le_of_ble_eq_true rfl) (by omega) (by omega) (fun q zh6 zm8 zp9 => ?_)
  obtain ⟨rfl, ze7, zn10⟩ := zp9
  subst zm8
  refine z_st (st' := [.int (vMoves 3 (nI who) m x)]) rfl ?_
  have zK11 : zh6 o = some (.inr (12, [.ref (o + 1), .ref (o + 2), .ref (o + 3), .int im, .ref (o + 4), .int ba, .int at_, .int sz, .int fa, .int op, .ref (o + 5), .ref (o + 6), .int rm, .ref (o + 7), .ref (o + 8), .int ti, .ref (o + 9), .int (nI (tn + (bMoves 3).length)), .int (nI who), .ref (o + 10), .ref (o + 11), .ref (o + 12), .ref (o + 13)])) := by rw [ze7]; rw [va_up_ne _ _ (show o ≠ o + 9 by omega)]; exact va_up_self _ _ _
  have zK12 : zh6 (o + 9) = arI κ 40 (wrs tr tn (bMoves 3)) := by rw [ze7]; exact va_up_self _ _ _
  have zK13 : zh6 (o + 1) = arI κ 340 d := by rw [ze7]; rw [va_up_ne _ _ (show o + 1 ≠ o + 9 by omega)]; rw [va_up_ne _ _ (show o + 1 ≠ o by omega)]; exact K2
  refine z_iret X E dX12_moves_96 (by omega) (by omega) ⟨?_, ?_, ?_⟩
  · rfl
  · rw [show wrs tr tn (bMoves 4) = wrs tr tn (bMoves 3) from (by first | rfl | exact wrs_app _ _ _ _), show tn + (bMoves 4).length = tn + (bMoves 3).length from (by first | rfl | (simp only [bRuns, bMoves, bChills, bTells, List.length_cons, List.length_append, List.length_nil]; omega))]; funext zz; by_cases zq1 : zz = o + 9; (rw [zq1, va_up_self]; exact zK12); by_cases zq0 : zz = o; (rw [zq0, va_up_ne _ _ (show o ≠ o + 9 by omega), va_up_self]; exact zK11); rw [va_up_ne _ _ zq1, va_up_ne _ _ zq0]; rw [ze7]; simp only [va_up, if_neg zq0, if_neg zq1]
  · rfl
set_option maxHeartbeats 4000000 in
set_option maxRecDepth 100000 in
theorem r_moves_5 {κ : Wc} {l : Launch} {h : Mm} {n : Nat} {o : Nat} {x : Int32} {tn : Nat} {dd : Nat} {w : Nat} {m : Int32} {d : Nat → Int32} {tr : Nat → Int32} {who : Nat} {im : Int32} {ba : Int32} {at_ : Int32} {sz : Int32} {fa : Int32} {op : Int32} {rm : Int32} {ti : Int32} (K0 : h o = some (.inr (12, [.ref (o + 1), .ref (o + 2), .ref (o + 3), .int im, .ref (o + 4), .int ba, .int at_, .int sz, .int fa, .int op, .ref (o + 5), .ref (o + 6), .int rm, .ref (o + 7), .ref (o + 8), .int ti, .ref (o + 9), .int (nI tn), .int (nI who), .ref (o + 10), .ref (o + 11), .ref (o + 12), .ref (o + 13)]))) (K1 : h (o + 9) = arI κ 40 tr) (K2 : h (o + 1) = arI κ 340 d) (p1 : who < 6) (p2 : w ≤ 6) (hw : d (20 + 2 * who) = nI w) (hm : d (20 + 2 * who + 1) = m) (hd : 3 ≤ dd) (ht : tn + 5 ≤ 40) : Con κ l yX12_moves cX12_moves 3 (some .int) dd 0 0 [.ref o, .int 5, .int x] h n (fun q h' n' => q = some (.int (vMoves 5 (nI who) m x)) ∧ h' = va_up (va_up h o (some (.inr (12, [.ref (o + 1), .ref (o + 2), .ref (o + 3), .int im, .ref (o + 4), .int ba, .int at_, .int sz, .int fa, .int op, .ref (o + 5), .ref (o + 6), .int rm, .ref (o + 7), .ref (o + 8), .int ti, .ref (o + 9), .int (nI (tn + (bMoves 5).length)), .int (nI who), .ref (o + 10), .ref (o + 11), .ref (o + 12), .ref (o + 13)])))) (o + 9) (arI κ 40 (wrs tr tn (bMoves 5))) ∧ n' = n) := by
  refine Con.of mk_X12_moves (Nat.le_of_ble_eq_true rfl) (fun G hG X E => ?_)
  subst hG
  refine z_ls (ls' := [(0, .ref o), (1, .int 5), (2, .int x)]) rfl ?_
  have hb1 := bRuns_le w
  have hb2 := bMoves_le w
  have hb3 := bChills_le w w
  have hbr0 := bRuns_le 0
  have hbm0 := bMoves_le 0
  have hbc0 := bChills_le 0 w
  have hbt0 := bTells_le 0 w
  have hbr1 := bRuns_le 1
  have hbm1 := bMoves_le 1
  have hbc1 := bChills_le 1 w
  have hbt1 := bTells_le 1 w
  have hbr2 := bRuns_le 2
  have hbm2 := bMoves_le 2
  have hbc2 := bChills_le 2 w
  have hbt2 := bTells_le 2 w
  have hbr3 := bRuns_le 3
  have hbm3 := bMoves_le 3
  have hbc3 := bChills_le 3 w
  have hbt3 := bTells_le 3 w
  have hbr4 := bRuns_le 4
  have hbm4 := bMoves_le 4
  have hbc4 := bChills_le 4 w
  have hbt4 := bTells_le 4 w
  have hbr5 := bRuns_le 5
  have hbm5 := bMoves_le 5
  have hbc5 := bChills_le 5 w
  have hbt5 := bTells_le 5 w
  have hbr6 := bRuns_le 6
  have hbm6 := bMoves_le 6
  have hbc6 := bChills_le 6 w
  have hbt6 := bTells_le 6 w
  refine z_iload_n X 1 dX12_moves_0 rfl ?_
  refine z_lookup (off := 65) X 66 dX12_moves_1 (by decide) (by decide) (by decide) ?_
  refine z_aload_n X 0 dX12_moves_66 rfl ?_
  refine z_bipush (v := 60) X dX12_moves_67 (by decide) ?_
  refine z_callV X (r_ran2 (κ := κ) (n := n) (o := (o)) (b := (60)) (tn := (tn)) (tr := (tr)) (im := (im)) (ba := (ba)) (at_ := (at_)) (sz := (sz)) (fa := (fa)) (op := (op)) (rm := (rm)) (ti := (ti)) (wh := (nI who)) K0 K1 (by first | assumption | omega)) mk_X12_ran dX12_moves_69 wd_1303 wd_1305 wd_52 rfl K0 rfl rfl rfl (Nat.le_of_ble_eq_true rfl) (by omega) (Nat.le_of_ble_eq_true rfl) (by omega) (by omega) (fun q zh1 zm3 zp4 => ?_)
  obtain ⟨rfl, ze2, zn5⟩ := zp4
  subst zm3
  refine z_st (st' := []) rfl ?_
  have zK6 : zh1 o = some (.inr (12, [.ref (o + 1), .ref (o + 2), .ref (o + 3), .int im, .ref (o + 4), .int ba, .int at_, .int sz, .int fa, .int op, .ref (o + 5), .ref (o + 6), .int rm, .ref (o + 7), .ref (o + 8), .int ti, .ref (o + 9), .int (nI (tn + 1)), .int ((nI who)), .ref (o + 10), .ref (o + 11), .ref (o + 12), .ref (o + 13)])) := by rw [ze2]; rw [va_up_ne _ _ (show o ≠ o + 9 by omega)]; exact va_up_self _ _ _
  have zK7 : zh1 (o + 9) = arI κ 40 (upd tr tn 60) := by rw [ze2]; exact va_up_self _ _ _
  have zK8 : zh1 (o + 1) = arI κ 340 d := by rw [ze2]; rw [va_up_ne _ _ (show o + 1 ≠ o + 9 by omega)]; rw [va_up_ne _ _ (show o + 1 ≠ o by omega)]; exact K2
  refine z_aload_n X 0 dX12_moves_72 rfl ?_
  refine z_iconst (v := 5) X dX12_moves_73 (by decide) ?_
  refine z_callS X (r_above (κ := κ) (n := n) (k := (5))  ) mk_X12_above dX12_moves_74 wd_1307 wd_1308 rfl rfl (Nat.le_of_ble_eq_true rfl) (by omega) (Nat.le_of_ble_eq_true rfl) (by omega) (by omega) (fun q zh9 zm11 zp12 => ?_)
  obtain ⟨rfl, ze10, zn13⟩ := zp12
  subst zm11
  subst zh9
  refine z_st (st' := [.int (aboveR 5), .ref o]) rfl ?_
  refine z_toe (y := 0) (by decide) ?_
  refine z_iload_n X 2 dX12_moves_77 rfl ?_
  refine z_callV X (r_moves_0 (κ := κ) (n := n) (o := (o)) (x := (x)) (tn := (tn + 1)) (dd := (dd - 1)) (w := (w)) (m := (m)) (d := (d)) (tr := (upd tr tn 60)) (who := (who)) (im := (im)) (ba := (ba)) (at_ := (at_)) (sz := (sz)) (fa := (fa)) (op := (op)) (rm := (rm)) (ti := (ti)) zK6 zK7 zK8 (p1) (p2) (hw) (hm) (by first | assumption | omega) (by first | assumption | omega)) mk_X12_moves dX12_moves_78 wd_1314 wd_1316 wd_54 rfl zK6 rfl rfl rfl (Nat.le_of_ble_eq_true rfl) (by omega) (Nat.le_of_ble_eq_true rfl) (by omega) (by omega) (fun q zh14 zm16 zp17 => ?_)
  obtain ⟨rfl, ze15, zn18⟩ := zp17
  subst zm16
  refine z_st (st' := [.int (vMoves 0 (nI who) m x)]) rfl ?_
  have zK19 : zh14 o = some (.inr (12, [.ref (o + 1), .ref (o + 2), .ref (o + 3), .int im, .ref (o + 4), .int ba, .int at_, .int sz, .int fa, .int op, .ref (o + 5), .ref (o + 6), .int rm, .ref (o + 7), .ref (o + 8), .int ti, .ref (o + 9), .int (nI ((tn + 1) + (bMoves 0).length)), .int (nI who), .ref (o + 10), .ref (o + 11), .ref (o + 12), .ref (o + 13)])) := by rw [ze15]; rw [va_up_ne _ _ (show o ≠ o + 9 by omega)]; exact va_up_self _ _ _
  have zK20 : zh14 (o + 9) = arI κ 40 (wrs (upd tr tn 60) (tn + 1) (bMoves 0)) := by rw [ze15]; exact va_up_self _ _ _
  have zK21 : zh14 (o + 1) = arI κ 340 d := by rw [ze15]; rw [va_up_ne _ _ (show o + 1 ≠ o + 9 by omega)]; rw [va_up_ne _ _ (show o + 1 ≠ o by omega)]; exact zK8
  refine z_aload_n X 0 dX12_moves_81 rfl ?_
  refine z_get X fl_X12_244_12 dX12_moves_82 zK19 rfl ?_
  refine z_ixor X dX12_moves_85 ?_
  refine z_iret X E dX12_moves_86 (by omega) (by omega) ⟨?_, ?_, ?_⟩
  · rfl
  · rw [show wrs tr tn (bMoves 5) = wrs (upd tr tn 60) (tn + 1) (bMoves 0) from (by first | rfl | exact wrs_app _ _ _ _), show tn + (bMoves 5).length = (tn + 1) + (bMoves 0).length from (by first | rfl | (simp only [bRuns, bMoves, bChills, bTells, List.length_cons, List.length_append, List.length_nil]; omega))]; funext zz; by_cases zq1 : zz = o + 9; (rw [zq1, va_up_self]; exact zK20); by_cases zq0 : zz = o; (rw [zq0, va_up_ne _ _ (show o ≠ o + 9 by omega), va_up_self]; exact zK19); rw [va_up_ne _ _ zq1, va_up_ne _ _ zq0]; rw [ze15, ze2]; simp only [va_up, if_neg zq0, if_neg zq1]
  · rfl
set_option maxHeartbeats 4000000 in
set_option maxRecDepth 100000 in
theorem r_moves_6 {κ : Wc} {l : Launch} {h : Mm} {n : Nat} {o : Nat} {x : Int32} {tn : Nat} {dd : Nat} {w : Nat} {m : Int32} {d : Nat → Int32} {tr : Nat → Int32} {who : Nat} {im : Int32} {ba : Int32} {at_ : Int32} {sz : Int32} {fa : Int32} {op : Int32} {rm : Int32} {ti : Int32} (K0 : h o = some (.inr (12, [.ref (o + 1), .ref (o + 2), .ref (o + 3), .int im, .ref (o + 4), .int ba, .int at_, .int sz, .int fa, .int op, .ref (o + 5), .ref (o + 6), .int rm, .ref (o + 7), .ref (o + 8), .int ti, .ref (o + 9), .int (nI tn), .int (nI who), .ref (o + 10), .ref (o + 11), .ref (o + 12), .ref (o + 13)]))) (K1 : h (o + 9) = arI κ 40 tr) (K2 : h (o + 1) = arI κ 340 d) (p1 : who < 6) (p2 : w ≤ 6) (hw : d (20 + 2 * who) = nI w) (hm : d (20 + 2 * who + 1) = m) (hd : 4 ≤ dd) (ht : tn + 6 ≤ 40) : Con κ l yX12_moves cX12_moves 3 (some .int) dd 0 0 [.ref o, .int 6, .int x] h n (fun q h' n' => q = some (.int (vMoves 6 (nI who) m x)) ∧ h' = va_up (va_up h o (some (.inr (12, [.ref (o + 1), .ref (o + 2), .ref (o + 3), .int im, .ref (o + 4), .int ba, .int at_, .int sz, .int fa, .int op, .ref (o + 5), .ref (o + 6), .int rm, .ref (o + 7), .ref (o + 8), .int ti, .ref (o + 9), .int (nI (tn + (bMoves 6).length)), .int (nI who), .ref (o + 10), .ref (o + 11), .ref (o + 12), .ref (o + 13)])))) (o + 9) (arI κ 40 (wrs tr tn (bMoves 6))) ∧ n' = n) := by
  refine Con.of mk_X12_moves (Nat.le_of_ble_eq_true rfl) (fun G hG X E => ?_)
  subst hG
  refine z_ls (ls' := [(0, .ref o), (1, .int 6), (2, .int x)]) rfl ?_
  have hb1 := bRuns_le w
  have hb2 := bMoves_le w
  have hb3 := bChills_le w w
  have hbr0 := bRuns_le 0
  have hbm0 := bMoves_le 0
  have hbc0 := bChills_le 0 w
  have hbt0 := bTells_le 0 w
  have hbr1 := bRuns_le 1
  have hbm1 := bMoves_le 1
  have hbc1 := bChills_le 1 w
  have hbt1 := bTells_le 1 w
  have hbr2 := bRuns_le 2
  have hbm2 := bMoves_le 2
  have hbc2 := bChills_le 2 w
  have hbt2 := bTells_le 2 w
  have hbr3 := bRuns_le 3
  have hbm3 := bMoves_le 3
  have hbc3 := bChills_le 3 w
  have hbt3 := bTells_le 3 w
  have hbr4 := bRuns_le 4
  have hbm4 := bMoves_le 4
  have hbc4 := bChills_le 4 w
  have hbt4 := bTells_le 4 w
  have hbr5 := bRuns_le 5
  have hbm5 := bMoves_le 5
  have hbc5 := bChills_le 5 w
  have hbt5 := bTells_le 5 w
  have hbr6 := bRuns_le 6
  have hbm6 := bMoves_le 6
  have hbc6 := bChills_le 6 w
  have hbt6 := bTells_le 6 w
  refine z_iload_n X 1 dX12_moves_0 rfl ?_
  refine z_lookup (off := 86) X 87 dX12_moves_1 (by decide) (by decide) (by decide) ?_
  refine z_aload_n X 0 dX12_moves_87 rfl ?_
  refine z_iload_n X 1 dX12_moves_88 rfl ?_
  refine z_callS X (r_above (κ := κ) (n := n) (k := (6))  ) mk_X12_above dX12_moves_89 wd_1307 wd_1308 rfl rfl (Nat.le_of_ble_eq_true rfl) (by omega) (Nat.le_of_ble_eq_true rfl) (by omega) (by omega) (fun q zh1 zm3 zp4 => ?_)
  obtain ⟨rfl, ze2, zn5⟩ := zp4
  subst zm3
  subst zh1
  refine z_st (st' := [.int (aboveR 6), .ref o]) rfl ?_
  refine z_toe (y := 1) (by decide) ?_
  refine z_iload_n X 2 dX12_moves_92 rfl ?_
  refine z_callV X (r_moves_1 (κ := κ) (n := n) (o := (o)) (x := (x)) (tn := (tn)) (dd := (dd - 1)) (w := (w)) (m := (m)) (d := (d)) (tr := (tr)) (who := (who)) (im := (im)) (ba := (ba)) (at_ := (at_)) (sz := (sz)) (fa := (fa)) (op := (op)) (rm := (rm)) (ti := (ti)) K0 K1 K2 (p1) (p2) (hw) (hm) (by first | assumption | omega) (by first | assumption | omega)) mk_X12_moves dX12_moves_93 wd_1314 wd_1316 wd_54 rfl K0 rfl rfl rfl (Nat.le_of_ble_eq_true rfl) (by omega) (Nat.le_of_ble_eq_true rfl) (by omega) (by omega) (fun q zh6 zm8 zp9 => ?_)
  obtain ⟨rfl, ze7, zn10⟩ := zp9
  subst zm8
  refine z_st (st' := [.int (vMoves 1 (nI who) m x)]) rfl ?_
  have zK11 : zh6 o = some (.inr (12, [.ref (o + 1), .ref (o + 2), .ref (o + 3), .int im, .ref (o + 4), .int ba, .int at_, .int sz, .int fa, .int op, .ref (o + 5), .ref (o + 6), .int rm, .ref (o + 7), .ref (o + 8), .int ti, .ref (o + 9), .int (nI (tn + (bMoves 1).length)), .int (nI who), .ref (o + 10), .ref (o + 11), .ref (o + 12), .ref (o + 13)])) := by rw [ze7]; rw [va_up_ne _ _ (show o ≠ o + 9 by omega)]; exact va_up_self _ _ _
  have zK12 : zh6 (o + 9) = arI κ 40 (wrs tr tn (bMoves 1)) := by rw [ze7]; exact va_up_self _ _ _
  have zK13 : zh6 (o + 1) = arI κ 340 d := by rw [ze7]; rw [va_up_ne _ _ (show o + 1 ≠ o + 9 by omega)]; rw [va_up_ne _ _ (show o + 1 ≠ o by omega)]; exact K2
  refine z_iret X E dX12_moves_96 (by omega) (by omega) ⟨?_, ?_, ?_⟩
  · rfl
  · rw [show wrs tr tn (bMoves 6) = wrs tr tn (bMoves 1) from (by first | rfl | exact wrs_app _ _ _ _), show tn + (bMoves 6).length = tn + (bMoves 1).length from (by first | rfl | (simp only [bRuns, bMoves, bChills, bTells, List.length_cons, List.length_append, List.length_nil]; omega))]; funext zz; by_cases zq1 : zz = o + 9; (rw [zq1, va_up_self]; exact zK12); by_cases zq0 : zz = o; (rw [zq0, va_up_ne _ _ (show o ≠ o + 9 by omega), va_up_self]; exact zK11); rw [va_up_ne _ _ zq1, va_up_ne _ _ zq0]; rw [ze7]; simp only [va_up, if_neg zq0, if_neg zq1]
  · rfl
set_option maxHeartbeats 4000000 in
theorem r_moves {κ : Wc} {l : Launch} {h : Mm} {n : Nat} {k : Nat} {o : Nat} {x : Int32} {tn : Nat} {dd : Nat} {w : Nat} {m : Int32} {d : Nat → Int32} {tr : Nat → Int32} {who : Nat} {im : Int32} {ba : Int32} {at_ : Int32} {sz : Int32} {fa : Int32} {op : Int32} {rm : Int32} {ti : Int32} (K0 : h o = some (.inr (12, [.ref (o + 1), .ref (o + 2), .ref (o + 3), .int im, .ref (o + 4), .int ba, .int at_, .int sz, .int fa, .int op, .ref (o + 5), .ref (o + 6), .int rm, .ref (o + 7), .ref (o + 8), .int ti, .ref (o + 9), .int (nI tn), .int (nI who), .ref (o + 10), .ref (o + 11), .ref (o + 12), .ref (o + 13)]))) (K1 : h (o + 9) = arI κ 40 tr) (K2 : h (o + 1) = arI κ 340 d) (p1 : who < 6) (p2 : w ≤ 6) (hw : d (20 + 2 * who) = nI w) (hm : d (20 + 2 * who + 1) = m) (hd : 5 ≤ dd) (ht : tn + 8 ≤ 40) (hk : k ≤ 6) : Con κ l yX12_moves cX12_moves 3 (some .int) dd 0 0 [.ref o, .int (nI k), .int x] h n (fun q h' n' => q = some (.int (vMoves k (nI who) m x)) ∧ h' = va_up (va_up h o (some (.inr (12, [.ref (o + 1), .ref (o + 2), .ref (o + 3), .int im, .ref (o + 4), .int ba, .int at_, .int sz, .int fa, .int op, .ref (o + 5), .ref (o + 6), .int rm, .ref (o + 7), .ref (o + 8), .int ti, .ref (o + 9), .int (nI (tn + (bMoves k).length)), .int (nI who), .ref (o + 10), .ref (o + 11), .ref (o + 12), .ref (o + 13)])))) (o + 9) (arI κ 40 (wrs tr tn (bMoves k))) ∧ n' = n) := by
  match k, hk with
  | 0, _ => exact r_moves_0 K0 K1 K2 p1 p2 hw hm (by omega) (by omega)
  | 1, _ => exact r_moves_1 K0 K1 K2 p1 p2 hw hm (by omega) (by omega)
  | 2, _ => exact r_moves_2 K0 K1 K2 p1 p2 hw hm (by omega) (by omega)
  | 3, _ => exact r_moves_3 K0 K1 K2 p1 p2 hw hm (by omega) (by omega)
  | 4, _ => exact r_moves_4 K0 K1 K2 p1 p2 hw hm (by omega) (by omega)
  | 5, _ => exact r_moves_5 K0 K1 K2 p1 p2 hw hm (by omega) (by omega)
  | 6, _ => exact r_moves_6 K0 K1 K2 p1 p2 hw hm (by omega) (by omega)
set_option maxHeartbeats 4000000 in
set_option maxRecDepth 100000 in
theorem r_chills_0 {κ : Wc} {l : Launch} {h : Mm} {n : Nat} {o : Nat} {x : Int32} {tn : Nat} {dd : Nat} {w : Nat} {m : Int32} {d : Nat → Int32} {tr : Nat → Int32} {who : Nat} {im : Int32} {ba : Int32} {at_ : Int32} {sz : Int32} {fa : Int32} {op : Int32} {rm : Int32} {ti : Int32} (K0 : h o = some (.inr (12, [.ref (o + 1), .ref (o + 2), .ref (o + 3), .int im, .ref (o + 4), .int ba, .int at_, .int sz, .int fa, .int op, .ref (o + 5), .ref (o + 6), .int rm, .ref (o + 7), .ref (o + 8), .int ti, .ref (o + 9), .int (nI tn), .int (nI who), .ref (o + 10), .ref (o + 11), .ref (o + 12), .ref (o + 13)]))) (K1 : h (o + 9) = arI κ 40 tr) (K2 : h (o + 1) = arI κ 340 d) (p1 : who < 6) (p2 : w ≤ 6) (hw : d (20 + 2 * who) = nI w) (hm : d (20 + 2 * who + 1) = m) (hd : 6 ≤ dd) (ht : tn + 9 ≤ 40) : Con κ l yX12_chills cX12_chills 4 (some .int) dd 0 0 [.ref o, .int 0, .int x] h n (fun q h' n' => q = some (.int (vChills 0 w (nI who) m x)) ∧ h' = va_up (va_up h o (some (.inr (12, [.ref (o + 1), .ref (o + 2), .ref (o + 3), .int im, .ref (o + 4), .int ba, .int at_, .int sz, .int fa, .int op, .ref (o + 5), .ref (o + 6), .int rm, .ref (o + 7), .ref (o + 8), .int ti, .ref (o + 9), .int (nI (tn + (bChills 0 w).length)), .int (nI who), .ref (o + 10), .ref (o + 11), .ref (o + 12), .ref (o + 13)])))) (o + 9) (arI κ 40 (wrs tr tn (bChills 0 w))) ∧ n' = n) := by
  refine Con.of mk_X12_chills (Nat.le_of_ble_eq_true rfl) (fun G hG X E => ?_)
  subst hG
  refine z_ls (ls' := [(0, .ref o), (1, .int 0), (2, .int x)]) rfl ?_
  have hb1 := bRuns_le w
  have hb2 := bMoves_le w
  have hb3 := bChills_le w w
  have hbr0 := bRuns_le 0
  have hbm0 := bMoves_le 0
  have hbc0 := bChills_le 0 w
  have hbt0 := bTells_le 0 w
  have hbr1 := bRuns_le 1
  have hbm1 := bMoves_le 1
  have hbc1 := bChills_le 1 w
  have hbt1 := bTells_le 1 w
  have hbr2 := bRuns_le 2
  have hbm2 := bMoves_le 2
  have hbc2 := bChills_le 2 w
  have hbt2 := bTells_le 2 w
  have hbr3 := bRuns_le 3
  have hbm3 := bMoves_le 3
  have hbc3 := bChills_le 3 w
  have hbt3 := bTells_le 3 w
  have hbr4 := bRuns_le 4
  have hbm4 := bMoves_le 4
  have hbc4 := bChills_le 4 w
  have hbt4 := bTells_le 4 w
  have hbr5 := bRuns_le 5
  have hbm5 := bMoves_le 5
  have hbc5 := bChills_le 5 w
  have hbt5 := bTells_le 5 w
  have hbr6 := bRuns_le 6
  have hbm6 := bMoves_le 6
  have hbc6 := bChills_le 6 w
  have hbt6 := bTells_le 6 w
  refine z_iload_n X 1 dX12_chills_0 rfl ?_
  refine z_lookup (off := 35) X 36 dX12_chills_1 (by decide) (by decide) (by decide) ?_
  refine z_aload_n X 0 dX12_chills_36 rfl ?_
  refine z_bipush (v := 11) X dX12_chills_37 (by decide) ?_
  refine z_callV X (r_ran2 (κ := κ) (n := n) (o := (o)) (b := (11)) (tn := (tn)) (tr := (tr)) (im := (im)) (ba := (ba)) (at_ := (at_)) (sz := (sz)) (fa := (fa)) (op := (op)) (rm := (rm)) (ti := (ti)) (wh := (nI who)) K0 K1 (by first | assumption | omega)) mk_X12_ran dX12_chills_39 wd_1303 wd_1305 wd_52 rfl K0 rfl rfl rfl (Nat.le_of_ble_eq_true rfl) (by omega) (Nat.le_of_ble_eq_true rfl) (by omega) (by omega) (fun q zh1 zm3 zp4 => ?_)
  obtain ⟨rfl, ze2, zn5⟩ := zp4
  subst zm3
  refine z_st (st' := []) rfl ?_
  have zK6 : zh1 o = some (.inr (12, [.ref (o + 1), .ref (o + 2), .ref (o + 3), .int im, .ref (o + 4), .int ba, .int at_, .int sz, .int fa, .int op, .ref (o + 5), .ref (o + 6), .int rm, .ref (o + 7), .ref (o + 8), .int ti, .ref (o + 9), .int (nI (tn + 1)), .int ((nI who)), .ref (o + 10), .ref (o + 11), .ref (o + 12), .ref (o + 13)])) := by rw [ze2]; rw [va_up_ne _ _ (show o ≠ o + 9 by omega)]; exact va_up_self _ _ _
  have zK7 : zh1 (o + 9) = arI κ 40 (upd tr tn 11) := by rw [ze2]; exact va_up_self _ _ _
  have zK8 : zh1 (o + 1) = arI κ 340 d := by rw [ze2]; rw [va_up_ne _ _ (show o + 1 ≠ o + 9 by omega)]; rw [va_up_ne _ _ (show o + 1 ≠ o by omega)]; exact K2
  refine z_aload_n X 0 dX12_chills_42 rfl ?_
  refine z_aload_n X 0 dX12_chills_43 rfl ?_
  refine z_callV X (r_own (κ := κ) (n := n) (o := (o)) (d := (d)) (who := (who)) (im := (im)) (ba := (ba)) (at_ := (at_)) (sz := (sz)) (fa := (fa)) (op := (op)) (rm := (rm)) (ti := (ti)) (tm := (nI (tn + 1))) zK6 zK8 (by first | assumption | omega)) mk_X12_own dX12_chills_44 wd_1295 wd_1297 wd_50 rfl zK6 rfl rfl rfl (Nat.le_of_ble_eq_true rfl) (by omega) (Nat.le_of_ble_eq_true rfl) (by omega) (by omega) (fun q zh9 zm11 zp12 => ?_)
  obtain ⟨rfl, ze10, zn13⟩ := zp12
  subst zm11
  subst zh9
  refine z_st (st' := [.int (d (20 + 2 * who)), .ref o]) rfl ?_
  refine z_toe (y := nI w) (hw) ?_
  refine z_iload_n X 2 dX12_chills_47 rfl ?_
  refine z_callV X (r_runs (κ := κ) (n := n) (k := (w)) (o := (o)) (x := (x)) (tn := (tn + 1)) (dd := (dd - 1)) (w := (w)) (m := (m)) (d := (d)) (tr := (upd tr tn 11)) (who := (who)) (im := (im)) (ba := (ba)) (at_ := (at_)) (sz := (sz)) (fa := (fa)) (op := (op)) (rm := (rm)) (ti := (ti)) zK6 zK7 zK8 (p1) (p2) (hw) (hm) (by first | assumption | omega) (by first | assumption | omega) (p2)) mk_X12_runs dX12_chills_48 wd_1299 wd_1301 wd_51 rfl zK6 rfl rfl rfl (Nat.le_of_ble_eq_true rfl) (by omega) (Nat.le_of_ble_eq_true rfl) (by omega) (by omega) (fun q zh14 zm16 zp17 => ?_)
  obtain ⟨rfl, ze15, zn18⟩ := zp17
  subst zm16
  refine z_st (st' := [.int (vRuns w (nI who) x)]) rfl ?_
  have zK19 : zh14 o = some (.inr (12, [.ref (o + 1), .ref (o + 2), .ref (o + 3), .int im, .ref (o + 4), .int ba, .int at_, .int sz, .int fa, .int op, .ref (o + 5), .ref (o + 6), .int rm, .ref (o + 7), .ref (o + 8), .int ti, .ref (o + 9), .int (nI ((tn + 1) + (bRuns w).length)), .int (nI who), .ref (o + 10), .ref (o + 11), .ref (o + 12), .ref (o + 13)])) := by rw [ze15]; rw [va_up_ne _ _ (show o ≠ o + 9 by omega)]; exact va_up_self _ _ _
  have zK20 : zh14 (o + 9) = arI κ 40 (wrs (upd tr tn 11) (tn + 1) (bRuns w)) := by rw [ze15]; exact va_up_self _ _ _
  have zK21 : zh14 (o + 1) = arI κ 340 d := by rw [ze15]; rw [va_up_ne _ _ (show o + 1 ≠ o + 9 by omega)]; rw [va_up_ne _ _ (show o + 1 ≠ o by omega)]; exact zK8
  refine z_iconst (v := 2) X dX12_chills_51 (by decide) ?_
  refine z_imul X dX12_chills_52 ?_
  refine z_iret X E dX12_chills_53 (by omega) (by omega) ⟨?_, ?_, ?_⟩
  · rfl
  · rw [show wrs tr tn (bChills 0 w) = wrs (upd tr tn 11) (tn + 1) (bRuns w) from (by first | rfl | exact wrs_app _ _ _ _), show tn + (bChills 0 w).length = (tn + 1) + (bRuns w).length from (by first | rfl | (simp only [bRuns, bMoves, bChills, bTells, List.length_cons, List.length_append, List.length_nil]; omega))]; funext zz; by_cases zq1 : zz = o + 9; (rw [zq1, va_up_self]; exact zK20); by_cases zq0 : zz = o; (rw [zq0, va_up_ne _ _ (show o ≠ o + 9 by omega), va_up_self]; exact zK19); rw [va_up_ne _ _ zq1, va_up_ne _ _ zq0]; rw [ze15, ze2]; simp only [va_up, if_neg zq0, if_neg zq1]
  · rfl
set_option maxHeartbeats 4000000 in
set_option maxRecDepth 100000 in
theorem r_chills_1 {κ : Wc} {l : Launch} {h : Mm} {n : Nat} {o : Nat} {x : Int32} {tn : Nat} {dd : Nat} {w : Nat} {m : Int32} {d : Nat → Int32} {tr : Nat → Int32} {who : Nat} {im : Int32} {ba : Int32} {at_ : Int32} {sz : Int32} {fa : Int32} {op : Int32} {rm : Int32} {ti : Int32} (K0 : h o = some (.inr (12, [.ref (o + 1), .ref (o + 2), .ref (o + 3), .int im, .ref (o + 4), .int ba, .int at_, .int sz, .int fa, .int op, .ref (o + 5), .ref (o + 6), .int rm, .ref (o + 7), .ref (o + 8), .int ti, .ref (o + 9), .int (nI tn), .int (nI who), .ref (o + 10), .ref (o + 11), .ref (o + 12), .ref (o + 13)]))) (K1 : h (o + 9) = arI κ 40 tr) (K2 : h (o + 1) = arI κ 340 d) (p1 : who < 6) (p2 : w ≤ 6) (hw : d (20 + 2 * who) = nI w) (hm : d (20 + 2 * who + 1) = m) (hd : 8 ≤ dd) (ht : tn + 17 ≤ 40) : Con κ l yX12_chills cX12_chills 4 (some .int) dd 0 0 [.ref o, .int 1, .int x] h n (fun q h' n' => q = some (.int (vChills 1 w (nI who) m x)) ∧ h' = va_up (va_up h o (some (.inr (12, [.ref (o + 1), .ref (o + 2), .ref (o + 3), .int im, .ref (o + 4), .int ba, .int at_, .int sz, .int fa, .int op, .ref (o + 5), .ref (o + 6), .int rm, .ref (o + 7), .ref (o + 8), .int ti, .ref (o + 9), .int (nI (tn + (bChills 1 w).length)), .int (nI who), .ref (o + 10), .ref (o + 11), .ref (o + 12), .ref (o + 13)])))) (o + 9) (arI κ 40 (wrs tr tn (bChills 1 w))) ∧ n' = n) := by
  refine Con.of mk_X12_chills (Nat.le_of_ble_eq_true rfl) (fun G hG X E => ?_)
  subst hG
  refine z_ls (ls' := [(0, .ref o), (1, .int 1), (2, .int x)]) rfl ?_
  have hb1 := bRuns_le w
  have hb2 := bMoves_le w
  have hb3 := bChills_le w w
  have hbr0 := bRuns_le 0
  have hbm0 := bMoves_le 0
  have hbc0 := bChills_le 0 w
  have hbt0 := bTells_le 0 w
  have hbr1 := bRuns_le 1
  have hbm1 := bMoves_le 1
  have hbc1 := bChills_le 1 w
  have hbt1 := bTells_le 1 w
  have hbr2 := bRuns_le 2
  have hbm2 := bMoves_le 2
  have hbc2 := bChills_le 2 w
  have hbt2 := bTells_le 2 w
  have hbr3 := bRuns_le 3
  have hbm3 := bMoves_le 3
  have hbc3 := bChills_le 3 w
  have hbt3 := bTells_le 3 w
  have hbr4 := bRuns_le 4
  have hbm4 := bMoves_le 4
  have hbc4 := bChills_le 4 w
  have hbt4 := bTells_le 4 w
  have hbr5 := bRuns_le 5
  have hbm5 := bMoves_le 5
  have hbc5 := bChills_le 5 w
  have hbt5 := bTells_le 5 w
  have hbr6 := bRuns_le 6
  have hbm6 := bMoves_le 6
  have hbc6 := bChills_le 6 w
  have hbt6 := bTells_le 6 w
  refine z_iload_n X 1 dX12_chills_0 rfl ?_
  refine z_lookup (off := 53) X 54 dX12_chills_1 (by decide) (by decide) (by decide) ?_
  refine z_aload_n X 0 dX12_chills_54 rfl ?_
  refine z_bipush (v := 20) X dX12_chills_55 (by decide) ?_
  refine z_callV X (r_ran2 (κ := κ) (n := n) (o := (o)) (b := (20)) (tn := (tn)) (tr := (tr)) (im := (im)) (ba := (ba)) (at_ := (at_)) (sz := (sz)) (fa := (fa)) (op := (op)) (rm := (rm)) (ti := (ti)) (wh := (nI who)) K0 K1 (by first | assumption | omega)) mk_X12_ran dX12_chills_57 wd_1303 wd_1305 wd_52 rfl K0 rfl rfl rfl (Nat.le_of_ble_eq_true rfl) (by omega) (Nat.le_of_ble_eq_true rfl) (by omega) (by omega) (fun q zh1 zm3 zp4 => ?_)
  obtain ⟨rfl, ze2, zn5⟩ := zp4
  subst zm3
  refine z_st (st' := []) rfl ?_
  have zK6 : zh1 o = some (.inr (12, [.ref (o + 1), .ref (o + 2), .ref (o + 3), .int im, .ref (o + 4), .int ba, .int at_, .int sz, .int fa, .int op, .ref (o + 5), .ref (o + 6), .int rm, .ref (o + 7), .ref (o + 8), .int ti, .ref (o + 9), .int (nI (tn + 1)), .int ((nI who)), .ref (o + 10), .ref (o + 11), .ref (o + 12), .ref (o + 13)])) := by rw [ze2]; rw [va_up_ne _ _ (show o ≠ o + 9 by omega)]; exact va_up_self _ _ _
  have zK7 : zh1 (o + 9) = arI κ 40 (upd tr tn 20) := by rw [ze2]; exact va_up_self _ _ _
  have zK8 : zh1 (o + 1) = arI κ 340 d := by rw [ze2]; rw [va_up_ne _ _ (show o + 1 ≠ o + 9 by omega)]; rw [va_up_ne _ _ (show o + 1 ≠ o by omega)]; exact K2
  refine z_aload_n X 0 dX12_chills_60 rfl ?_
  refine z_iconst (v := 1) X dX12_chills_61 (by decide) ?_
  refine z_callS X (r_above (κ := κ) (n := n) (k := (1))  ) mk_X12_above dX12_chills_62 wd_1307 wd_1308 rfl rfl (Nat.le_of_ble_eq_true rfl) (by omega) (Nat.le_of_ble_eq_true rfl) (by omega) (by omega) (fun q zh9 zm11 zp12 => ?_)
  obtain ⟨rfl, ze10, zn13⟩ := zp12
  subst zm11
  subst zh9
  refine z_st (st' := [.int (aboveR 1), .ref o]) rfl ?_
  refine z_toe (y := 0) (by decide) ?_
  refine z_iload_n X 2 dX12_chills_65 rfl ?_
  refine z_callV X (r_chills_0 (κ := κ) (n := n) (o := (o)) (x := (x)) (tn := (tn + 1)) (dd := (dd - 1)) (w := (w)) (m := (m)) (d := (d)) (tr := (upd tr tn 20)) (who := (who)) (im := (im)) (ba := (ba)) (at_ := (at_)) (sz := (sz)) (fa := (fa)) (op := (op)) (rm := (rm)) (ti := (ti)) zK6 zK7 zK8 (p1) (p2) (hw) (hm) (by first | assumption | omega) (by first | assumption | omega)) mk_X12_chills dX12_chills_66 wd_1310 wd_1312 wd_53 rfl zK6 rfl rfl rfl (Nat.le_of_ble_eq_true rfl) (by omega) (Nat.le_of_ble_eq_true rfl) (by omega) (by omega) (fun q zh14 zm16 zp17 => ?_)
  obtain ⟨rfl, ze15, zn18⟩ := zp17
  subst zm16
  refine z_st (st' := [.int (vChills 0 w (nI who) m x)]) rfl ?_
  have zK19 : zh14 o = some (.inr (12, [.ref (o + 1), .ref (o + 2), .ref (o + 3), .int im, .ref (o + 4), .int ba, .int at_, .int sz, .int fa, .int op, .ref (o + 5), .ref (o + 6), .int rm, .ref (o + 7), .ref (o + 8), .int ti, .ref (o + 9), .int (nI ((tn + 1) + (bChills 0 w).length)), .int (nI who), .ref (o + 10), .ref (o + 11), .ref (o + 12), .ref (o + 13)])) := by rw [ze15]; rw [va_up_ne _ _ (show o ≠ o + 9 by omega)]; exact va_up_self _ _ _
  have zK20 : zh14 (o + 9) = arI κ 40 (wrs (upd tr tn 20) (tn + 1) (bChills 0 w)) := by rw [ze15]; exact va_up_self _ _ _
  have zK21 : zh14 (o + 1) = arI κ 340 d := by rw [ze15]; rw [va_up_ne _ _ (show o + 1 ≠ o + 9 by omega)]; rw [va_up_ne _ _ (show o + 1 ≠ o by omega)]; exact zK8
  refine z_istore_n (ls' := [(3, .int (vChills 0 w (nI who) m x)), (0, .ref o), (1, .int 1), (2, .int x)]) X dX12_chills_69 (by decide) rfl ?_
  refine z_iload_n X 0 dX12_chills_70 rfl ?_
  refine z_aload_n X 1 dX12_chills_71 rfl ?_
  refine z_aload_n X 1 dX12_chills_72 rfl ?_
  refine z_callV X (r_own (κ := κ) (n := n) (o := (o)) (d := (d)) (who := (who)) (im := (im)) (ba := (ba)) (at_ := (at_)) (sz := (sz)) (fa := (fa)) (op := (op)) (rm := (rm)) (ti := (ti)) (tm := (nI ((tn + 1) + (bChills 0 w).length))) zK19 zK21 (by first | assumption | omega)) mk_X12_own dX12_chills_73 wd_1295 wd_1297 wd_50 rfl zK19 rfl rfl rfl (Nat.le_of_ble_eq_true rfl) (by omega) (Nat.le_of_ble_eq_true rfl) (by omega) (by omega) (fun q zh22 zm24 zp25 => ?_)
  obtain ⟨rfl, ze23, zn26⟩ := zp25
  subst zm24
  subst zh22
  refine z_st (st' := [.int (d (20 + 2 * who)), .ref o, .int (vChills 0 w (nI who) m x)]) rfl ?_
  refine z_toe (y := nI w) (hw) ?_
  refine z_iconst (v := 1) X dX12_chills_76 (by decide) ?_
  refine z_callV X (r_moves (κ := κ) (n := n) (k := (w)) (o := (o)) (x := (1)) (tn := ((tn + 1) + (bChills 0 w).length)) (dd := (dd - 1)) (w := (w)) (m := (m)) (d := (d)) (tr := (wrs (upd tr tn 20) (tn + 1) (bChills 0 w))) (who := (who)) (im := (im)) (ba := (ba)) (at_ := (at_)) (sz := (sz)) (fa := (fa)) (op := (op)) (rm := (rm)) (ti := (ti)) zK19 zK20 zK21 (p1) (p2) (hw) (hm) (by first | assumption | omega) (by first | assumption | omega) (p2)) mk_X12_moves dX12_chills_77 wd_1314 wd_1316 wd_54 rfl zK19 rfl rfl rfl (Nat.le_of_ble_eq_true rfl) (by omega) (Nat.le_of_ble_eq_true rfl) (by omega) (by omega) (fun q zh27 zm29 zp30 => ?_)
  obtain ⟨rfl, ze28, zn31⟩ := zp30
  subst zm29
  refine z_st (st' := [.int (vMoves w (nI who) m 1), .int (vChills 0 w (nI who) m x)]) rfl ?_
  have zK32 : zh27 o = some (.inr (12, [.ref (o + 1), .ref (o + 2), .ref (o + 3), .int im, .ref (o + 4), .int ba, .int at_, .int sz, .int fa, .int op, .ref (o + 5), .ref (o + 6), .int rm, .ref (o + 7), .ref (o + 8), .int ti, .ref (o + 9), .int (nI (((tn + 1) + (bChills 0 w).length) + (bMoves w).length)), .int (nI who), .ref (o + 10), .ref (o + 11), .ref (o + 12), .ref (o + 13)])) := by rw [ze28]; rw [va_up_ne _ _ (show o ≠ o + 9 by omega)]; exact va_up_self _ _ _
  have zK33 : zh27 (o + 9) = arI κ 40 (wrs (wrs (upd tr tn 20) (tn + 1) (bChills 0 w)) ((tn + 1) + (bChills 0 w).length) (bMoves w)) := by rw [ze28]; exact va_up_self _ _ _
  have zK34 : zh27 (o + 1) = arI κ 340 d := by rw [ze28]; rw [va_up_ne _ _ (show o + 1 ≠ o + 9 by omega)]; rw [va_up_ne _ _ (show o + 1 ≠ o by omega)]; exact zK21
  refine z_isub X dX12_chills_80 ?_
  refine z_iret X E dX12_chills_81 (by omega) (by omega) ⟨?_, ?_, ?_⟩
  · rfl
  · rw [show wrs tr tn (bChills 1 w) = wrs (wrs (upd tr tn 20) (tn + 1) (bChills 0 w)) ((tn + 1) + (bChills 0 w).length) (bMoves w) from (by first | rfl | exact wrs_app _ _ _ _), show tn + (bChills 1 w).length = ((tn + 1) + (bChills 0 w).length) + (bMoves w).length from (by first | rfl | (simp only [bRuns, bMoves, bChills, bTells, List.length_cons, List.length_append, List.length_nil]; omega))]; funext zz; by_cases zq1 : zz = o + 9; (rw [zq1, va_up_self]; exact zK33); by_cases zq0 : zz = o; (rw [zq0, va_up_ne _ _ (show o ≠ o + 9 by omega), va_up_self]; exact zK32); rw [va_up_ne _ _ zq1, va_up_ne _ _ zq0]; rw [ze28, ze15, ze2]; simp only [va_up, if_neg zq0, if_neg zq1]
  · rfl
set_option maxHeartbeats 4000000 in
set_option maxRecDepth 100000 in
theorem r_chills_2 {κ : Wc} {l : Launch} {h : Mm} {n : Nat} {o : Nat} {x : Int32} {tn : Nat} {dd : Nat} {w : Nat} {m : Int32} {d : Nat → Int32} {tr : Nat → Int32} {who : Nat} {im : Int32} {ba : Int32} {at_ : Int32} {sz : Int32} {fa : Int32} {op : Int32} {rm : Int32} {ti : Int32} (K0 : h o = some (.inr (12, [.ref (o + 1), .ref (o + 2), .ref (o + 3), .int im, .ref (o + 4), .int ba, .int at_, .int sz, .int fa, .int op, .ref (o + 5), .ref (o + 6), .int rm, .ref (o + 7), .ref (o + 8), .int ti, .ref (o + 9), .int (nI tn), .int (nI who), .ref (o + 10), .ref (o + 11), .ref (o + 12), .ref (o + 13)]))) (K1 : h (o + 9) = arI κ 40 tr) (K2 : h (o + 1) = arI κ 340 d) (p1 : who < 6) (p2 : w ≤ 6) (hw : d (20 + 2 * who) = nI w) (hm : d (20 + 2 * who + 1) = m) (hd : 7 ≤ dd) (ht : tn + 9 ≤ 40) : Con κ l yX12_chills cX12_chills 4 (some .int) dd 0 0 [.ref o, .int 2, .int x] h n (fun q h' n' => q = some (.int (vChills 2 w (nI who) m x)) ∧ h' = va_up (va_up h o (some (.inr (12, [.ref (o + 1), .ref (o + 2), .ref (o + 3), .int im, .ref (o + 4), .int ba, .int at_, .int sz, .int fa, .int op, .ref (o + 5), .ref (o + 6), .int rm, .ref (o + 7), .ref (o + 8), .int ti, .ref (o + 9), .int (nI (tn + (bChills 2 w).length)), .int (nI who), .ref (o + 10), .ref (o + 11), .ref (o + 12), .ref (o + 13)])))) (o + 9) (arI κ 40 (wrs tr tn (bChills 2 w))) ∧ n' = n) := by
  refine Con.of mk_X12_chills (Nat.le_of_ble_eq_true rfl) (fun G hG X E => ?_)
  subst hG
  refine z_ls (ls' := [(0, .ref o), (1, .int 2), (2, .int x)]) rfl ?_
  have hb1 := bRuns_le w
  have hb2 := bMoves_le w
  have hb3 := bChills_le w w
  have hbr0 := bRuns_le 0
  have hbm0 := bMoves_le 0
  have hbc0 := bChills_le 0 w
  have hbt0 := bTells_le 0 w
  have hbr1 := bRuns_le 1
  have hbm1 := bMoves_le 1
  have hbc1 := bChills_le 1 w
  have hbt1 := bTells_le 1 w
  have hbr2 := bRuns_le 2
  have hbm2 := bMoves_le 2
  have hbc2 := bChills_le 2 w
  have hbt2 := bTells_le 2 w
  have hbr3 := bRuns_le 3
  have hbm3 := bMoves_le 3
  have hbc3 := bChills_le 3 w
  have hbt3 := bTells_le 3 w
  have hbr4 := bRuns_le 4
  have hbm4 := bMoves_le 4
  have hbc4 := bChills_le 4 w
  have hbt4 := bTells_le 4 w
  have hbr5 := bRuns_le 5
  have hbm5 := bMoves_le 5
  have hbc5 := bChills_le 5 w
  have hbt5 := bTells_le 5 w
  have hbr6 := bRuns_le 6
  have hbm6 := bMoves_le 6
  have hbc6 := bChills_le 6 w
  have hbt6 := bTells_le 6 w
  refine z_iload_n X 1 dX12_chills_0 rfl ?_
  refine z_lookup (off := 103) X 104 dX12_chills_1 (by decide) (by decide) (by decide) ?_
  refine z_aload_n X 0 dX12_chills_104 rfl ?_
  refine z_iload_n X 1 dX12_chills_105 rfl ?_
  refine z_callS X (r_above (κ := κ) (n := n) (k := (2))  ) mk_X12_above dX12_chills_106 wd_1307 wd_1308 rfl rfl (Nat.le_of_ble_eq_true rfl) (by omega) (Nat.le_of_ble_eq_true rfl) (by omega) (by omega) (fun q zh1 zm3 zp4 => ?_)
  obtain ⟨rfl, ze2, zn5⟩ := zp4
  subst zm3
  subst zh1
  refine z_st (st' := [.int (aboveR 2), .ref o]) rfl ?_
  refine z_toe (y := 0) (by decide) ?_
  refine z_iload_n X 2 dX12_chills_109 rfl ?_
  refine z_callV X (r_chills_0 (κ := κ) (n := n) (o := (o)) (x := (x)) (tn := (tn)) (dd := (dd - 1)) (w := (w)) (m := (m)) (d := (d)) (tr := (tr)) (who := (who)) (im := (im)) (ba := (ba)) (at_ := (at_)) (sz := (sz)) (fa := (fa)) (op := (op)) (rm := (rm)) (ti := (ti)) K0 K1 K2 (p1) (p2) (hw) (hm) (by first | assumption | omega) (by first | assumption | omega)) mk_X12_chills dX12_chills_110 wd_1310 wd_1312 wd_53 rfl K0 rfl rfl rfl (Nat.le_of_ble_eq_true rfl) (by omega) (Nat.le_of_ble_eq_true rfl) (by omega) (by omega) (fun q zh6 zm8 zp9 => ?_)
  obtain ⟨rfl, ze7, zn10⟩ := zp9
  subst zm8
  refine z_st (st' := [.int (vChills 0 w (nI who) m x)]) rfl ?_
  have zK11 : zh6 o = some (.inr (12, [.ref (o + 1), .ref (o + 2), .ref (o + 3), .int im, .ref (o + 4), .int ba, .int at_, .int sz, .int fa, .int op, .ref (o + 5), .ref (o + 6), .int rm, .ref (o + 7), .ref (o + 8), .int ti, .ref (o + 9), .int (nI (tn + (bChills 0 w).length)), .int (nI who), .ref (o + 10), .ref (o + 11), .ref (o + 12), .ref (o + 13)])) := by rw [ze7]; rw [va_up_ne _ _ (show o ≠ o + 9 by omega)]; exact va_up_self _ _ _
  have zK12 : zh6 (o + 9) = arI κ 40 (wrs tr tn (bChills 0 w)) := by rw [ze7]; exact va_up_self _ _ _
  have zK13 : zh6 (o + 1) = arI κ 340 d := by rw [ze7]; rw [va_up_ne _ _ (show o + 1 ≠ o + 9 by omega)]; rw [va_up_ne _ _ (show o + 1 ≠ o by omega)]; exact K2
  refine z_iret X E dX12_chills_113 (by omega) (by omega) ⟨?_, ?_, ?_⟩
  · rfl
  · rw [show wrs tr tn (bChills 2 w) = wrs tr tn (bChills 0 w) from (by first | rfl | exact wrs_app _ _ _ _), show tn + (bChills 2 w).length = tn + (bChills 0 w).length from (by first | rfl | (simp only [bRuns, bMoves, bChills, bTells, List.length_cons, List.length_append, List.length_nil]; omega))]; funext zz; by_cases zq1 : zz = o + 9; (rw [zq1, va_up_self]; exact zK12); by_cases zq0 : zz = o; (rw [zq0, va_up_ne _ _ (show o ≠ o + 9 by omega), va_up_self]; exact zK11); rw [va_up_ne _ _ zq1, va_up_ne _ _ zq0]; rw [ze7]; simp only [va_up, if_neg zq0, if_neg zq1]
  · rfl
set_option maxHeartbeats 4000000 in
set_option maxRecDepth 100000 in
theorem r_chills_3 {κ : Wc} {l : Launch} {h : Mm} {n : Nat} {o : Nat} {x : Int32} {tn : Nat} {dd : Nat} {w : Nat} {m : Int32} {d : Nat → Int32} {tr : Nat → Int32} {who : Nat} {im : Int32} {ba : Int32} {at_ : Int32} {sz : Int32} {fa : Int32} {op : Int32} {rm : Int32} {ti : Int32} (K0 : h o = some (.inr (12, [.ref (o + 1), .ref (o + 2), .ref (o + 3), .int im, .ref (o + 4), .int ba, .int at_, .int sz, .int fa, .int op, .ref (o + 5), .ref (o + 6), .int rm, .ref (o + 7), .ref (o + 8), .int ti, .ref (o + 9), .int (nI tn), .int (nI who), .ref (o + 10), .ref (o + 11), .ref (o + 12), .ref (o + 13)]))) (K1 : h (o + 9) = arI κ 40 tr) (K2 : h (o + 1) = arI κ 340 d) (p1 : who < 6) (p2 : w ≤ 6) (hw : d (20 + 2 * who) = nI w) (hm : d (20 + 2 * who + 1) = m) (hd : 8 ≤ dd) (ht : tn + 9 ≤ 40) : Con κ l yX12_chills cX12_chills 4 (some .int) dd 0 0 [.ref o, .int 3, .int x] h n (fun q h' n' => q = some (.int (vChills 3 w (nI who) m x)) ∧ h' = va_up (va_up h o (some (.inr (12, [.ref (o + 1), .ref (o + 2), .ref (o + 3), .int im, .ref (o + 4), .int ba, .int at_, .int sz, .int fa, .int op, .ref (o + 5), .ref (o + 6), .int rm, .ref (o + 7), .ref (o + 8), .int ti, .ref (o + 9), .int (nI (tn + (bChills 3 w).length)), .int (nI who), .ref (o + 10), .ref (o + 11), .ref (o + 12), .ref (o + 13)])))) (o + 9) (arI κ 40 (wrs tr tn (bChills 3 w))) ∧ n' = n) := by
  refine Con.of mk_X12_chills (Nat.le_of_ble_eq_true rfl) (fun G hG X E => ?_)
  subst hG
  refine z_ls (ls' := [(0, .ref o), (1, .int 3), (2, .int x)]) rfl ?_
  have hb1 := bRuns_le w
  have hb2 := bMoves_le w
  have hb3 := bChills_le w w
  have hbr0 := bRuns_le 0
  have hbm0 := bMoves_le 0
  have hbc0 := bChills_le 0 w
  have hbt0 := bTells_le 0 w
  have hbr1 := bRuns_le 1
  have hbm1 := bMoves_le 1
  have hbc1 := bChills_le 1 w
  have hbt1 := bTells_le 1 w
  have hbr2 := bRuns_le 2
  have hbm2 := bMoves_le 2
  have hbc2 := bChills_le 2 w
  have hbt2 := bTells_le 2 w
  have hbr3 := bRuns_le 3
  have hbm3 := bMoves_le 3
  have hbc3 := bChills_le 3 w
  have hbt3 := bTells_le 3 w
  have hbr4 := bRuns_le 4
  have hbm4 := bMoves_le 4
  have hbc4 := bChills_le 4 w
  have hbt4 := bTells_le 4 w
  have hbr5 := bRuns_le 5
  have hbm5 := bMoves_le 5
  have hbc5 := bChills_le 5 w
  have hbt5 := bTells_le 5 w
  have hbr6 := bRuns_le 6
  have hbm6 := bMoves_le 6
  have hbc6 := bChills_le 6 w
  have hbt6 := bTells_le 6 w
  refine z_iload_n X 1 dX12_chills_0 rfl ?_
  refine z_lookup (off := 103) X 104 dX12_chills_1 (by decide) (by decide) (by decide) ?_
  refine z_aload_n X 0 dX12_chills_104 rfl ?_
  refine z_iload_n X 1 dX12_chills_105 rfl ?_
  refine z_callS X (r_above (κ := κ) (n := n) (k := (3))  ) mk_X12_above dX12_chills_106 wd_1307 wd_1308 rfl rfl (Nat.le_of_ble_eq_true rfl) (by omega) (Nat.le_of_ble_eq_true rfl) (by omega) (by omega) (fun q zh1 zm3 zp4 => ?_)
  obtain ⟨rfl, ze2, zn5⟩ := zp4
  subst zm3
  subst zh1
  refine z_st (st' := [.int (aboveR 3), .ref o]) rfl ?_
  refine z_toe (y := 2) (by decide) ?_
  refine z_iload_n X 2 dX12_chills_109 rfl ?_
  refine z_callV X (r_chills_2 (κ := κ) (n := n) (o := (o)) (x := (x)) (tn := (tn)) (dd := (dd - 1)) (w := (w)) (m := (m)) (d := (d)) (tr := (tr)) (who := (who)) (im := (im)) (ba := (ba)) (at_ := (at_)) (sz := (sz)) (fa := (fa)) (op := (op)) (rm := (rm)) (ti := (ti)) K0 K1 K2 (p1) (p2) (hw) (hm) (by first | assumption | omega) (by first | assumption | omega)) mk_X12_chills dX12_chills_110 wd_1310 wd_1312 wd_53 rfl K0 rfl rfl rfl (Nat.le_of_ble_eq_true rfl) (by omega) (Nat.le_of_ble_eq_true rfl) (by omega) (by omega) (fun q zh6 zm8 zp9 => ?_)
  obtain ⟨rfl, ze7, zn10⟩ := zp9
  subst zm8
  refine z_st (st' := [.int (vChills 2 w (nI who) m x)]) rfl ?_
  have zK11 : zh6 o = some (.inr (12, [.ref (o + 1), .ref (o + 2), .ref (o + 3), .int im, .ref (o + 4), .int ba, .int at_, .int sz, .int fa, .int op, .ref (o + 5), .ref (o + 6), .int rm, .ref (o + 7), .ref (o + 8), .int ti, .ref (o + 9), .int (nI (tn + (bChills 2 w).length)), .int (nI who), .ref (o + 10), .ref (o + 11), .ref (o + 12), .ref (o + 13)])) := by rw [ze7]; rw [va_up_ne _ _ (show o ≠ o + 9 by omega)]; exact va_up_self _ _ _
  have zK12 : zh6 (o + 9) = arI κ 40 (wrs tr tn (bChills 2 w)) := by rw [ze7]; exact va_up_self _ _ _
  have zK13 : zh6 (o + 1) = arI κ 340 d := by rw [ze7]; rw [va_up_ne _ _ (show o + 1 ≠ o + 9 by omega)]; rw [va_up_ne _ _ (show o + 1 ≠ o by omega)]; exact K2
  refine z_iret X E dX12_chills_113 (by omega) (by omega) ⟨?_, ?_, ?_⟩
  · rfl
  · rw [show wrs tr tn (bChills 3 w) = wrs tr tn (bChills 2 w) from (by first | rfl | exact wrs_app _ _ _ _), show tn + (bChills 3 w).length = tn + (bChills 2 w).length from (by first | rfl | (simp only [bRuns, bMoves, bChills, bTells, List.length_cons, List.length_append, List.length_nil]; omega))]; funext zz; by_cases zq1 : zz = o + 9; (rw [zq1, va_up_self]; exact zK12); by_cases zq0 : zz = o; (rw [zq0, va_up_ne _ _ (show o ≠ o + 9 by omega), va_up_self]; exact zK11); rw [va_up_ne _ _ zq1, va_up_ne _ _ zq0]; rw [ze7]; simp only [va_up, if_neg zq0, if_neg zq1]
  · rfl
set_option maxHeartbeats 4000000 in
set_option maxRecDepth 100000 in
theorem r_chills_4 {κ : Wc} {l : Launch} {h : Mm} {n : Nat} {o : Nat} {x : Int32} {tn : Nat} {dd : Nat} {w : Nat} {m : Int32} {d : Nat → Int32} {tr : Nat → Int32} {who : Nat} {im : Int32} {ba : Int32} {at_ : Int32} {sz : Int32} {fa : Int32} {op : Int32} {rm : Int32} {ti : Int32} (K0 : h o = some (.inr (12, [.ref (o + 1), .ref (o + 2), .ref (o + 3), .int im, .ref (o + 4), .int ba, .int at_, .int sz, .int fa, .int op, .ref (o + 5), .ref (o + 6), .int rm, .ref (o + 7), .ref (o + 8), .int ti, .ref (o + 9), .int (nI tn), .int (nI who), .ref (o + 10), .ref (o + 11), .ref (o + 12), .ref (o + 13)]))) (K1 : h (o + 9) = arI κ 40 tr) (K2 : h (o + 1) = arI κ 340 d) (p1 : who < 6) (p2 : w ≤ 6) (hw : d (20 + 2 * who) = nI w) (hm : d (20 + 2 * who + 1) = m) (hd : 9 ≤ dd) (ht : tn + 9 ≤ 40) : Con κ l yX12_chills cX12_chills 4 (some .int) dd 0 0 [.ref o, .int 4, .int x] h n (fun q h' n' => q = some (.int (vChills 4 w (nI who) m x)) ∧ h' = va_up (va_up h o (some (.inr (12, [.ref (o + 1), .ref (o + 2), .ref (o + 3), .int im, .ref (o + 4), .int ba, .int at_, .int sz, .int fa, .int op, .ref (o + 5), .ref (o + 6), .int rm, .ref (o + 7), .ref (o + 8), .int ti, .ref (o + 9), .int (nI (tn + (bChills 4 w).length)), .int (nI who), .ref (o + 10), .ref (o + 11), .ref (o + 12), .ref (o + 13)])))) (o + 9) (arI κ 40 (wrs tr tn (bChills 4 w))) ∧ n' = n) := by
  refine Con.of mk_X12_chills (Nat.le_of_ble_eq_true rfl) (fun G hG X E => ?_)
  subst hG
  refine z_ls (ls' := [(0, .ref o), (1, .int 4), (2, .int x)]) rfl ?_
  have hb1 := bRuns_le w
  have hb2 := bMoves_le w
  have hb3 := bChills_le w w
  have hbr0 := bRuns_le 0
  have hbm0 := bMoves_le 0
  have hbc0 := bChills_le 0 w
  have hbt0 := bTells_le 0 w
  have hbr1 := bRuns_le 1
  have hbm1 := bMoves_le 1
  have hbc1 := bChills_le 1 w
  have hbt1 := bTells_le 1 w
  have hbr2 := bRuns_le 2
  have hbm2 := bMoves_le 2
  have hbc2 := bChills_le 2 w
  have hbt2 := bTells_le 2 w
  have hbr3 := bRuns_le 3
  have hbm3 := bMoves_le 3
  have hbc3 := bChills_le 3 w
  have hbt3 := bTells_le 3 w
  have hbr4 := bRuns_le 4
  have hbm4 := bMoves_le 4
  have hbc4 := bChills_le 4 w
  have hbt4 := bTells_le 4 w
  have hbr5 := bRuns_le 5
  have hbm5 := bMoves_le 5
  have hbc5 := bChills_le 5 w
  have hbt5 := bTells_le 5 w
  have hbr6 := bRuns_le 6
  have hbm6 := bMoves_le 6
  have hbc6 := bChills_le 6 w
  have hbt6 := bTells_le 6 w
  refine z_iload_n X 1 dX12_chills_0 rfl ?_
  refine z_lookup (off := 103) X 104 dX12_chills_1 (by decide) (by decide) (by decide) ?_
  refine z_aload_n X 0 dX12_chills_104 rfl ?_
  refine z_iload_n X 1 dX12_chills_105 rfl ?_
  refine z_callS X (r_above (κ := κ) (n := n) (k := (4))  ) mk_X12_above dX12_chills_106 wd_1307 wd_1308 rfl rfl (Nat.le_of_ble_eq_true rfl) (by omega) (Nat.le_of_ble_eq_true rfl) (by omega) (by omega) (fun q zh1 zm3 zp4 => ?_)
  obtain ⟨rfl, ze2, zn5⟩ := zp4
  subst zm3
  subst zh1
  refine z_st (st' := [.int (aboveR 4), .ref o]) rfl ?_
  refine z_toe (y := 3) (by decide) ?_
  refine z_iload_n X 2 dX12_chills_109 rfl ?_
  refine z_callV X (r_chills_3 (κ := κ) (n := n) (o := (o)) (x := (x)) (tn := (tn)) (dd := (dd - 1)) (w := (w)) (m := (m)) (d := (d)) (tr := (tr)) (who := (who)) (im := (im)) (ba := (ba)) (at_ := (at_)) (sz := (sz)) (fa := (fa)) (op := (op)) (rm := (rm)) (ti := (ti)) K0 K1 K2 (p1) (p2) (hw) (hm) (by first | assumption | omega) (by first | assumption | omega)) mk_X12_chills dX12_chills_110 wd_1310 wd_1312 wd_53 rfl K0 rfl rfl rfl (Nat.le_of_ble_eq_true rfl) (by omega) (Nat.le_of_ble_eq_true rfl) (by omega) (by omega) (fun q zh6 zm8 zp9 => ?_)
  obtain ⟨rfl, ze7, zn10⟩ := zp9
  subst zm8
  refine z_st (st' := [.int (vChills 3 w (nI who) m x)]) rfl ?_
  have zK11 : zh6 o = some (.inr (12, [.ref (o + 1), .ref (o + 2), .ref (o + 3), .int im, .ref (o + 4), .int ba, .int at_, .int sz, .int fa, .int op, .ref (o + 5), .ref (o + 6), .int rm, .ref (o + 7), .ref (o + 8), .int ti, .ref (o + 9), .int (nI (tn + (bChills 3 w).length)), .int (nI who), .ref (o + 10), .ref (o + 11), .ref (o + 12), .ref (o + 13)])) := by rw [ze7]; rw [va_up_ne _ _ (show o ≠ o + 9 by omega)]; exact va_up_self _ _ _
  have zK12 : zh6 (o + 9) = arI κ 40 (wrs tr tn (bChills 3 w)) := by rw [ze7]; exact va_up_self _ _ _
  have zK13 : zh6 (o + 1) = arI κ 340 d := by rw [ze7]; rw [va_up_ne _ _ (show o + 1 ≠ o + 9 by omega)]; rw [va_up_ne _ _ (show o + 1 ≠ o by omega)]; exact K2
  refine z_iret X E dX12_chills_113 (by omega) (by omega) ⟨?_, ?_, ?_⟩
  · rfl
  · rw [show wrs tr tn (bChills 4 w) = wrs tr tn (bChills 3 w) from (by first | rfl | exact wrs_app _ _ _ _), show tn + (bChills 4 w).length = tn + (bChills 3 w).length from (by first | rfl | (simp only [bRuns, bMoves, bChills, bTells, List.length_cons, List.length_append, List.length_nil]; omega))]; funext zz; by_cases zq1 : zz = o + 9; (rw [zq1, va_up_self]; exact zK12); by_cases zq0 : zz = o; (rw [zq0, va_up_ne _ _ (show o ≠ o + 9 by omega), va_up_self]; exact zK11); rw [va_up_ne _ _ zq1, va_up_ne _ _ zq0]; rw [ze7]; simp only [va_up, if_neg zq0, if_neg zq1]
  · rfl
set_option maxHeartbeats 4000000 in
set_option maxRecDepth 100000 in
theorem r_chills_5 {κ : Wc} {l : Launch} {h : Mm} {n : Nat} {o : Nat} {x : Int32} {tn : Nat} {dd : Nat} {w : Nat} {m : Int32} {d : Nat → Int32} {tr : Nat → Int32} {who : Nat} {im : Int32} {ba : Int32} {at_ : Int32} {sz : Int32} {fa : Int32} {op : Int32} {rm : Int32} {ti : Int32} (K0 : h o = some (.inr (12, [.ref (o + 1), .ref (o + 2), .ref (o + 3), .int im, .ref (o + 4), .int ba, .int at_, .int sz, .int fa, .int op, .ref (o + 5), .ref (o + 6), .int rm, .ref (o + 7), .ref (o + 8), .int ti, .ref (o + 9), .int (nI tn), .int (nI who), .ref (o + 10), .ref (o + 11), .ref (o + 12), .ref (o + 13)]))) (K1 : h (o + 9) = arI κ 40 tr) (K2 : h (o + 1) = arI κ 340 d) (p1 : who < 6) (p2 : w ≤ 6) (hw : d (20 + 2 * who) = nI w) (hm : d (20 + 2 * who + 1) = m) (hd : 7 ≤ dd) (ht : tn + 9 ≤ 40) : Con κ l yX12_chills cX12_chills 4 (some .int) dd 0 0 [.ref o, .int 5, .int x] h n (fun q h' n' => q = some (.int (vChills 5 w (nI who) m x)) ∧ h' = va_up (va_up h o (some (.inr (12, [.ref (o + 1), .ref (o + 2), .ref (o + 3), .int im, .ref (o + 4), .int ba, .int at_, .int sz, .int fa, .int op, .ref (o + 5), .ref (o + 6), .int rm, .ref (o + 7), .ref (o + 8), .int ti, .ref (o + 9), .int (nI (tn + (bChills 5 w).length)), .int (nI who), .ref (o + 10), .ref (o + 11), .ref (o + 12), .ref (o + 13)])))) (o + 9) (arI κ 40 (wrs tr tn (bChills 5 w))) ∧ n' = n) := by
  refine Con.of mk_X12_chills (Nat.le_of_ble_eq_true rfl) (fun G hG X E => ?_)
  subst hG
  refine z_ls (ls' := [(0, .ref o), (1, .int 5), (2, .int x)]) rfl ?_
  have hb1 := bRuns_le w
  have hb2 := bMoves_le w
  have hb3 := bChills_le w w
  have hbr0 := bRuns_le 0
  have hbm0 := bMoves_le 0
  have hbc0 := bChills_le 0 w
  have hbt0 := bTells_le 0 w
  have hbr1 := bRuns_le 1
  have hbm1 := bMoves_le 1
  have hbc1 := bChills_le 1 w
  have hbt1 := bTells_le 1 w
  have hbr2 := bRuns_le 2
  have hbm2 := bMoves_le 2
  have hbc2 := bChills_le 2 w
  have hbt2 := bTells_le 2 w
  have hbr3 := bRuns_le 3
  have hbm3 := bMoves_le 3
  have hbc3 := bChills_le 3 w
  have hbt3 := bTells_le 3 w
  have hbr4 := bRuns_le 4
  have hbm4 := bMoves_le 4
  have hbc4 := bChills_le 4 w
  have hbt4 := bTells_le 4 w
  have hbr5 := bRuns_le 5
  have hbm5 := bMoves_le 5
  have hbc5 := bChills_le 5 w
  have hbt5 := bTells_le 5 w
  have hbr6 := bRuns_le 6
  have hbm6 := bMoves_le 6
  have hbc6 := bChills_le 6 w
  have hbt6 := bTells_le 6 w
  refine z_iload_n X 1 dX12_chills_0 rfl ?_
  refine z_lookup (off := 103) X 104 dX12_chills_1 (by decide) (by decide) (by decide) ?_
  refine z_aload_n X 0 dX12_chills_104 rfl ?_
  refine z_iload_n X 1 dX12_chills_105 rfl ?_
  refine z_callS X (r_above (κ := κ) (n := n) (k := (5))  ) mk_X12_above dX12_chills_106 wd_1307 wd_1308 rfl rfl (Nat.le_of_ble_eq_true rfl) (by omega) (Nat.le_of_ble_eq_true rfl) (by omega) (by omega) (fun q zh1 zm3 zp4 => ?_)
  obtain ⟨rfl, ze2, zn5⟩ := zp4
  subst zm3
  subst zh1
  refine z_st (st' := [.int (aboveR 5), .ref o]) rfl ?_
  refine z_toe (y := 0) (by decide) ?_
  refine z_iload_n X 2 dX12_chills_109 rfl ?_
  refine z_callV X (r_chills_0 (κ := κ) (n := n) (o := (o)) (x := (x)) (tn := (tn)) (dd := (dd - 1)) (w := (w)) (m := (m)) (d := (d)) (tr := (tr)) (who := (who)) (im := (im)) (ba := (ba)) (at_ := (at_)) (sz := (sz)) (fa := (fa)) (op := (op)) (rm := (rm)) (ti := (ti)) K0 K1 K2 (p1) (p2) (hw) (hm) (by first | assumption | omega) (by first | assumption | omega)) mk_X12_chills dX12_chills_110 wd_1310 wd_1312 wd_53 rfl K0 rfl rfl rfl (Nat.le_of_ble_eq_true rfl) (by omega) (Nat.le_of_ble_eq_true rfl) (by omega) (by omega) (fun q zh6 zm8 zp9 => ?_)
  obtain ⟨rfl, ze7, zn10⟩ := zp9
  subst zm8
  refine z_st (st' := [.int (vChills 0 w (nI who) m x)]) rfl ?_
  have zK11 : zh6 o = some (.inr (12, [.ref (o + 1), .ref (o + 2), .ref (o + 3), .int im, .ref (o + 4), .int ba, .int at_, .int sz, .int fa, .int op, .ref (o + 5), .ref (o + 6), .int rm, .ref (o + 7), .ref (o + 8), .int ti, .ref (o + 9), .int (nI (tn + (bChills 0 w).length)), .int (nI who), .ref (o + 10), .ref (o + 11), .ref (o + 12), .ref (o + 13)])) := by rw [ze7]; rw [va_up_ne _ _ (show o ≠ o + 9 by omega)]; exact va_up_self _ _ _
  have zK12 : zh6 (o + 9) = arI κ 40 (wrs tr tn (bChills 0 w)) := by rw [ze7]; exact va_up_self _ _ _
  have zK13 : zh6 (o + 1) = arI κ 340 d := by rw [ze7]; rw [va_up_ne _ _ (show o + 1 ≠ o + 9 by omega)]; rw [va_up_ne _ _ (show o + 1 ≠ o by omega)]; exact K2
  refine z_iret X E dX12_chills_113 (by omega) (by omega) ⟨?_, ?_, ?_⟩
  · rfl
  · rw [show wrs tr tn (bChills 5 w) = wrs tr tn (bChills 0 w) from (by first | rfl | exact wrs_app _ _ _ _), show tn + (bChills 5 w).length = tn + (bChills 0 w).length from (by first | rfl | (simp only [bRuns, bMoves, bChills, bTells, List.length_cons, List.length_append, List.length_nil]; omega))]; funext zz; by_cases zq1 : zz = o + 9; (rw [zq1, va_up_self]; exact zK12); by_cases zq0 : zz = o; (rw [zq0, va_up_ne _ _ (show o ≠ o + 9 by omega), va_up_self]; exact zK11); rw [va_up_ne _ _ zq1, va_up_ne _ _ zq0]; rw [ze7]; simp only [va_up, if_neg zq0, if_neg zq1]
  · rfl
set_option maxHeartbeats 4000000 in
set_option maxRecDepth 100000 in
theorem r_chills_6 {κ : Wc} {l : Launch} {h : Mm} {n : Nat} {o : Nat} {x : Int32} {tn : Nat} {dd : Nat} {w : Nat} {m : Int32} {d : Nat → Int32} {tr : Nat → Int32} {who : Nat} {im : Int32} {ba : Int32} {at_ : Int32} {sz : Int32} {fa : Int32} {op : Int32} {rm : Int32} {ti : Int32} (K0 : h o = some (.inr (12, [.ref (o + 1), .ref (o + 2), .ref (o + 3), .int im, .ref (o + 4), .int ba, .int at_, .int sz, .int fa, .int op, .ref (o + 5), .ref (o + 6), .int rm, .ref (o + 7), .ref (o + 8), .int ti, .ref (o + 9), .int (nI tn), .int (nI who), .ref (o + 10), .ref (o + 11), .ref (o + 12), .ref (o + 13)]))) (K1 : h (o + 9) = arI κ 40 tr) (K2 : h (o + 1) = arI κ 340 d) (p1 : who < 6) (p2 : w ≤ 6) (hw : d (20 + 2 * who) = nI w) (hm : d (20 + 2 * who + 1) = m) (hd : 10 ≤ dd) (ht : tn + 18 ≤ 40) : Con κ l yX12_chills cX12_chills 4 (some .int) dd 0 0 [.ref o, .int 6, .int x] h n (fun q h' n' => q = some (.int (vChills 6 w (nI who) m x)) ∧ h' = va_up (va_up h o (some (.inr (12, [.ref (o + 1), .ref (o + 2), .ref (o + 3), .int im, .ref (o + 4), .int ba, .int at_, .int sz, .int fa, .int op, .ref (o + 5), .ref (o + 6), .int rm, .ref (o + 7), .ref (o + 8), .int ti, .ref (o + 9), .int (nI (tn + (bChills 6 w).length)), .int (nI who), .ref (o + 10), .ref (o + 11), .ref (o + 12), .ref (o + 13)])))) (o + 9) (arI κ 40 (wrs tr tn (bChills 6 w))) ∧ n' = n) := by
  refine Con.of mk_X12_chills (Nat.le_of_ble_eq_true rfl) (fun G hG X E => ?_)
  subst hG
  refine z_ls (ls' := [(0, .ref o), (1, .int 6), (2, .int x)]) rfl ?_
  have hb1 := bRuns_le w
  have hb2 := bMoves_le w
  have hb3 := bChills_le w w
  have hbr0 := bRuns_le 0
  have hbm0 := bMoves_le 0
  have hbc0 := bChills_le 0 w
  have hbt0 := bTells_le 0 w
  have hbr1 := bRuns_le 1
  have hbm1 := bMoves_le 1
  have hbc1 := bChills_le 1 w
  have hbt1 := bTells_le 1 w
  have hbr2 := bRuns_le 2
  have hbm2 := bMoves_le 2
  have hbc2 := bChills_le 2 w
  have hbt2 := bTells_le 2 w
  have hbr3 := bRuns_le 3
  have hbm3 := bMoves_le 3
  have hbc3 := bChills_le 3 w
  have hbt3 := bTells_le 3 w
  have hbr4 := bRuns_le 4
  have hbm4 := bMoves_le 4
  have hbc4 := bChills_le 4 w
  have hbt4 := bTells_le 4 w
  have hbr5 := bRuns_le 5
  have hbm5 := bMoves_le 5
  have hbc5 := bChills_le 5 w
  have hbt5 := bTells_le 5 w
  have hbr6 := bRuns_le 6
  have hbm6 := bMoves_le 6
  have hbc6 := bChills_le 6 w
  have hbt6 := bTells_le 6 w
  refine z_iload_n X 1 dX12_chills_0 rfl ?_
  refine z_lookup (off := 81) X 82 dX12_chills_1 (by decide) (by decide) (by decide) ?_
  refine z_aload_n X 0 dX12_chills_82 rfl ?_
  refine z_bipush (v := 70) X dX12_chills_83 (by decide) ?_
  refine z_callV X (r_ran2 (κ := κ) (n := n) (o := (o)) (b := (70)) (tn := (tn)) (tr := (tr)) (im := (im)) (ba := (ba)) (at_ := (at_)) (sz := (sz)) (fa := (fa)) (op := (op)) (rm := (rm)) (ti := (ti)) (wh := (nI who)) K0 K1 (by first | assumption | omega)) mk_X12_ran dX12_chills_85 wd_1303 wd_1305 wd_52 rfl K0 rfl rfl rfl (Nat.le_of_ble_eq_true rfl) (by omega) (Nat.le_of_ble_eq_true rfl) (by omega) (by omega) (fun q zh1 zm3 zp4 => ?_)
  obtain ⟨rfl, ze2, zn5⟩ := zp4
  subst zm3
  refine z_st (st' := []) rfl ?_
  have zK6 : zh1 o = some (.inr (12, [.ref (o + 1), .ref (o + 2), .ref (o + 3), .int im, .ref (o + 4), .int ba, .int at_, .int sz, .int fa, .int op, .ref (o + 5), .ref (o + 6), .int rm, .ref (o + 7), .ref (o + 8), .int ti, .ref (o + 9), .int (nI (tn + 1)), .int ((nI who)), .ref (o + 10), .ref (o + 11), .ref (o + 12), .ref (o + 13)])) := by rw [ze2]; rw [va_up_ne _ _ (show o ≠ o + 9 by omega)]; exact va_up_self _ _ _
  have zK7 : zh1 (o + 9) = arI κ 40 (upd tr tn 70) := by rw [ze2]; exact va_up_self _ _ _
  have zK8 : zh1 (o + 1) = arI κ 340 d := by rw [ze2]; rw [va_up_ne _ _ (show o + 1 ≠ o + 9 by omega)]; rw [va_up_ne _ _ (show o + 1 ≠ o by omega)]; exact K2
  refine z_aload_n X 0 dX12_chills_88 rfl ?_
  refine z_bipush (v := 6) X dX12_chills_89 (by decide) ?_
  refine z_callS X (r_above (κ := κ) (n := n) (k := (6))  ) mk_X12_above dX12_chills_91 wd_1307 wd_1308 rfl rfl (Nat.le_of_ble_eq_true rfl) (by omega) (Nat.le_of_ble_eq_true rfl) (by omega) (by omega) (fun q zh9 zm11 zp12 => ?_)
  obtain ⟨rfl, ze10, zn13⟩ := zp12
  subst zm11
  subst zh9
  refine z_st (st' := [.int (aboveR 6), .ref o]) rfl ?_
  refine z_toe (y := 1) (by decide) ?_
  refine z_iload_n X 2 dX12_chills_94 rfl ?_
  refine z_callV X (r_chills_1 (κ := κ) (n := n) (o := (o)) (x := (x)) (tn := (tn + 1)) (dd := (dd - 1)) (w := (w)) (m := (m)) (d := (d)) (tr := (upd tr tn 70)) (who := (who)) (im := (im)) (ba := (ba)) (at_ := (at_)) (sz := (sz)) (fa := (fa)) (op := (op)) (rm := (rm)) (ti := (ti)) zK6 zK7 zK8 (p1) (p2) (hw) (hm) (by first | assumption | omega) (by first | assumption | omega)) mk_X12_chills dX12_chills_95 wd_1310 wd_1312 wd_53 rfl zK6 rfl rfl rfl (Nat.le_of_ble_eq_true rfl) (by omega) (Nat.le_of_ble_eq_true rfl) (by omega) (by omega) (fun q zh14 zm16 zp17 => ?_)
  obtain ⟨rfl, ze15, zn18⟩ := zp17
  subst zm16
  refine z_st (st' := [.int (vChills 1 w (nI who) m x)]) rfl ?_
  have zK19 : zh14 o = some (.inr (12, [.ref (o + 1), .ref (o + 2), .ref (o + 3), .int im, .ref (o + 4), .int ba, .int at_, .int sz, .int fa, .int op, .ref (o + 5), .ref (o + 6), .int rm, .ref (o + 7), .ref (o + 8), .int ti, .ref (o + 9), .int (nI ((tn + 1) + (bChills 1 w).length)), .int (nI who), .ref (o + 10), .ref (o + 11), .ref (o + 12), .ref (o + 13)])) := by rw [ze15]; rw [va_up_ne _ _ (show o ≠ o + 9 by omega)]; exact va_up_self _ _ _
  have zK20 : zh14 (o + 9) = arI κ 40 (wrs (upd tr tn 70) (tn + 1) (bChills 1 w)) := by rw [ze15]; exact va_up_self _ _ _
  have zK21 : zh14 (o + 1) = arI κ 340 d := by rw [ze15]; rw [va_up_ne _ _ (show o + 1 ≠ o + 9 by omega)]; rw [va_up_ne _ _ (show o + 1 ≠ o by omega)]; exact zK8
  refine z_aload_n X 0 dX12_chills_98 rfl ?_
  refine z_callV X (r_toldM (κ := κ) (n := n) (o := (o)) (d := (d)) (who := (who)) (im := (im)) (ba := (ba)) (at_ := (at_)) (sz := (sz)) (fa := (fa)) (op := (op)) (rm := (rm)) (ti := (ti)) (tm := (nI ((tn + 1) + (bChills 1 w).length))) zK19 zK21 (by first | assumption | omega)) mk_X12_toldM dX12_chills_99 wd_1318 wd_1320 wd_55 rfl zK19 rfl rfl rfl (Nat.le_of_ble_eq_true rfl) (by omega) (Nat.le_of_ble_eq_true rfl) (by omega) (by omega) (fun q zh22 zm24 zp25 => ?_)
  obtain ⟨rfl, ze23, zn26⟩ := zp25
  subst zm24
  subst zh22
  refine z_st (st' := [.int (d (20 + 2 * who + 1)), .int (vChills 1 w (nI who) m x)]) rfl ?_
  refine z_toe (y := m) (hm) ?_
  refine z_iadd X dX12_chills_102 ?_
  refine z_iret X E dX12_chills_103 (by omega) (by omega) ⟨?_, ?_, ?_⟩
  · rfl
  · rw [show wrs tr tn (bChills 6 w) = wrs (upd tr tn 70) (tn + 1) (bChills 1 w) from (by first | rfl | exact wrs_app _ _ _ _), show tn + (bChills 6 w).length = (tn + 1) + (bChills 1 w).length from (by first | rfl | (simp only [bRuns, bMoves, bChills, bTells, List.length_cons, List.length_append, List.length_nil]; omega))]; funext zz; by_cases zq1 : zz = o + 9; (rw [zq1, va_up_self]; exact zK20); by_cases zq0 : zz = o; (rw [zq0, va_up_ne _ _ (show o ≠ o + 9 by omega), va_up_self]; exact zK19); rw [va_up_ne _ _ zq1, va_up_ne _ _ zq0]; rw [ze15, ze2]; simp only [va_up, if_neg zq0, if_neg zq1]
  · rfl
set_option maxHeartbeats 4000000 in
theorem r_chills {κ : Wc} {l : Launch} {h : Mm} {n : Nat} {k : Nat} {o : Nat} {x : Int32} {tn : Nat} {dd : Nat} {w : Nat} {m : Int32} {d : Nat → Int32} {tr : Nat → Int32} {who : Nat} {im : Int32} {ba : Int32} {at_ : Int32} {sz : Int32} {fa : Int32} {op : Int32} {rm : Int32} {ti : Int32} (K0 : h o = some (.inr (12, [.ref (o + 1), .ref (o + 2), .ref (o + 3), .int im, .ref (o + 4), .int ba, .int at_, .int sz, .int fa, .int op, .ref (o + 5), .ref (o + 6), .int rm, .ref (o + 7), .ref (o + 8), .int ti, .ref (o + 9), .int (nI tn), .int (nI who), .ref (o + 10), .ref (o + 11), .ref (o + 12), .ref (o + 13)]))) (K1 : h (o + 9) = arI κ 40 tr) (K2 : h (o + 1) = arI κ 340 d) (p1 : who < 6) (p2 : w ≤ 6) (hw : d (20 + 2 * who) = nI w) (hm : d (20 + 2 * who + 1) = m) (hd : 12 ≤ dd) (ht : tn + 18 ≤ 40) (hk : k ≤ 6) : Con κ l yX12_chills cX12_chills 4 (some .int) dd 0 0 [.ref o, .int (nI k), .int x] h n (fun q h' n' => q = some (.int (vChills k w (nI who) m x)) ∧ h' = va_up (va_up h o (some (.inr (12, [.ref (o + 1), .ref (o + 2), .ref (o + 3), .int im, .ref (o + 4), .int ba, .int at_, .int sz, .int fa, .int op, .ref (o + 5), .ref (o + 6), .int rm, .ref (o + 7), .ref (o + 8), .int ti, .ref (o + 9), .int (nI (tn + (bChills k w).length)), .int (nI who), .ref (o + 10), .ref (o + 11), .ref (o + 12), .ref (o + 13)])))) (o + 9) (arI κ 40 (wrs tr tn (bChills k w))) ∧ n' = n) := by
  match k, hk with
  | 0, _ => exact r_chills_0 K0 K1 K2 p1 p2 hw hm (by omega) (by omega)
  | 1, _ => exact r_chills_1 K0 K1 K2 p1 p2 hw hm (by omega) (by omega)
  | 2, _ => exact r_chills_2 K0 K1 K2 p1 p2 hw hm (by omega) (by omega)
  | 3, _ => exact r_chills_3 K0 K1 K2 p1 p2 hw hm (by omega) (by omega)
  | 4, _ => exact r_chills_4 K0 K1 K2 p1 p2 hw hm (by omega) (by omega)
  | 5, _ => exact r_chills_5 K0 K1 K2 p1 p2 hw hm (by omega) (by omega)
  | 6, _ => exact r_chills_6 K0 K1 K2 p1 p2 hw hm (by omega) (by omega)
set_option maxHeartbeats 4000000 in
set_option maxRecDepth 100000 in
theorem r_tells_0 {κ : Wc} {l : Launch} {h : Mm} {n : Nat} {o : Nat} {x : Int32} {tn : Nat} {dd : Nat} {w : Nat} {m : Int32} {d : Nat → Int32} {tr : Nat → Int32} {who : Nat} {im : Int32} {ba : Int32} {at_ : Int32} {sz : Int32} {fa : Int32} {op : Int32} {rm : Int32} {ti : Int32} (K0 : h o = some (.inr (12, [.ref (o + 1), .ref (o + 2), .ref (o + 3), .int im, .ref (o + 4), .int ba, .int at_, .int sz, .int fa, .int op, .ref (o + 5), .ref (o + 6), .int rm, .ref (o + 7), .ref (o + 8), .int ti, .ref (o + 9), .int (nI tn), .int (nI who), .ref (o + 10), .ref (o + 11), .ref (o + 12), .ref (o + 13)]))) (K1 : h (o + 9) = arI κ 40 tr) (K2 : h (o + 1) = arI κ 340 d) (p1 : who < 6) (p2 : w ≤ 6) (hw : d (20 + 2 * who) = nI w) (hm : d (20 + 2 * who + 1) = m) (hd : 14 ≤ dd) (ht : tn + 19 ≤ 40) : Con κ l yX12_tells cX12_tells 4 (some .int) dd 0 0 [.ref o, .int 0, .int x] h n (fun q h' n' => q = some (.int (vTells 0 w (nI who) m x)) ∧ h' = va_up (va_up h o (some (.inr (12, [.ref (o + 1), .ref (o + 2), .ref (o + 3), .int im, .ref (o + 4), .int ba, .int at_, .int sz, .int fa, .int op, .ref (o + 5), .ref (o + 6), .int rm, .ref (o + 7), .ref (o + 8), .int ti, .ref (o + 9), .int (nI (tn + (bTells 0 w).length)), .int (nI who), .ref (o + 10), .ref (o + 11), .ref (o + 12), .ref (o + 13)])))) (o + 9) (arI κ 40 (wrs tr tn (bTells 0 w))) ∧ n' = n) := by
  refine Con.of mk_X12_tells (Nat.le_of_ble_eq_true rfl) (fun G hG X E => ?_)
  subst hG
  refine z_ls (ls' := [(0, .ref o), (1, .int 0), (2, .int x)]) rfl ?_
  have hb1 := bRuns_le w
  have hb2 := bMoves_le w
  have hb3 := bChills_le w w
  have hbr0 := bRuns_le 0
  have hbm0 := bMoves_le 0
  have hbc0 := bChills_le 0 w
  have hbt0 := bTells_le 0 w
  have hbr1 := bRuns_le 1
  have hbm1 := bMoves_le 1
  have hbc1 := bChills_le 1 w
  have hbt1 := bTells_le 1 w
  have hbr2 := bRuns_le 2
  have hbm2 := bMoves_le 2
  have hbc2 := bChills_le 2 w
  have hbt2 := bTells_le 2 w
  have hbr3 := bRuns_le 3
  have hbm3 := bMoves_le 3
  have hbc3 := bChills_le 3 w
  have hbt3 := bTells_le 3 w
  have hbr4 := bRuns_le 4
  have hbm4 := bMoves_le 4
  have hbc4 := bChills_le 4 w
  have hbt4 := bTells_le 4 w
  have hbr5 := bRuns_le 5
  have hbm5 := bMoves_le 5
  have hbc5 := bChills_le 5 w
  have hbt5 := bTells_le 5 w
  have hbr6 := bRuns_le 6
  have hbm6 := bMoves_le 6
  have hbc6 := bChills_le 6 w
  have hbt6 := bTells_le 6 w
  refine z_iload_n X 1 dX12_tells_0 rfl ?_
  refine z_lookup (off := 35) X 36 dX12_tells_1 (by decide) (by decide) (by decide) ?_
  refine z_aload_n X 0 dX12_tells_36 rfl ?_
  refine z_bipush (v := 13) X dX12_tells_37 (by decide) ?_
  refine z_callV X (r_ran2 (κ := κ) (n := n) (o := (o)) (b := (13)) (tn := (tn)) (tr := (tr)) (im := (im)) (ba := (ba)) (at_ := (at_)) (sz := (sz)) (fa := (fa)) (op := (op)) (rm := (rm)) (ti := (ti)) (wh := (nI who)) K0 K1 (by first | assumption | omega)) mk_X12_ran dX12_tells_39 wd_1303 wd_1305 wd_52 rfl K0 rfl rfl rfl (Nat.le_of_ble_eq_true rfl) (by omega) (Nat.le_of_ble_eq_true rfl) (by omega) (by omega) (fun q zh1 zm3 zp4 => ?_)
  obtain ⟨rfl, ze2, zn5⟩ := zp4
  subst zm3
  refine z_st (st' := []) rfl ?_
  have zK6 : zh1 o = some (.inr (12, [.ref (o + 1), .ref (o + 2), .ref (o + 3), .int im, .ref (o + 4), .int ba, .int at_, .int sz, .int fa, .int op, .ref (o + 5), .ref (o + 6), .int rm, .ref (o + 7), .ref (o + 8), .int ti, .ref (o + 9), .int (nI (tn + 1)), .int ((nI who)), .ref (o + 10), .ref (o + 11), .ref (o + 12), .ref (o + 13)])) := by rw [ze2]; rw [va_up_ne _ _ (show o ≠ o + 9 by omega)]; exact va_up_self _ _ _
  have zK7 : zh1 (o + 9) = arI κ 40 (upd tr tn 13) := by rw [ze2]; exact va_up_self _ _ _
  have zK8 : zh1 (o + 1) = arI κ 340 d := by rw [ze2]; rw [va_up_ne _ _ (show o + 1 ≠ o + 9 by omega)]; rw [va_up_ne _ _ (show o + 1 ≠ o by omega)]; exact K2
  refine z_aload_n X 0 dX12_tells_42 rfl ?_
  refine z_aload_n X 0 dX12_tells_43 rfl ?_
  refine z_callV X (r_own (κ := κ) (n := n) (o := (o)) (d := (d)) (who := (who)) (im := (im)) (ba := (ba)) (at_ := (at_)) (sz := (sz)) (fa := (fa)) (op := (op)) (rm := (rm)) (ti := (ti)) (tm := (nI (tn + 1))) zK6 zK8 (by first | assumption | omega)) mk_X12_own dX12_tells_44 wd_1295 wd_1297 wd_50 rfl zK6 rfl rfl rfl (Nat.le_of_ble_eq_true rfl) (by omega) (Nat.le_of_ble_eq_true rfl) (by omega) (by omega) (fun q zh9 zm11 zp12 => ?_)
  obtain ⟨rfl, ze10, zn13⟩ := zp12
  subst zm11
  subst zh9
  refine z_st (st' := [.int (d (20 + 2 * who)), .ref o]) rfl ?_
  refine z_toe (y := nI w) (hw) ?_
  refine z_iload_n X 2 dX12_tells_47 rfl ?_
  refine z_callV X (r_chills (κ := κ) (n := n) (k := (w)) (o := (o)) (x := (x)) (tn := (tn + 1)) (dd := (dd - 1)) (w := (w)) (m := (m)) (d := (d)) (tr := (upd tr tn 13)) (who := (who)) (im := (im)) (ba := (ba)) (at_ := (at_)) (sz := (sz)) (fa := (fa)) (op := (op)) (rm := (rm)) (ti := (ti)) zK6 zK7 zK8 (p1) (p2) (hw) (hm) (by first | assumption | omega) (by first | assumption | omega) (p2)) mk_X12_chills dX12_tells_48 wd_1310 wd_1312 wd_53 rfl zK6 rfl rfl rfl (Nat.le_of_ble_eq_true rfl) (by omega) (Nat.le_of_ble_eq_true rfl) (by omega) (by omega) (fun q zh14 zm16 zp17 => ?_)
  obtain ⟨rfl, ze15, zn18⟩ := zp17
  subst zm16
  refine z_st (st' := [.int (vChills w w (nI who) m x)]) rfl ?_
  have zK19 : zh14 o = some (.inr (12, [.ref (o + 1), .ref (o + 2), .ref (o + 3), .int im, .ref (o + 4), .int ba, .int at_, .int sz, .int fa, .int op, .ref (o + 5), .ref (o + 6), .int rm, .ref (o + 7), .ref (o + 8), .int ti, .ref (o + 9), .int (nI ((tn + 1) + (bChills w w).length)), .int (nI who), .ref (o + 10), .ref (o + 11), .ref (o + 12), .ref (o + 13)])) := by rw [ze15]; rw [va_up_ne _ _ (show o ≠ o + 9 by omega)]; exact va_up_self _ _ _
  have zK20 : zh14 (o + 9) = arI κ 40 (wrs (upd tr tn 13) (tn + 1) (bChills w w)) := by rw [ze15]; exact va_up_self _ _ _
  have zK21 : zh14 (o + 1) = arI κ 340 d := by rw [ze15]; rw [va_up_ne _ _ (show o + 1 ≠ o + 9 by omega)]; rw [va_up_ne _ _ (show o + 1 ≠ o by omega)]; exact zK8
  refine z_istore_n (ls' := [(3, .int (vChills w w (nI who) m x)), (0, .ref o), (1, .int 0), (2, .int x)]) X dX12_tells_51 (by decide) rfl ?_
  refine z_iload_n X 0 dX12_tells_52 rfl ?_
  refine z_aload_n X 1 dX12_tells_53 rfl ?_
  refine z_aload_n X 1 dX12_tells_54 rfl ?_
  refine z_callV X (r_own (κ := κ) (n := n) (o := (o)) (d := (d)) (who := (who)) (im := (im)) (ba := (ba)) (at_ := (at_)) (sz := (sz)) (fa := (fa)) (op := (op)) (rm := (rm)) (ti := (ti)) (tm := (nI ((tn + 1) + (bChills w w).length))) zK19 zK21 (by first | assumption | omega)) mk_X12_own dX12_tells_55 wd_1295 wd_1297 wd_50 rfl zK19 rfl rfl rfl (Nat.le_of_ble_eq_true rfl) (by omega) (Nat.le_of_ble_eq_true rfl) (by omega) (by omega) (fun q zh22 zm24 zp25 => ?_)
  obtain ⟨rfl, ze23, zn26⟩ := zp25
  subst zm24
  subst zh22
  refine z_st (st' := [.int (d (20 + 2 * who)), .ref o, .int (vChills w w (nI who) m x)]) rfl ?_
  refine z_toe (y := nI w) (hw) ?_
  refine z_iload_n X 3 dX12_tells_58 rfl ?_
  refine z_callV X (r_moves (κ := κ) (n := n) (k := (w)) (o := (o)) (x := (x)) (tn := ((tn + 1) + (bChills w w).length)) (dd := (dd - 1)) (w := (w)) (m := (m)) (d := (d)) (tr := (wrs (upd tr tn 13) (tn + 1) (bChills w w))) (who := (who)) (im := (im)) (ba := (ba)) (at_ := (at_)) (sz := (sz)) (fa := (fa)) (op := (op)) (rm := (rm)) (ti := (ti)) zK19 zK20 zK21 (p1) (p2) (hw) (hm) (by first | assumption | omega) (by first | assumption | omega) (p2)) mk_X12_moves dX12_tells_59 wd_1314 wd_1316 wd_54 rfl zK19 rfl rfl rfl (Nat.le_of_ble_eq_true rfl) (by omega) (Nat.le_of_ble_eq_true rfl) (by omega) (by omega) (fun q zh27 zm29 zp30 => ?_)
  obtain ⟨rfl, ze28, zn31⟩ := zp30
  subst zm29
  refine z_st (st' := [.int (vMoves w (nI who) m x), .int (vChills w w (nI who) m x)]) rfl ?_
  have zK32 : zh27 o = some (.inr (12, [.ref (o + 1), .ref (o + 2), .ref (o + 3), .int im, .ref (o + 4), .int ba, .int at_, .int sz, .int fa, .int op, .ref (o + 5), .ref (o + 6), .int rm, .ref (o + 7), .ref (o + 8), .int ti, .ref (o + 9), .int (nI (((tn + 1) + (bChills w w).length) + (bMoves w).length)), .int (nI who), .ref (o + 10), .ref (o + 11), .ref (o + 12), .ref (o + 13)])) := by rw [ze28]; rw [va_up_ne _ _ (show o ≠ o + 9 by omega)]; exact va_up_self _ _ _
  have zK33 : zh27 (o + 9) = arI κ 40 (wrs (wrs (upd tr tn 13) (tn + 1) (bChills w w)) ((tn + 1) + (bChills w w).length) (bMoves w)) := by rw [ze28]; exact va_up_self _ _ _
  have zK34 : zh27 (o + 1) = arI κ 340 d := by rw [ze28]; rw [va_up_ne _ _ (show o + 1 ≠ o + 9 by omega)]; rw [va_up_ne _ _ (show o + 1 ≠ o by omega)]; exact zK21
  refine z_ixor X dX12_tells_62 ?_
  refine z_iret X E dX12_tells_63 (by omega) (by omega) ⟨?_, ?_, ?_⟩
  · rfl
  · rw [show wrs tr tn (bTells 0 w) = wrs (wrs (upd tr tn 13) (tn + 1) (bChills w w)) ((tn + 1) + (bChills w w).length) (bMoves w) from (by first | rfl | exact wrs_app _ _ _ _), show tn + (bTells 0 w).length = ((tn + 1) + (bChills w w).length) + (bMoves w).length from (by first | rfl | (simp only [bRuns, bMoves, bChills, bTells, List.length_cons, List.length_append, List.length_nil]; omega))]; funext zz; by_cases zq1 : zz = o + 9; (rw [zq1, va_up_self]; exact zK33); by_cases zq0 : zz = o; (rw [zq0, va_up_ne _ _ (show o ≠ o + 9 by omega), va_up_self]; exact zK32); rw [va_up_ne _ _ zq1, va_up_ne _ _ zq0]; rw [ze28, ze15, ze2]; simp only [va_up, if_neg zq0, if_neg zq1]
  · rfl
set_option maxHeartbeats 4000000 in
set_option maxRecDepth 100000 in
theorem r_tells_1 {κ : Wc} {l : Launch} {h : Mm} {n : Nat} {o : Nat} {x : Int32} {tn : Nat} {dd : Nat} {w : Nat} {m : Int32} {d : Nat → Int32} {tr : Nat → Int32} {who : Nat} {im : Int32} {ba : Int32} {at_ : Int32} {sz : Int32} {fa : Int32} {op : Int32} {rm : Int32} {ti : Int32} (K0 : h o = some (.inr (12, [.ref (o + 1), .ref (o + 2), .ref (o + 3), .int im, .ref (o + 4), .int ba, .int at_, .int sz, .int fa, .int op, .ref (o + 5), .ref (o + 6), .int rm, .ref (o + 7), .ref (o + 8), .int ti, .ref (o + 9), .int (nI tn), .int (nI who), .ref (o + 10), .ref (o + 11), .ref (o + 12), .ref (o + 13)]))) (K1 : h (o + 9) = arI κ 40 tr) (K2 : h (o + 1) = arI κ 340 d) (p1 : who < 6) (p2 : w ≤ 6) (hw : d (20 + 2 * who) = nI w) (hm : d (20 + 2 * who + 1) = m) (hd : 15 ≤ dd) (ht : tn + 19 ≤ 40) : Con κ l yX12_tells cX12_tells 4 (some .int) dd 0 0 [.ref o, .int 1, .int x] h n (fun q h' n' => q = some (.int (vTells 1 w (nI who) m x)) ∧ h' = va_up (va_up h o (some (.inr (12, [.ref (o + 1), .ref (o + 2), .ref (o + 3), .int im, .ref (o + 4), .int ba, .int at_, .int sz, .int fa, .int op, .ref (o + 5), .ref (o + 6), .int rm, .ref (o + 7), .ref (o + 8), .int ti, .ref (o + 9), .int (nI (tn + (bTells 1 w).length)), .int (nI who), .ref (o + 10), .ref (o + 11), .ref (o + 12), .ref (o + 13)])))) (o + 9) (arI κ 40 (wrs tr tn (bTells 1 w))) ∧ n' = n) := by
  refine Con.of mk_X12_tells (Nat.le_of_ble_eq_true rfl) (fun G hG X E => ?_)
  subst hG
  refine z_ls (ls' := [(0, .ref o), (1, .int 1), (2, .int x)]) rfl ?_
  have hb1 := bRuns_le w
  have hb2 := bMoves_le w
  have hb3 := bChills_le w w
  have hbr0 := bRuns_le 0
  have hbm0 := bMoves_le 0
  have hbc0 := bChills_le 0 w
  have hbt0 := bTells_le 0 w
  have hbr1 := bRuns_le 1
  have hbm1 := bMoves_le 1
  have hbc1 := bChills_le 1 w
  have hbt1 := bTells_le 1 w
  have hbr2 := bRuns_le 2
  have hbm2 := bMoves_le 2
  have hbc2 := bChills_le 2 w
  have hbt2 := bTells_le 2 w
  have hbr3 := bRuns_le 3
  have hbm3 := bMoves_le 3
  have hbc3 := bChills_le 3 w
  have hbt3 := bTells_le 3 w
  have hbr4 := bRuns_le 4
  have hbm4 := bMoves_le 4
  have hbc4 := bChills_le 4 w
  have hbt4 := bTells_le 4 w
  have hbr5 := bRuns_le 5
  have hbm5 := bMoves_le 5
  have hbc5 := bChills_le 5 w
  have hbt5 := bTells_le 5 w
  have hbr6 := bRuns_le 6
  have hbm6 := bMoves_le 6
  have hbc6 := bChills_le 6 w
  have hbt6 := bTells_le 6 w
  refine z_iload_n X 1 dX12_tells_0 rfl ?_
  refine z_lookup (off := 120) X 121 dX12_tells_1 (by decide) (by decide) (by decide) ?_
  refine z_aload_n X 0 dX12_tells_121 rfl ?_
  refine z_iload_n X 1 dX12_tells_122 rfl ?_
  refine z_callS X (r_above (κ := κ) (n := n) (k := (1))  ) mk_X12_above dX12_tells_123 wd_1307 wd_1308 rfl rfl (Nat.le_of_ble_eq_true rfl) (by omega) (Nat.le_of_ble_eq_true rfl) (by omega) (by omega) (fun q zh1 zm3 zp4 => ?_)
  obtain ⟨rfl, ze2, zn5⟩ := zp4
  subst zm3
  subst zh1
  refine z_st (st' := [.int (aboveR 1), .ref o]) rfl ?_
  refine z_toe (y := 0) (by decide) ?_
  refine z_iload_n X 2 dX12_tells_126 rfl ?_
  refine z_callV X (r_tells_0 (κ := κ) (n := n) (o := (o)) (x := (x)) (tn := (tn)) (dd := (dd - 1)) (w := (w)) (m := (m)) (d := (d)) (tr := (tr)) (who := (who)) (im := (im)) (ba := (ba)) (at_ := (at_)) (sz := (sz)) (fa := (fa)) (op := (op)) (rm := (rm)) (ti := (ti)) K0 K1 K2 (p1) (p2) (hw) (hm) (by first | assumption | omega) (by first | assumption | omega)) mk_X12_tells dX12_tells_127 wd_1322 wd_1324 wd_56 rfl K0 rfl rfl rfl (Nat.le_of_ble_eq_true rfl) (by omega) (Nat.le_of_ble_eq_true rfl) (by omega) (by omega) (fun q zh6 zm8 zp9 => ?_)
  obtain ⟨rfl, ze7, zn10⟩ := zp9
  subst zm8
  refine z_st (st' := [.int (vTells 0 w (nI who) m x)]) rfl ?_
  have zK11 : zh6 o = some (.inr (12, [.ref (o + 1), .ref (o + 2), .ref (o + 3), .int im, .ref (o + 4), .int ba, .int at_, .int sz, .int fa, .int op, .ref (o + 5), .ref (o + 6), .int rm, .ref (o + 7), .ref (o + 8), .int ti, .ref (o + 9), .int (nI (tn + (bTells 0 w).length)), .int (nI who), .ref (o + 10), .ref (o + 11), .ref (o + 12), .ref (o + 13)])) := by rw [ze7]; rw [va_up_ne _ _ (show o ≠ o + 9 by omega)]; exact va_up_self _ _ _
  have zK12 : zh6 (o + 9) = arI κ 40 (wrs tr tn (bTells 0 w)) := by rw [ze7]; exact va_up_self _ _ _
  have zK13 : zh6 (o + 1) = arI κ 340 d := by rw [ze7]; rw [va_up_ne _ _ (show o + 1 ≠ o + 9 by omega)]; rw [va_up_ne _ _ (show o + 1 ≠ o by omega)]; exact K2
  refine z_iret X E dX12_tells_130 (by omega) (by omega) ⟨?_, ?_, ?_⟩
  · rfl
  · rw [show wrs tr tn (bTells 1 w) = wrs tr tn (bTells 0 w) from (by first | rfl | exact wrs_app _ _ _ _), show tn + (bTells 1 w).length = tn + (bTells 0 w).length from (by first | rfl | (simp only [bRuns, bMoves, bChills, bTells, List.length_cons, List.length_append, List.length_nil]; omega))]; funext zz; by_cases zq1 : zz = o + 9; (rw [zq1, va_up_self]; exact zK12); by_cases zq0 : zz = o; (rw [zq0, va_up_ne _ _ (show o ≠ o + 9 by omega), va_up_self]; exact zK11); rw [va_up_ne _ _ zq1, va_up_ne _ _ zq0]; rw [ze7]; simp only [va_up, if_neg zq0, if_neg zq1]
  · rfl
set_option maxHeartbeats 4000000 in
set_option maxRecDepth 100000 in
theorem r_tells_2 {κ : Wc} {l : Launch} {h : Mm} {n : Nat} {o : Nat} {x : Int32} {tn : Nat} {dd : Nat} {w : Nat} {m : Int32} {d : Nat → Int32} {tr : Nat → Int32} {who : Nat} {im : Int32} {ba : Int32} {at_ : Int32} {sz : Int32} {fa : Int32} {op : Int32} {rm : Int32} {ti : Int32} (K0 : h o = some (.inr (12, [.ref (o + 1), .ref (o + 2), .ref (o + 3), .int im, .ref (o + 4), .int ba, .int at_, .int sz, .int fa, .int op, .ref (o + 5), .ref (o + 6), .int rm, .ref (o + 7), .ref (o + 8), .int ti, .ref (o + 9), .int (nI tn), .int (nI who), .ref (o + 10), .ref (o + 11), .ref (o + 12), .ref (o + 13)]))) (K1 : h (o + 9) = arI κ 40 tr) (K2 : h (o + 1) = arI κ 340 d) (p1 : who < 6) (p2 : w ≤ 6) (hw : d (20 + 2 * who) = nI w) (hm : d (20 + 2 * who + 1) = m) (hd : 15 ≤ dd) (ht : tn + 19 ≤ 40) : Con κ l yX12_tells cX12_tells 4 (some .int) dd 0 0 [.ref o, .int 2, .int x] h n (fun q h' n' => q = some (.int (vTells 2 w (nI who) m x)) ∧ h' = va_up (va_up h o (some (.inr (12, [.ref (o + 1), .ref (o + 2), .ref (o + 3), .int im, .ref (o + 4), .int ba, .int at_, .int sz, .int fa, .int op, .ref (o + 5), .ref (o + 6), .int rm, .ref (o + 7), .ref (o + 8), .int ti, .ref (o + 9), .int (nI (tn + (bTells 2 w).length)), .int (nI who), .ref (o + 10), .ref (o + 11), .ref (o + 12), .ref (o + 13)])))) (o + 9) (arI κ 40 (wrs tr tn (bTells 2 w))) ∧ n' = n) := by
  refine Con.of mk_X12_tells (Nat.le_of_ble_eq_true rfl) (fun G hG X E => ?_)
  subst hG
  refine z_ls (ls' := [(0, .ref o), (1, .int 2), (2, .int x)]) rfl ?_
  have hb1 := bRuns_le w
  have hb2 := bMoves_le w
  have hb3 := bChills_le w w
  have hbr0 := bRuns_le 0
  have hbm0 := bMoves_le 0
  have hbc0 := bChills_le 0 w
  have hbt0 := bTells_le 0 w
  have hbr1 := bRuns_le 1
  have hbm1 := bMoves_le 1
  have hbc1 := bChills_le 1 w
  have hbt1 := bTells_le 1 w
  have hbr2 := bRuns_le 2
  have hbm2 := bMoves_le 2
  have hbc2 := bChills_le 2 w
  have hbt2 := bTells_le 2 w
  have hbr3 := bRuns_le 3
  have hbm3 := bMoves_le 3
  have hbc3 := bChills_le 3 w
  have hbt3 := bTells_le 3 w
  have hbr4 := bRuns_le 4
  have hbm4 := bMoves_le 4
  have hbc4 := bChills_le 4 w
  have hbt4 := bTells_le 4 w
  have hbr5 := bRuns_le 5
  have hbm5 := bMoves_le 5
  have hbc5 := bChills_le 5 w
  have hbt5 := bTells_le 5 w
  have hbr6 := bRuns_le 6
  have hbm6 := bMoves_le 6
  have hbc6 := bChills_le 6 w
  have hbt6 := bTells_le 6 w
  refine z_iload_n X 1 dX12_tells_0 rfl ?_
  refine z_lookup (off := 120) X 121 dX12_tells_1 (by decide) (by decide) (by decide) ?_
  refine z_aload_n X 0 dX12_tells_121 rfl ?_
  refine z_iload_n X 1 dX12_tells_122 rfl ?_
  refine z_callS X (r_above (κ := κ) (n := n) (k := (2))  ) mk_X12_above dX12_tells_123 wd_1307 wd_1308 rfl rfl (Nat.le_of_ble_eq_true rfl) (by omega) (Nat.le_of_ble_eq_true rfl) (by omega) (by omega) (fun q zh1 zm3 zp4 => ?_)
  obtain ⟨rfl, ze2, zn5⟩ := zp4
  subst zm3
  subst zh1
  refine z_st (st' := [.int (aboveR 2), .ref o]) rfl ?_
  refine z_toe (y := 0) (by decide) ?_
  refine z_iload_n X 2 dX12_tells_126 rfl ?_
  refine z_callV X (r_tells_0 (κ := κ) (n := n) (o := (o)) (x := (x)) (tn := (tn)) (dd := (dd - 1)) (w := (w)) (m := (m)) (d := (d)) (tr := (tr)) (who := (who)) (im := (im)) (ba := (ba)) (at_ := (at_)) (sz := (sz)) (fa := (fa)) (op := (op)) (rm := (rm)) (ti := (ti)) K0 K1 K2 (p1) (p2) (hw) (hm) (by first | assumption | omega) (by first | assumption | omega)) mk_X12_tells dX12_tells_127 wd_1322 wd_1324 wd_56 rfl K0 rfl rfl rfl (Nat.le_of_ble_eq_true rfl) (by omega) (Nat.le_of_ble_eq_true rfl) (by omega) (by omega) (fun q zh6 zm8 zp9 => ?_)
  obtain ⟨rfl, ze7, zn10⟩ := zp9
  subst zm8
  refine z_st (st' := [.int (vTells 0 w (nI who) m x)]) rfl ?_
  have zK11 : zh6 o = some (.inr (12, [.ref (o + 1), .ref (o + 2), .ref (o + 3), .int im, .ref (o + 4), .int ba, .int at_, .int sz, .int fa, .int op, .ref (o + 5), .ref (o + 6), .int rm, .ref (o + 7), .ref (o + 8), .int ti, .ref (o + 9), .int (nI (tn + (bTells 0 w).length)), .int (nI who), .ref (o + 10), .ref (o + 11), .ref (o + 12), .ref (o + 13)])) := by rw [ze7]; rw [va_up_ne _ _ (show o ≠ o + 9 by omega)]; exact va_up_self _ _ _
  have zK12 : zh6 (o + 9) = arI κ 40 (wrs tr tn (bTells 0 w)) := by rw [ze7]; exact va_up_self _ _ _
  have zK13 : zh6 (o + 1) = arI κ 340 d := by rw [ze7]; rw [va_up_ne _ _ (show o + 1 ≠ o + 9 by omega)]; rw [va_up_ne _ _ (show o + 1 ≠ o by omega)]; exact K2
  refine z_iret X E dX12_tells_130 (by omega) (by omega) ⟨?_, ?_, ?_⟩
  · rfl
  · rw [show wrs tr tn (bTells 2 w) = wrs tr tn (bTells 0 w) from (by first | rfl | exact wrs_app _ _ _ _), show tn + (bTells 2 w).length = tn + (bTells 0 w).length from (by first | rfl | (simp only [bRuns, bMoves, bChills, bTells, List.length_cons, List.length_append, List.length_nil]; omega))]; funext zz; by_cases zq1 : zz = o + 9; (rw [zq1, va_up_self]; exact zK12); by_cases zq0 : zz = o; (rw [zq0, va_up_ne _ _ (show o ≠ o + 9 by omega), va_up_self]; exact zK11); rw [va_up_ne _ _ zq1, va_up_ne _ _ zq0]; rw [ze7]; simp only [va_up, if_neg zq0, if_neg zq1]
  · rfl
set_option maxHeartbeats 4000000 in
set_option maxRecDepth 100000 in
theorem r_tells_3 {κ : Wc} {l : Launch} {h : Mm} {n : Nat} {o : Nat} {x : Int32} {tn : Nat} {dd : Nat} {w : Nat} {m : Int32} {d : Nat → Int32} {tr : Nat → Int32} {who : Nat} {im : Int32} {ba : Int32} {at_ : Int32} {sz : Int32} {fa : Int32} {op : Int32} {rm : Int32} {ti : Int32} (K0 : h o = some (.inr (12, [.ref (o + 1), .ref (o + 2), .ref (o + 3), .int im, .ref (o + 4), .int ba, .int at_, .int sz, .int fa, .int op, .ref (o + 5), .ref (o + 6), .int rm, .ref (o + 7), .ref (o + 8), .int ti, .ref (o + 9), .int (nI tn), .int (nI who), .ref (o + 10), .ref (o + 11), .ref (o + 12), .ref (o + 13)]))) (K1 : h (o + 9) = arI κ 40 tr) (K2 : h (o + 1) = arI κ 340 d) (p1 : who < 6) (p2 : w ≤ 6) (hw : d (20 + 2 * who) = nI w) (hm : d (20 + 2 * who + 1) = m) (hd : 16 ≤ dd) (ht : tn + 19 ≤ 40) : Con κ l yX12_tells cX12_tells 4 (some .int) dd 0 0 [.ref o, .int 3, .int x] h n (fun q h' n' => q = some (.int (vTells 3 w (nI who) m x)) ∧ h' = va_up (va_up h o (some (.inr (12, [.ref (o + 1), .ref (o + 2), .ref (o + 3), .int im, .ref (o + 4), .int ba, .int at_, .int sz, .int fa, .int op, .ref (o + 5), .ref (o + 6), .int rm, .ref (o + 7), .ref (o + 8), .int ti, .ref (o + 9), .int (nI (tn + (bTells 3 w).length)), .int (nI who), .ref (o + 10), .ref (o + 11), .ref (o + 12), .ref (o + 13)])))) (o + 9) (arI κ 40 (wrs tr tn (bTells 3 w))) ∧ n' = n) := by
  refine Con.of mk_X12_tells (Nat.le_of_ble_eq_true rfl) (fun G hG X E => ?_)
  subst hG
  refine z_ls (ls' := [(0, .ref o), (1, .int 3), (2, .int x)]) rfl ?_
  have hb1 := bRuns_le w
  have hb2 := bMoves_le w
  have hb3 := bChills_le w w
  have hbr0 := bRuns_le 0
  have hbm0 := bMoves_le 0
  have hbc0 := bChills_le 0 w
  have hbt0 := bTells_le 0 w
  have hbr1 := bRuns_le 1
  have hbm1 := bMoves_le 1
  have hbc1 := bChills_le 1 w
  have hbt1 := bTells_le 1 w
  have hbr2 := bRuns_le 2
  have hbm2 := bMoves_le 2
  have hbc2 := bChills_le 2 w
  have hbt2 := bTells_le 2 w
  have hbr3 := bRuns_le 3
  have hbm3 := bMoves_le 3
  have hbc3 := bChills_le 3 w
  have hbt3 := bTells_le 3 w
  have hbr4 := bRuns_le 4
  have hbm4 := bMoves_le 4
  have hbc4 := bChills_le 4 w
  have hbt4 := bTells_le 4 w
  have hbr5 := bRuns_le 5
  have hbm5 := bMoves_le 5
  have hbc5 := bChills_le 5 w
  have hbt5 := bTells_le 5 w
  have hbr6 := bRuns_le 6
  have hbm6 := bMoves_le 6
  have hbc6 := bChills_le 6 w
  have hbt6 := bTells_le 6 w
  refine z_iload_n X 1 dX12_tells_0 rfl ?_
  refine z_lookup (off := 120) X 121 dX12_tells_1 (by decide) (by decide) (by decide) ?_
  refine z_aload_n X 0 dX12_tells_121 rfl ?_
  refine z_iload_n X 1 dX12_tells_122 rfl ?_
  refine z_callS X (r_above (κ := κ) (n := n) (k := (3))  ) mk_X12_above dX12_tells_123 wd_1307 wd_1308 rfl rfl (Nat.le_of_ble_eq_true rfl) (by omega) (Nat.le_of_ble_eq_true rfl) (by omega) (by omega) (fun q zh1 zm3 zp4 => ?_)
  obtain ⟨rfl, ze2, zn5⟩ := zp4
  subst zm3
  subst zh1
  refine z_st (st' := [.int (aboveR 3), .ref o]) rfl ?_
  refine z_toe (y := 2) (by decide) ?_
  refine z_iload_n X 2 dX12_tells_126 rfl ?_
  refine z_callV X (r_tells_2 (κ := κ) (n := n) (o := (o)) (x := (x)) (tn := (tn)) (dd := (dd - 1)) (w := (w)) (m := (m)) (d := (d)) (tr := (tr)) (who := (who)) (im := (im)) (ba := (ba)) (at_ := (at_)) (sz := (sz)) (fa := (fa)) (op := (op)) (rm := (rm)) (ti := (ti)) K0 K1 K2 (p1) (p2) (hw) (hm) (by first | assumption | omega) (by first | assumption | omega)) mk_X12_tells dX12_tells_127 wd_1322 wd_1324 wd_56 rfl K0 rfl rfl rfl (Nat.le_of_ble_eq_true rfl) (by omega) (Nat.le_of_ble_eq_true rfl) (by omega) (by omega) (fun q zh6 zm8 zp9 => ?_)
  obtain ⟨rfl, ze7, zn10⟩ := zp9
  subst zm8
  refine z_st (st' := [.int (vTells 2 w (nI who) m x)]) rfl ?_
  have zK11 : zh6 o = some (.inr (12, [.ref (o + 1), .ref (o + 2), .ref (o + 3), .int im, .ref (o + 4), .int ba, .int at_, .int sz, .int fa, .int op, .ref (o + 5), .ref (o + 6), .int rm, .ref (o + 7), .ref (o + 8), .int ti, .ref (o + 9), .int (nI (tn + (bTells 2 w).length)), .int (nI who), .ref (o + 10), .ref (o + 11), .ref (o + 12), .ref (o + 13)])) := by rw [ze7]; rw [va_up_ne _ _ (show o ≠ o + 9 by omega)]; exact va_up_self _ _ _
  have zK12 : zh6 (o + 9) = arI κ 40 (wrs tr tn (bTells 2 w)) := by rw [ze7]; exact va_up_self _ _ _
  have zK13 : zh6 (o + 1) = arI κ 340 d := by rw [ze7]; rw [va_up_ne _ _ (show o + 1 ≠ o + 9 by omega)]; rw [va_up_ne _ _ (show o + 1 ≠ o by omega)]; exact K2
  refine z_iret X E dX12_tells_130 (by omega) (by omega) ⟨?_, ?_, ?_⟩
  · rfl
  · rw [show wrs tr tn (bTells 3 w) = wrs tr tn (bTells 2 w) from (by first | rfl | exact wrs_app _ _ _ _), show tn + (bTells 3 w).length = tn + (bTells 2 w).length from (by first | rfl | (simp only [bRuns, bMoves, bChills, bTells, List.length_cons, List.length_append, List.length_nil]; omega))]; funext zz; by_cases zq1 : zz = o + 9; (rw [zq1, va_up_self]; exact zK12); by_cases zq0 : zz = o; (rw [zq0, va_up_ne _ _ (show o ≠ o + 9 by omega), va_up_self]; exact zK11); rw [va_up_ne _ _ zq1, va_up_ne _ _ zq0]; rw [ze7]; simp only [va_up, if_neg zq0, if_neg zq1]
  · rfl
set_option maxHeartbeats 4000000 in
set_option maxRecDepth 100000 in
theorem r_tells_4 {κ : Wc} {l : Launch} {h : Mm} {n : Nat} {o : Nat} {x : Int32} {tn : Nat} {dd : Nat} {w : Nat} {m : Int32} {d : Nat → Int32} {tr : Nat → Int32} {who : Nat} {im : Int32} {ba : Int32} {at_ : Int32} {sz : Int32} {fa : Int32} {op : Int32} {rm : Int32} {ti : Int32} (K0 : h o = some (.inr (12, [.ref (o + 1), .ref (o + 2), .ref (o + 3), .int im, .ref (o + 4), .int ba, .int at_, .int sz, .int fa, .int op, .ref (o + 5), .ref (o + 6), .int rm, .ref (o + 7), .ref (o + 8), .int ti, .ref (o + 9), .int (nI tn), .int (nI who), .ref (o + 10), .ref (o + 11), .ref (o + 12), .ref (o + 13)]))) (K1 : h (o + 9) = arI κ 40 tr) (K2 : h (o + 1) = arI κ 340 d) (p1 : who < 6) (p2 : w ≤ 6) (hw : d (20 + 2 * who) = nI w) (hm : d (20 + 2 * who + 1) = m) (hd : 17 ≤ dd) (ht : tn + 31 ≤ 40) : Con κ l yX12_tells cX12_tells 4 (some .int) dd 0 0 [.ref o, .int 4, .int x] h n (fun q h' n' => q = some (.int (vTells 4 w (nI who) m x)) ∧ h' = va_up (va_up h o (some (.inr (12, [.ref (o + 1), .ref (o + 2), .ref (o + 3), .int im, .ref (o + 4), .int ba, .int at_, .int sz, .int fa, .int op, .ref (o + 5), .ref (o + 6), .int rm, .ref (o + 7), .ref (o + 8), .int ti, .ref (o + 9), .int (nI (tn + (bTells 4 w).length)), .int (nI who), .ref (o + 10), .ref (o + 11), .ref (o + 12), .ref (o + 13)])))) (o + 9) (arI κ 40 (wrs tr tn (bTells 4 w))) ∧ n' = n) := by
  refine Con.of mk_X12_tells (Nat.le_of_ble_eq_true rfl) (fun G hG X E => ?_)
  subst hG
  refine z_ls (ls' := [(0, .ref o), (1, .int 4), (2, .int x)]) rfl ?_
  have hb1 := bRuns_le w
  have hb2 := bMoves_le w
  have hb3 := bChills_le w w
  have hbr0 := bRuns_le 0
  have hbm0 := bMoves_le 0
  have hbc0 := bChills_le 0 w
  have hbt0 := bTells_le 0 w
  have hbr1 := bRuns_le 1
  have hbm1 := bMoves_le 1
  have hbc1 := bChills_le 1 w
  have hbt1 := bTells_le 1 w
  have hbr2 := bRuns_le 2
  have hbm2 := bMoves_le 2
  have hbc2 := bChills_le 2 w
  have hbt2 := bTells_le 2 w
  have hbr3 := bRuns_le 3
  have hbm3 := bMoves_le 3
  have hbc3 := bChills_le 3 w
  have hbt3 := bTells_le 3 w
  have hbr4 := bRuns_le 4
  have hbm4 := bMoves_le 4
  have hbc4 := bChills_le 4 w
  have hbt4 := bTells_le 4 w
  have hbr5 := bRuns_le 5
  have hbm5 := bMoves_le 5
  have hbc5 := bChills_le 5 w
  have hbt5 := bTells_le 5 w
  have hbr6 := bRuns_le 6
  have hbm6 := bMoves_le 6
  have hbc6 := bChills_le 6 w
  have hbt6 := bTells_le 6 w
  refine z_iload_n X 1 dX12_tells_0 rfl ?_
  refine z_lookup (off := 63) X 64 dX12_tells_1 (by decide) (by decide) (by decide) ?_
  refine z_aload_n X 0 dX12_tells_64 rfl ?_
  refine z_bipush (v := 50) X dX12_tells_65 (by decide) ?_
  refine z_callV X (r_ran2 (κ := κ) (n := n) (o := (o)) (b := (50)) (tn := (tn)) (tr := (tr)) (im := (im)) (ba := (ba)) (at_ := (at_)) (sz := (sz)) (fa := (fa)) (op := (op)) (rm := (rm)) (ti := (ti)) (wh := (nI who)) K0 K1 (by first | assumption | omega)) mk_X12_ran dX12_tells_67 wd_1303 wd_1305 wd_52 rfl K0 rfl rfl rfl (Nat.le_of_ble_eq_true rfl) (by omega) (Nat.le_of_ble_eq_true rfl) (by omega) (by omega) (fun q zh1 zm3 zp4 => ?_)
  obtain ⟨rfl, ze2, zn5⟩ := zp4
  subst zm3
  refine z_st (st' := []) rfl ?_
  have zK6 : zh1 o = some (.inr (12, [.ref (o + 1), .ref (o + 2), .ref (o + 3), .int im, .ref (o + 4), .int ba, .int at_, .int sz, .int fa, .int op, .ref (o + 5), .ref (o + 6), .int rm, .ref (o + 7), .ref (o + 8), .int ti, .ref (o + 9), .int (nI (tn + 1)), .int ((nI who)), .ref (o + 10), .ref (o + 11), .ref (o + 12), .ref (o + 13)])) := by rw [ze2]; rw [va_up_ne _ _ (show o ≠ o + 9 by omega)]; exact va_up_self _ _ _
  have zK7 : zh1 (o + 9) = arI κ 40 (upd tr tn 50) := by rw [ze2]; exact va_up_self _ _ _
  have zK8 : zh1 (o + 1) = arI κ 340 d := by rw [ze2]; rw [va_up_ne _ _ (show o + 1 ≠ o + 9 by omega)]; rw [va_up_ne _ _ (show o + 1 ≠ o by omega)]; exact K2
  refine z_aload_n X 0 dX12_tells_70 rfl ?_
  refine z_iconst (v := 4) X dX12_tells_71 (by decide) ?_
  refine z_callS X (r_above (κ := κ) (n := n) (k := (4))  ) mk_X12_above dX12_tells_72 wd_1307 wd_1308 rfl rfl (Nat.le_of_ble_eq_true rfl) (by omega) (Nat.le_of_ble_eq_true rfl) (by omega) (by omega) (fun q zh9 zm11 zp12 => ?_)
  obtain ⟨rfl, ze10, zn13⟩ := zp12
  subst zm11
  subst zh9
  refine z_st (st' := [.int (aboveR 4), .ref o]) rfl ?_
  refine z_toe (y := 3) (by decide) ?_
  refine z_iload_n X 2 dX12_tells_75 rfl ?_
  refine z_callV X (r_tells_3 (κ := κ) (n := n) (o := (o)) (x := (x)) (tn := (tn + 1)) (dd := (dd - 1)) (w := (w)) (m := (m)) (d := (d)) (tr := (upd tr tn 50)) (who := (who)) (im := (im)) (ba := (ba)) (at_ := (at_)) (sz := (sz)) (fa := (fa)) (op := (op)) (rm := (rm)) (ti := (ti)) zK6 zK7 zK8 (p1) (p2) (hw) (hm) (by first | assumption | omega) (by first | assumption | omega)) mk_X12_tells dX12_tells_76 wd_1322 wd_1324 wd_56 rfl zK6 rfl rfl rfl (Nat.le_of_ble_eq_true rfl) (by omega) (Nat.le_of_ble_eq_true rfl) (by omega) (by omega) (fun q zh14 zm16 zp17 => ?_)
  obtain ⟨rfl, ze15, zn18⟩ := zp17
  subst zm16
  refine z_st (st' := [.int (vTells 3 w (nI who) m x)]) rfl ?_
  have zK19 : zh14 o = some (.inr (12, [.ref (o + 1), .ref (o + 2), .ref (o + 3), .int im, .ref (o + 4), .int ba, .int at_, .int sz, .int fa, .int op, .ref (o + 5), .ref (o + 6), .int rm, .ref (o + 7), .ref (o + 8), .int ti, .ref (o + 9), .int (nI ((tn + 1) + (bTells 3 w).length)), .int (nI who), .ref (o + 10), .ref (o + 11), .ref (o + 12), .ref (o + 13)])) := by rw [ze15]; rw [va_up_ne _ _ (show o ≠ o + 9 by omega)]; exact va_up_self _ _ _
  have zK20 : zh14 (o + 9) = arI κ 40 (wrs (upd tr tn 50) (tn + 1) (bTells 3 w)) := by rw [ze15]; exact va_up_self _ _ _
  have zK21 : zh14 (o + 1) = arI κ 340 d := by rw [ze15]; rw [va_up_ne _ _ (show o + 1 ≠ o + 9 by omega)]; rw [va_up_ne _ _ (show o + 1 ≠ o by omega)]; exact zK8
  refine z_istore_n (ls' := [(3, .int (vTells 3 w (nI who) m x)), (0, .ref o), (1, .int 4), (2, .int x)]) X dX12_tells_79 (by decide) rfl ?_
  refine z_iload_n X 0 dX12_tells_80 rfl ?_
  refine z_aload_n X 1 dX12_tells_81 rfl ?_
  refine z_aload_n X 1 dX12_tells_82 rfl ?_
  refine z_callV X (r_own (κ := κ) (n := n) (o := (o)) (d := (d)) (who := (who)) (im := (im)) (ba := (ba)) (at_ := (at_)) (sz := (sz)) (fa := (fa)) (op := (op)) (rm := (rm)) (ti := (ti)) (tm := (nI ((tn + 1) + (bTells 3 w).length))) zK19 zK21 (by first | assumption | omega)) mk_X12_own dX12_tells_83 wd_1295 wd_1297 wd_50 rfl zK19 rfl rfl rfl (Nat.le_of_ble_eq_true rfl) (by omega) (Nat.le_of_ble_eq_true rfl) (by omega) (by omega) (fun q zh22 zm24 zp25 => ?_)
  obtain ⟨rfl, ze23, zn26⟩ := zp25
  subst zm24
  subst zh22
  refine z_st (st' := [.int (d (20 + 2 * who)), .ref o, .int (vTells 3 w (nI who) m x)]) rfl ?_
  refine z_toe (y := nI w) (hw) ?_
  refine z_iconst (v := 2) X dX12_tells_86 (by decide) ?_
  refine z_callV X (r_runs (κ := κ) (n := n) (k := (w)) (o := (o)) (x := (2)) (tn := ((tn + 1) + (bTells 3 w).length)) (dd := (dd - 1)) (w := (w)) (m := (m)) (d := (d)) (tr := (wrs (upd tr tn 50) (tn + 1) (bTells 3 w))) (who := (who)) (im := (im)) (ba := (ba)) (at_ := (at_)) (sz := (sz)) (fa := (fa)) (op := (op)) (rm := (rm)) (ti := (ti)) zK19 zK20 zK21 (p1) (p2) (hw) (hm) (by first | assumption | omega) (by first | assumption | omega) (p2)) mk_X12_runs dX12_tells_87 wd_1299 wd_1301 wd_51 rfl zK19 rfl rfl rfl (Nat.le_of_ble_eq_true rfl) (by omega) (Nat.le_of_ble_eq_true rfl) (by omega) (by omega) (fun q zh27 zm29 zp30 => ?_)
  obtain ⟨rfl, ze28, zn31⟩ := zp30
  subst zm29
  refine z_st (st' := [.int (vRuns w (nI who) 2), .int (vTells 3 w (nI who) m x)]) rfl ?_
  have zK32 : zh27 o = some (.inr (12, [.ref (o + 1), .ref (o + 2), .ref (o + 3), .int im, .ref (o + 4), .int ba, .int at_, .int sz, .int fa, .int op, .ref (o + 5), .ref (o + 6), .int rm, .ref (o + 7), .ref (o + 8), .int ti, .ref (o + 9), .int (nI (((tn + 1) + (bTells 3 w).length) + (bRuns w).length)), .int (nI who), .ref (o + 10), .ref (o + 11), .ref (o + 12), .ref (o + 13)])) := by rw [ze28]; rw [va_up_ne _ _ (show o ≠ o + 9 by omega)]; exact va_up_self _ _ _
  have zK33 : zh27 (o + 9) = arI κ 40 (wrs (wrs (upd tr tn 50) (tn + 1) (bTells 3 w)) ((tn + 1) + (bTells 3 w).length) (bRuns w)) := by rw [ze28]; exact va_up_self _ _ _
  have zK34 : zh27 (o + 1) = arI κ 340 d := by rw [ze28]; rw [va_up_ne _ _ (show o + 1 ≠ o + 9 by omega)]; rw [va_up_ne _ _ (show o + 1 ≠ o by omega)]; exact zK21
  refine z_isub X dX12_tells_90 ?_
  refine z_iret X E dX12_tells_91 (by omega) (by omega) ⟨?_, ?_, ?_⟩
  · rfl
  · rw [show wrs tr tn (bTells 4 w) = wrs (wrs (upd tr tn 50) (tn + 1) (bTells 3 w)) ((tn + 1) + (bTells 3 w).length) (bRuns w) from (by first | rfl | exact wrs_app _ _ _ _), show tn + (bTells 4 w).length = ((tn + 1) + (bTells 3 w).length) + (bRuns w).length from (by first | rfl | (simp only [bRuns, bMoves, bChills, bTells, List.length_cons, List.length_append, List.length_nil]; omega))]; funext zz; by_cases zq1 : zz = o + 9; (rw [zq1, va_up_self]; exact zK33); by_cases zq0 : zz = o; (rw [zq0, va_up_ne _ _ (show o ≠ o + 9 by omega), va_up_self]; exact zK32); rw [va_up_ne _ _ zq1, va_up_ne _ _ zq0]; rw [ze28, ze15, ze2]; simp only [va_up, if_neg zq0, if_neg zq1]
  · rfl
set_option maxHeartbeats 4000000 in
set_option maxRecDepth 100000 in
theorem r_tells_5 {κ : Wc} {l : Launch} {h : Mm} {n : Nat} {o : Nat} {x : Int32} {tn : Nat} {dd : Nat} {w : Nat} {m : Int32} {d : Nat → Int32} {tr : Nat → Int32} {who : Nat} {im : Int32} {ba : Int32} {at_ : Int32} {sz : Int32} {fa : Int32} {op : Int32} {rm : Int32} {ti : Int32} (K0 : h o = some (.inr (12, [.ref (o + 1), .ref (o + 2), .ref (o + 3), .int im, .ref (o + 4), .int ba, .int at_, .int sz, .int fa, .int op, .ref (o + 5), .ref (o + 6), .int rm, .ref (o + 7), .ref (o + 8), .int ti, .ref (o + 9), .int (nI tn), .int (nI who), .ref (o + 10), .ref (o + 11), .ref (o + 12), .ref (o + 13)]))) (K1 : h (o + 9) = arI κ 40 tr) (K2 : h (o + 1) = arI κ 340 d) (p1 : who < 6) (p2 : w ≤ 6) (hw : d (20 + 2 * who) = nI w) (hm : d (20 + 2 * who + 1) = m) (hd : 15 ≤ dd) (ht : tn + 19 ≤ 40) : Con κ l yX12_tells cX12_tells 4 (some .int) dd 0 0 [.ref o, .int 5, .int x] h n (fun q h' n' => q = some (.int (vTells 5 w (nI who) m x)) ∧ h' = va_up (va_up h o (some (.inr (12, [.ref (o + 1), .ref (o + 2), .ref (o + 3), .int im, .ref (o + 4), .int ba, .int at_, .int sz, .int fa, .int op, .ref (o + 5), .ref (o + 6), .int rm, .ref (o + 7), .ref (o + 8), .int ti, .ref (o + 9), .int (nI (tn + (bTells 5 w).length)), .int (nI who), .ref (o + 10), .ref (o + 11), .ref (o + 12), .ref (o + 13)])))) (o + 9) (arI κ 40 (wrs tr tn (bTells 5 w))) ∧ n' = n) := by
  refine Con.of mk_X12_tells (Nat.le_of_ble_eq_true rfl) (fun G hG X E => ?_)
  subst hG
  refine z_ls (ls' := [(0, .ref o), (1, .int 5), (2, .int x)]) rfl ?_
  have hb1 := bRuns_le w
  have hb2 := bMoves_le w
  have hb3 := bChills_le w w
  have hbr0 := bRuns_le 0
  have hbm0 := bMoves_le 0
  have hbc0 := bChills_le 0 w
  have hbt0 := bTells_le 0 w
  have hbr1 := bRuns_le 1
  have hbm1 := bMoves_le 1
  have hbc1 := bChills_le 1 w
  have hbt1 := bTells_le 1 w
  have hbr2 := bRuns_le 2
  have hbm2 := bMoves_le 2
  have hbc2 := bChills_le 2 w
  have hbt2 := bTells_le 2 w
  have hbr3 := bRuns_le 3
  have hbm3 := bMoves_le 3
  have hbc3 := bChills_le 3 w
  have hbt3 := bTells_le 3 w
  have hbr4 := bRuns_le 4
  have hbm4 := bMoves_le 4
  have hbc4 := bChills_le 4 w
  have hbt4 := bTells_le 4 w
  have hbr5 := bRuns_le 5
  have hbm5 := bMoves_le 5
  have hbc5 := bChills_le 5 w
  have hbt5 := bTells_le 5 w
  have hbr6 := bRuns_le 6
  have hbm6 := bMoves_le 6
  have hbc6 := bChills_le 6 w
  have hbt6 := bTells_le 6 w
  refine z_iload_n X 1 dX12_tells_0 rfl ?_
  refine z_lookup (off := 120) X 121 dX12_tells_1 (by decide) (by decide) (by decide) ?_
  refine z_aload_n X 0 dX12_tells_121 rfl ?_
  refine z_iload_n X 1 dX12_tells_122 rfl ?_
  refine z_callS X (r_above (κ := κ) (n := n) (k := (5))  ) mk_X12_above dX12_tells_123 wd_1307 wd_1308 rfl rfl (Nat.le_of_ble_eq_true rfl) (by omega) (Nat.le_of_ble_eq_true rfl) (by omega) (by omega) (fun q zh1 zm3 zp4 => ?_)
  obtain ⟨rfl, ze2, zn5⟩ := zp4
  subst zm3
  subst zh1
  refine z_st (st' := [.int (aboveR 5), .ref o]) rfl ?_
  refine z_toe (y := 0) (by decide) ?_
  refine z_iload_n X 2 dX12_tells_126 rfl ?_
  refine z_callV X (r_tells_0 (κ := κ) (n := n) (o := (o)) (x := (x)) (tn := (tn)) (dd := (dd - 1)) (w := (w)) (m := (m)) (d := (d)) (tr := (tr)) (who := (who)) (im := (im)) (ba := (ba)) (at_ := (at_)) (sz := (sz)) (fa := (fa)) (op := (op)) (rm := (rm)) (ti := (ti)) K0 K1 K2 (p1) (p2) (hw) (hm) (by first | assumption | omega) (by first | assumption | omega)) mk_X12_tells dX12_tells_127 wd_1322 wd_1324 wd_56 rfl K0 rfl rfl rfl (Nat.le_of_ble_eq_true rfl) (by omega) (Nat.le_of_ble_eq_true rfl) (by omega) (by omega) (fun q zh6 zm8 zp9 => ?_)
  obtain ⟨rfl, ze7, zn10⟩ := zp9
  subst zm8
  refine z_st (st' := [.int (vTells 0 w (nI who) m x)]) rfl ?_
  have zK11 : zh6 o = some (.inr (12, [.ref (o + 1), .ref (o + 2), .ref (o + 3), .int im, .ref (o + 4), .int ba, .int at_, .int sz, .int fa, .int op, .ref (o + 5), .ref (o + 6), .int rm, .ref (o + 7), .ref (o + 8), .int ti, .ref (o + 9), .int (nI (tn + (bTells 0 w).length)), .int (nI who), .ref (o + 10), .ref (o + 11), .ref (o + 12), .ref (o + 13)])) := by rw [ze7]; rw [va_up_ne _ _ (show o ≠ o + 9 by omega)]; exact va_up_self _ _ _
  have zK12 : zh6 (o + 9) = arI κ 40 (wrs tr tn (bTells 0 w)) := by rw [ze7]; exact va_up_self _ _ _
  have zK13 : zh6 (o + 1) = arI κ 340 d := by rw [ze7]; rw [va_up_ne _ _ (show o + 1 ≠ o + 9 by omega)]; rw [va_up_ne _ _ (show o + 1 ≠ o by omega)]; exact K2
  refine z_iret X E dX12_tells_130 (by omega) (by omega) ⟨?_, ?_, ?_⟩
  · rfl
  · rw [show wrs tr tn (bTells 5 w) = wrs tr tn (bTells 0 w) from (by first | rfl | exact wrs_app _ _ _ _), show tn + (bTells 5 w).length = tn + (bTells 0 w).length from (by first | rfl | (simp only [bRuns, bMoves, bChills, bTells, List.length_cons, List.length_append, List.length_nil]; omega))]; funext zz; by_cases zq1 : zz = o + 9; (rw [zq1, va_up_self]; exact zK12); by_cases zq0 : zz = o; (rw [zq0, va_up_ne _ _ (show o ≠ o + 9 by omega), va_up_self]; exact zK11); rw [va_up_ne _ _ zq1, va_up_ne _ _ zq0]; rw [ze7]; simp only [va_up, if_neg zq0, if_neg zq1]
  · rfl
set_option maxHeartbeats 4000000 in
set_option maxRecDepth 100000 in
theorem r_tells_6 {κ : Wc} {l : Launch} {h : Mm} {n : Nat} {o : Nat} {x : Int32} {tn : Nat} {dd : Nat} {w : Nat} {m : Int32} {d : Nat → Int32} {tr : Nat → Int32} {who : Nat} {im : Int32} {ba : Int32} {at_ : Int32} {sz : Int32} {fa : Int32} {op : Int32} {rm : Int32} {ti : Int32} (K0 : h o = some (.inr (12, [.ref (o + 1), .ref (o + 2), .ref (o + 3), .int im, .ref (o + 4), .int ba, .int at_, .int sz, .int fa, .int op, .ref (o + 5), .ref (o + 6), .int rm, .ref (o + 7), .ref (o + 8), .int ti, .ref (o + 9), .int (nI tn), .int (nI who), .ref (o + 10), .ref (o + 11), .ref (o + 12), .ref (o + 13)]))) (K1 : h (o + 9) = arI κ 40 tr) (K2 : h (o + 1) = arI κ 340 d) (p1 : who < 6) (p2 : w ≤ 6) (hw : d (20 + 2 * who) = nI w) (hm : d (20 + 2 * who + 1) = m) (hd : 17 ≤ dd) (ht : tn + 28 ≤ 40) : Con κ l yX12_tells cX12_tells 4 (some .int) dd 0 0 [.ref o, .int 6, .int x] h n (fun q h' n' => q = some (.int (vTells 6 w (nI who) m x)) ∧ h' = va_up (va_up h o (some (.inr (12, [.ref (o + 1), .ref (o + 2), .ref (o + 3), .int im, .ref (o + 4), .int ba, .int at_, .int sz, .int fa, .int op, .ref (o + 5), .ref (o + 6), .int rm, .ref (o + 7), .ref (o + 8), .int ti, .ref (o + 9), .int (nI (tn + (bTells 6 w).length)), .int (nI who), .ref (o + 10), .ref (o + 11), .ref (o + 12), .ref (o + 13)])))) (o + 9) (arI κ 40 (wrs tr tn (bTells 6 w))) ∧ n' = n) := by
  refine Con.of mk_X12_tells (Nat.le_of_ble_eq_true rfl) (fun G hG X E => ?_)
  subst hG
  refine z_ls (ls' := [(0, .ref o), (1, .int 6), (2, .int x)]) rfl ?_
  have hb1 := bRuns_le w
  have hb2 := bMoves_le w
  have hb3 := bChills_le w w
  have hbr0 := bRuns_le 0
  have hbm0 := bMoves_le 0
  have hbc0 := bChills_le 0 w
  have hbt0 := bTells_le 0 w
  have hbr1 := bRuns_le 1
  have hbm1 := bMoves_le 1
  have hbc1 := bChills_le 1 w
  have hbt1 := bTells_le 1 w
  have hbr2 := bRuns_le 2
  have hbm2 := bMoves_le 2
  have hbc2 := bChills_le 2 w
  have hbt2 := bTells_le 2 w
  have hbr3 := bRuns_le 3
  have hbm3 := bMoves_le 3
  have hbc3 := bChills_le 3 w
  have hbt3 := bTells_le 3 w
  have hbr4 := bRuns_le 4
  have hbm4 := bMoves_le 4
  have hbc4 := bChills_le 4 w
  have hbt4 := bTells_le 4 w
  have hbr5 := bRuns_le 5
  have hbm5 := bMoves_le 5
  have hbc5 := bChills_le 5 w
  have hbt5 := bTells_le 5 w
  have hbr6 := bRuns_le 6
  have hbm6 := bMoves_le 6
  have hbc6 := bChills_le 6 w
  have hbt6 := bTells_le 6 w
  refine z_iload_n X 1 dX12_tells_0 rfl ?_
  refine z_lookup (off := 91) X 92 dX12_tells_1 (by decide) (by decide) (by decide) ?_
  refine z_aload_n X 0 dX12_tells_92 rfl ?_
  refine z_bipush (v := 71) X dX12_tells_93 (by decide) ?_
  refine z_callV X (r_ran2 (κ := κ) (n := n) (o := (o)) (b := (71)) (tn := (tn)) (tr := (tr)) (im := (im)) (ba := (ba)) (at_ := (at_)) (sz := (sz)) (fa := (fa)) (op := (op)) (rm := (rm)) (ti := (ti)) (wh := (nI who)) K0 K1 (by first | assumption | omega)) mk_X12_ran dX12_tells_95 wd_1303 wd_1305 wd_52 rfl K0 rfl rfl rfl (Nat.le_of_ble_eq_true rfl) (by omega) (Nat.le_of_ble_eq_true rfl) (by omega) (by omega) (fun q zh1 zm3 zp4 => ?_)
  obtain ⟨rfl, ze2, zn5⟩ := zp4
  subst zm3
  refine z_st (st' := []) rfl ?_
  have zK6 : zh1 o = some (.inr (12, [.ref (o + 1), .ref (o + 2), .ref (o + 3), .int im, .ref (o + 4), .int ba, .int at_, .int sz, .int fa, .int op, .ref (o + 5), .ref (o + 6), .int rm, .ref (o + 7), .ref (o + 8), .int ti, .ref (o + 9), .int (nI (tn + 1)), .int ((nI who)), .ref (o + 10), .ref (o + 11), .ref (o + 12), .ref (o + 13)])) := by rw [ze2]; rw [va_up_ne _ _ (show o ≠ o + 9 by omega)]; exact va_up_self _ _ _
  have zK7 : zh1 (o + 9) = arI κ 40 (upd tr tn 71) := by rw [ze2]; exact va_up_self _ _ _
  have zK8 : zh1 (o + 1) = arI κ 340 d := by rw [ze2]; rw [va_up_ne _ _ (show o + 1 ≠ o + 9 by omega)]; rw [va_up_ne _ _ (show o + 1 ≠ o by omega)]; exact K2
  refine z_aload_n X 0 dX12_tells_98 rfl ?_
  refine z_aload_n X 0 dX12_tells_99 rfl ?_
  refine z_callV X (r_own (κ := κ) (n := n) (o := (o)) (d := (d)) (who := (who)) (im := (im)) (ba := (ba)) (at_ := (at_)) (sz := (sz)) (fa := (fa)) (op := (op)) (rm := (rm)) (ti := (ti)) (tm := (nI (tn + 1))) zK6 zK8 (by first | assumption | omega)) mk_X12_own dX12_tells_100 wd_1295 wd_1297 wd_50 rfl zK6 rfl rfl rfl (Nat.le_of_ble_eq_true rfl) (by omega) (Nat.le_of_ble_eq_true rfl) (by omega) (by omega) (fun q zh9 zm11 zp12 => ?_)
  obtain ⟨rfl, ze10, zn13⟩ := zp12
  subst zm11
  subst zh9
  refine z_st (st' := [.int (d (20 + 2 * who)), .ref o]) rfl ?_
  refine z_toe (y := nI w) (hw) ?_
  refine z_iload_n X 2 dX12_tells_103 rfl ?_
  refine z_callV X (r_chills (κ := κ) (n := n) (k := (w)) (o := (o)) (x := (x)) (tn := (tn + 1)) (dd := (dd - 1)) (w := (w)) (m := (m)) (d := (d)) (tr := (upd tr tn 71)) (who := (who)) (im := (im)) (ba := (ba)) (at_ := (at_)) (sz := (sz)) (fa := (fa)) (op := (op)) (rm := (rm)) (ti := (ti)) zK6 zK7 zK8 (p1) (p2) (hw) (hm) (by first | assumption | omega) (by first | assumption | omega) (p2)) mk_X12_chills dX12_tells_104 wd_1310 wd_1312 wd_53 rfl zK6 rfl rfl rfl (Nat.le_of_ble_eq_true rfl) (by omega) (Nat.le_of_ble_eq_true rfl) (by omega) (by omega) (fun q zh14 zm16 zp17 => ?_)
  obtain ⟨rfl, ze15, zn18⟩ := zp17
  subst zm16
  refine z_st (st' := [.int (vChills w w (nI who) m x)]) rfl ?_
  have zK19 : zh14 o = some (.inr (12, [.ref (o + 1), .ref (o + 2), .ref (o + 3), .int im, .ref (o + 4), .int ba, .int at_, .int sz, .int fa, .int op, .ref (o + 5), .ref (o + 6), .int rm, .ref (o + 7), .ref (o + 8), .int ti, .ref (o + 9), .int (nI ((tn + 1) + (bChills w w).length)), .int (nI who), .ref (o + 10), .ref (o + 11), .ref (o + 12), .ref (o + 13)])) := by rw [ze15]; rw [va_up_ne _ _ (show o ≠ o + 9 by omega)]; exact va_up_self _ _ _
  have zK20 : zh14 (o + 9) = arI κ 40 (wrs (upd tr tn 71) (tn + 1) (bChills w w)) := by rw [ze15]; exact va_up_self _ _ _
  have zK21 : zh14 (o + 1) = arI κ 340 d := by rw [ze15]; rw [va_up_ne _ _ (show o + 1 ≠ o + 9 by omega)]; rw [va_up_ne _ _ (show o + 1 ≠ o by omega)]; exact zK8
  refine z_istore_n (ls' := [(3, .int (vChills w w (nI who) m x)), (0, .ref o), (1, .int 6), (2, .int x)]) X dX12_tells_107 (by decide) rfl ?_
  refine z_iload_n X 0 dX12_tells_108 rfl ?_
  refine z_aload_n X 1 dX12_tells_109 rfl ?_
  refine z_bipush (v := 6) X dX12_tells_110 (by decide) ?_
  refine z_callS X (r_above (κ := κ) (n := n) (k := (6))  ) mk_X12_above dX12_tells_112 wd_1307 wd_1308 rfl rfl (Nat.le_of_ble_eq_true rfl) (by omega) (Nat.le_of_ble_eq_true rfl) (by omega) (by omega) (fun q zh22 zm24 zp25 => ?_)
  obtain ⟨rfl, ze23, zn26⟩ := zp25
  subst zm24
  subst zh22
  refine z_st (st' := [.int (aboveR 6), .ref o, .int (vChills w w (nI who) m x)]) rfl ?_
  refine z_toe (y := 1) (by decide) ?_
  refine z_iload_n X 3 dX12_tells_115 rfl ?_
  refine z_callV X (r_tells_1 (κ := κ) (n := n) (o := (o)) (x := (x)) (tn := ((tn + 1) + (bChills w w).length)) (dd := (dd - 1)) (w := (w)) (m := (m)) (d := (d)) (tr := (wrs (upd tr tn 71) (tn + 1) (bChills w w))) (who := (who)) (im := (im)) (ba := (ba)) (at_ := (at_)) (sz := (sz)) (fa := (fa)) (op := (op)) (rm := (rm)) (ti := (ti)) zK19 zK20 zK21 (p1) (p2) (hw) (hm) (by first | assumption | omega) (by first | assumption | omega)) mk_X12_tells dX12_tells_116 wd_1322 wd_1324 wd_56 rfl zK19 rfl rfl rfl (Nat.le_of_ble_eq_true rfl) (by omega) (Nat.le_of_ble_eq_true rfl) (by omega) (by omega) (fun q zh27 zm29 zp30 => ?_)
  obtain ⟨rfl, ze28, zn31⟩ := zp30
  subst zm29
  refine z_st (st' := [.int (vTells 1 w (nI who) m x), .int (vChills w w (nI who) m x)]) rfl ?_
  have zK32 : zh27 o = some (.inr (12, [.ref (o + 1), .ref (o + 2), .ref (o + 3), .int im, .ref (o + 4), .int ba, .int at_, .int sz, .int fa, .int op, .ref (o + 5), .ref (o + 6), .int rm, .ref (o + 7), .ref (o + 8), .int ti, .ref (o + 9), .int (nI (((tn + 1) + (bChills w w).length) + (bTells 1 w).length)), .int (nI who), .ref (o + 10), .ref (o + 11), .ref (o + 12), .ref (o + 13)])) := by rw [ze28]; rw [va_up_ne _ _ (show o ≠ o + 9 by omega)]; exact va_up_self _ _ _
  have zK33 : zh27 (o + 9) = arI κ 40 (wrs (wrs (upd tr tn 71) (tn + 1) (bChills w w)) ((tn + 1) + (bChills w w).length) (bTells 1 w)) := by rw [ze28]; exact va_up_self _ _ _
  have zK34 : zh27 (o + 1) = arI κ 340 d := by rw [ze28]; rw [va_up_ne _ _ (show o + 1 ≠ o + 9 by omega)]; rw [va_up_ne _ _ (show o + 1 ≠ o by omega)]; exact zK21
  refine z_isub X dX12_tells_119 ?_
  refine z_iret X E dX12_tells_120 (by omega) (by omega) ⟨?_, ?_, ?_⟩
  · rfl
  · rw [show wrs tr tn (bTells 6 w) = wrs (wrs (upd tr tn 71) (tn + 1) (bChills w w)) ((tn + 1) + (bChills w w).length) (bTells 1 w) from (by first | rfl | exact wrs_app _ _ _ _), show tn + (bTells 6 w).length = ((tn + 1) + (bChills w w).length) + (bTells 1 w).length from (by first | rfl | (simp only [bRuns, bMoves, bChills, bTells, List.length_cons, List.length_append, List.length_nil]; omega))]; funext zz; by_cases zq1 : zz = o + 9; (rw [zq1, va_up_self]; exact zK33); by_cases zq0 : zz = o; (rw [zq0, va_up_ne _ _ (show o ≠ o + 9 by omega), va_up_self]; exact zK32); rw [va_up_ne _ _ zq1, va_up_ne _ _ zq0]; rw [ze28, ze15, ze2]; simp only [va_up, if_neg zq0, if_neg zq1]
  · rfl
set_option maxHeartbeats 4000000 in
theorem r_tells {κ : Wc} {l : Launch} {h : Mm} {n : Nat} {k : Nat} {o : Nat} {x : Int32} {tn : Nat} {dd : Nat} {w : Nat} {m : Int32} {d : Nat → Int32} {tr : Nat → Int32} {who : Nat} {im : Int32} {ba : Int32} {at_ : Int32} {sz : Int32} {fa : Int32} {op : Int32} {rm : Int32} {ti : Int32} (K0 : h o = some (.inr (12, [.ref (o + 1), .ref (o + 2), .ref (o + 3), .int im, .ref (o + 4), .int ba, .int at_, .int sz, .int fa, .int op, .ref (o + 5), .ref (o + 6), .int rm, .ref (o + 7), .ref (o + 8), .int ti, .ref (o + 9), .int (nI tn), .int (nI who), .ref (o + 10), .ref (o + 11), .ref (o + 12), .ref (o + 13)]))) (K1 : h (o + 9) = arI κ 40 tr) (K2 : h (o + 1) = arI κ 340 d) (p1 : who < 6) (p2 : w ≤ 6) (hw : d (20 + 2 * who) = nI w) (hm : d (20 + 2 * who + 1) = m) (hd : 24 ≤ dd) (ht : tn + 31 ≤ 40) (hk : k ≤ 6) : Con κ l yX12_tells cX12_tells 4 (some .int) dd 0 0 [.ref o, .int (nI k), .int x] h n (fun q h' n' => q = some (.int (vTells k w (nI who) m x)) ∧ h' = va_up (va_up h o (some (.inr (12, [.ref (o + 1), .ref (o + 2), .ref (o + 3), .int im, .ref (o + 4), .int ba, .int at_, .int sz, .int fa, .int op, .ref (o + 5), .ref (o + 6), .int rm, .ref (o + 7), .ref (o + 8), .int ti, .ref (o + 9), .int (nI (tn + (bTells k w).length)), .int (nI who), .ref (o + 10), .ref (o + 11), .ref (o + 12), .ref (o + 13)])))) (o + 9) (arI κ 40 (wrs tr tn (bTells k w))) ∧ n' = n) := by
  match k, hk with
  | 0, _ => exact r_tells_0 K0 K1 K2 p1 p2 hw hm (by omega) (by omega)
  | 1, _ => exact r_tells_1 K0 K1 K2 p1 p2 hw hm (by omega) (by omega)
  | 2, _ => exact r_tells_2 K0 K1 K2 p1 p2 hw hm (by omega) (by omega)
  | 3, _ => exact r_tells_3 K0 K1 K2 p1 p2 hw hm (by omega) (by omega)
  | 4, _ => exact r_tells_4 K0 K1 K2 p1 p2 hw hm (by omega) (by omega)
  | 5, _ => exact r_tells_5 K0 K1 K2 p1 p2 hw hm (by omega) (by omega)
  | 6, _ => exact r_tells_6 K0 K1 K2 p1 p2 hw hm (by omega) (by omega)
def vVoice (a : Int32) (w : Nat) (c m x : Int32) : Int32 := if a.toInt = 0 then vRuns w c x else if a.toInt = 1 then vChills w w c m x else if a.toInt = 2 then vMoves w c m x else vTells w w c m x
def bVoice (a : Int32) (w : Nat) : List Int32 := if a.toInt = 0 then bRuns w else if a.toInt = 1 then bChills w w else if a.toInt = 2 then bMoves w else bTells w w
abbrev voiP (nc : Nat) (c a : Int32) : Prop := 0 ≤ c.toInt ∧ c.toInt ≤ ((nc : Nat) : Int) - 1 ∧ 0 ≤ a.toInt ∧ a.toInt ≤ 3
def opVoice (d : Nat → Int32) (kd : Nat → Nat) (nc : Nat) (c a x : Int32) : Nat × Int32 := if ¬ voiP nc c a then (1, 0) else (0, vVoice a (kd c.toNatClampNeg) c (d (20 + 2 * c.toNatClampNeg + 1)) x)
def tnVoice (kd : Nat → Nat) (nc tn : Nat) (c a : Int32) : Nat := if ¬ voiP nc c a then tn else (bVoice a (kd c.toNatClampNeg)).length
def trVoice (tr : Nat → Int32) (kd : Nat → Nat) (nc : Nat) (c a : Int32) : Nat → Int32 := if ¬ voiP nc c a then tr else wrs tr 0 (bVoice a (kd c.toNatClampNeg))
section VO
variable {d tr : Nat → Int32} {kd : Nat → Nat} {nc ck tn : Nat} {a x : Int32}
theorem opVoice_0 (h : voiP nc (nI ck) a) (hc : ck < 6) : opVoice d kd nc (nI ck) a x = (0, vVoice a (kd ck) (nI ck) (d (20 + 2 * ck + 1)) x) := by
  unfold opVoice
  rw [if_neg (fun q => q h), nI_clamp (by omega)]
theorem tnVoice_0 (h : voiP nc (nI ck) a) (hc : ck < 6) : tnVoice kd nc tn (nI ck) a = (bVoice a (kd ck)).length := by
  unfold tnVoice
  rw [if_neg (fun q => q h), nI_clamp (by omega)]
theorem trVoice_0 (h : voiP nc (nI ck) a) (hc : ck < 6) : trVoice tr kd nc (nI ck) a = wrs tr 0 (bVoice a (kd ck)) := by
  unfold trVoice
  rw [if_neg (fun q => q h), nI_clamp (by omega)]
end VO
def whoVoice (nc : Nat) (wh c a : Int32) : Int32 := if ¬ voiP nc c a then wh else c
set_option maxHeartbeats 4000000 in
set_option maxRecDepth 100000 in
theorem r_voice {κ : Wc} {l : Launch} {h : Mm} {n : Nat} {o : Nat} {fo : Nat → Int32} {d : Nat → Int32} {tr : Nat → Int32} {kd : Nat → Nat} {nc : Nat} {tn : Nat} {c : Int32} {a : Int32} {x : Int32} {im : Int32} {ba : Int32} {at_ : Int32} {sz : Int32} {fa : Int32} {op : Int32} {rm : Int32} {ti : Int32} {wh : Int32} (K0 : h o = some (.inr (12, [.ref (o + 1), .ref (o + 2), .ref (o + 3), .int im, .ref (o + 4), .int ba, .int at_, .int sz, .int fa, .int op, .ref (o + 5), .ref (o + 6), .int rm, .ref (o + 7), .ref (o + 8), .int ti, .ref (o + 9), .int (nI tn), .int wh, .ref (o + 10), .ref (o + 11), .ref (o + 12), .ref (o + 13)]))) (K1 : h (o + 4) = arI κ 6 fo) (K2 : h (o + 1) = arI κ 340 d) (K3 : h (o + 9) = arI κ 40 tr) (q4 : d 11 = nI nc) (q5 : nc ≤ 6) (hkd : ∀ c, c < nc → d (20 + 2 * c) = nI (kd c) ∧ kd c ≤ 6) : Con κ l yX12_voice cX12_voice 5 (some .int) 30 0 0 [.ref o, .int c, .int a, .int x] h n (fun q h' n' => ∃ wh' : Int32, q = some (.int (ansOf (opVoice d kd nc c a x))) ∧ h' = va_up (va_up (va_up h o (some (.inr (12, [.ref (o + 1), .ref (o + 2), .ref (o + 3), .int im, .ref (o + 4), .int ba, .int at_, .int sz, .int fa, .int op, .ref (o + 5), .ref (o + 6), .int rm, .ref (o + 7), .ref (o + 8), .int ti, .ref (o + 9), .int (nI (tnVoice kd nc tn c a)), .int wh', .ref (o + 10), .ref (o + 11), .ref (o + 12), .ref (o + 13)])))) (o + 9) (arI κ 40 (trVoice tr kd nc c a))) (o + 4) (arI κ 6 (bump (opVoice d kd nc c a x) fo)) ∧ n' = n) := by
  refine Con.of mk_X12_voice (Nat.le_of_ble_eq_true rfl) (fun G hG X E => ?_)
  subst hG
  refine z_ls (ls' := [(0, .ref o), (1, .int c), (2, .int a), (3, .int x)]) rfl ?_
  refine z_aload_n X 0 dX12_voice_0 rfl ?_
  refine z_iload_n X 1 dX12_voice_1 rfl ?_
  refine z_callV X (r_isCause (κ := κ) (n := n) (o := (o)) (v := (c)) (d := (d)) (im := (im)) (ba := (ba)) (at_ := (at_)) (sz := (sz)) (fa := (fa)) (op := (op)) (rm := (rm)) (ti := (ti)) (tm := (nI tn)) (wh := (wh)) K0 K2 (by first | assumption | omega) (by first | assumption | omega)) mk_X12_isCause dX12_voice_2 wd_1061 wd_1063 wd_25 rfl K0 rfl rfl rfl (Nat.le_of_ble_eq_true rfl) (Nat.le_of_ble_eq_true rfl) (Nat.le_of_ble_eq_true rfl) (by omega) (by omega) (fun q zh1 zm3 zp4 => ?_)
  obtain ⟨rfl, ze2, zn5⟩ := zp4
  subst zm3
  subst zh1
  refine z_st (st' := [.int (b2i (0 ≤ (c : Int32).toInt ∧ (c : Int32).toInt ≤ ((nc : Nat) : Int) - 1))]) rfl ?_
  refine z_if_eq X 20 dX12_voice_5 (by decide) (fun zc6 => ?_) (fun zc6 => ?_)
  · replace zc6 := b2i_f zc6
    refine z_aload_n X 0 dX12_voice_20 rfl ?_
    refine z_iconst (v := 1) X dX12_voice_21 (by decide) ?_
    refine z_callV X (r_finds (κ := κ) (n := n) (o := (o)) (k := (1)) (fo := (fo)) (im := (im)) (ba := (ba)) (at_ := (at_)) (sz := (sz)) (fa := (fa)) (op := (op)) (rm := (rm)) (ti := (ti)) (tm := (nI tn)) (wh := (wh)) K0 K1 (by first | assumption | omega) (by first | assumption | omega)) mk_X12_finds dX12_voice_22 wd_1018 wd_1020 wd_24 rfl K0 rfl rfl rfl (Nat.le_of_ble_eq_true rfl) (Nat.le_of_ble_eq_true rfl) (Nat.le_of_ble_eq_true rfl) (by omega) (by omega) (fun q zh7 zm9 zp10 => ?_)
    obtain ⟨rfl, ze8, zn11⟩ := zp10
    subst zm9
    refine z_st (st' := [.int (lowE 1)]) rfl ?_
    have zK12 : zh7 o = some (.inr (12, [.ref (o + 1), .ref (o + 2), .ref (o + 3), .int im, .ref (o + 4), .int ba, .int at_, .int sz, .int fa, .int op, .ref (o + 5), .ref (o + 6), .int rm, .ref (o + 7), .ref (o + 8), .int ti, .ref (o + 9), .int (nI tn), .int wh, .ref (o + 10), .ref (o + 11), .ref (o + 12), .ref (o + 13)])) := by rw [ze8]; rw [va_up_ne _ _ (show o ≠ o + 4 by omega)]; exact K0
    have zK13 : zh7 (o + 4) = arI κ 6 (bmp fo 1) := by rw [ze8]; exact va_up_self _ _ _
    have zK14 : zh7 (o + 1) = arI κ 340 d := by rw [ze8]; rw [va_up_ne _ _ (show o + 1 ≠ o + 4 by omega)]; exact K2
    have zK15 : zh7 (o + 9) = arI κ 40 tr := by rw [ze8]; rw [va_up_ne _ _ (show o + 9 ≠ o + 4 by omega)]; exact K3
    refine z_iret X E dX12_voice_25 (by omega) (by omega) ⟨wh, ?_, ?_, ?_⟩
    · unfold opVoice; rw [if_pos (by omega)]; rfl
    · unfold opVoice tnVoice trVoice; rw [if_pos (by omega), if_pos (by omega), if_pos (by omega)]; funext zz; by_cases zq2 : zz = o + 4; (rw [zq2, va_up_self]; exact zK13); by_cases zq1 : zz = o + 9; (rw [zq1, va_up_ne _ _ (show o + 9 ≠ o + 4 by omega), va_up_self]; exact zK15); by_cases zq0 : zz = o; (rw [zq0, va_up_ne _ _ (show o ≠ o + 4 by omega), va_up_ne _ _ (show o ≠ o + 9 by omega), va_up_self]; exact zK12); rw [va_up_ne _ _ zq2, va_up_ne _ _ zq1, va_up_ne _ _ zq0]; rw [ze8]; simp only [va_up, if_neg zq0, if_neg zq1, if_neg zq2]
    · rfl
  · replace zc6 := b2i_t zc6
    refine z_iload_n X 2 dX12_voice_8 rfl ?_
    refine z_i2l X dX12_voice_9 rfl ?_
    refine z_lconst (v := 0) X dX12_voice_10 (by decide) ?_
    refine z_ldc2 X dX12_voice_11 wd_1039 ?_
    refine z_callS X (r_in (κ := κ) (n := n) (v := (a.toInt64)) (lo := (0 : Int64)) (hi := (3 : Int64))  ) mk_X12_in dX12_voice_14 wd_1014 wd_1015 rfl rfl (Nat.le_of_ble_eq_true rfl) (Nat.le_of_ble_eq_true rfl) (Nat.le_of_ble_eq_true rfl) (by omega) (by omega) (fun q zh16 zm18 zp19 => ?_)
    obtain ⟨rfl, ze17, zn20⟩ := zp19
    subst zm18
    subst zh16
    refine z_st (st' := [.int (b2i ((0 : Int64).toInt ≤ (a.toInt64 : Int64).toInt ∧ (a.toInt64 : Int64).toInt ≤ (3 : Int64).toInt))]) rfl ?_
    refine z_toe (y := b2i (0 ≤ a.toInt ∧ a.toInt ≤ 3)) (by simp only [Int32.toInt_toInt64, show (0 : Int64).toInt = 0 by decide, show (3 : Int64).toInt = 3 by decide]) ?_
    refine z_if_ne X 26 dX12_voice_17 (by decide) (fun zc21 => ?_) (fun zc21 => ?_)
    · replace zc21 := b2i_t zc21
      have hvp : voiP nc c a := by (unfold voiP; omega)
      obtain ⟨ck, hck, rfl⟩ := ix_of (c := c) (len := nc) (by omega) (by omega)
      refine z_aload_n X 0 dX12_voice_26 rfl ?_
      refine z_iconst (v := 0) X dX12_voice_27 (by decide) ?_
      refine z_put X fp_X12_241_12 dX12_voice_28 K0 (by first | rfl | decide) (by first | rfl | decide) (Nat.le_of_ble_eq_true rfl) rfl ?_
      obtain ⟨zh22, ze23⟩ : ∃ z : Mm, z = va_up h o (some (.inr (12, [.ref (o + 1), .ref (o + 2), .ref (o + 3), .int im, .ref (o + 4), .int ba, .int at_, .int sz, .int fa, .int op, .ref (o + 5), .ref (o + 6), .int rm, .ref (o + 7), .ref (o + 8), .int ti, .ref (o + 9), .int 0, .int wh, .ref (o + 10), .ref (o + 11), .ref (o + 12), .ref (o + 13)]))) := ⟨_, rfl⟩
      refine z_heap (h' := zh22) ze23.symm ?_
      have zK24 := up_at ze23
      have zK25 := up_off ze23 (show o + 4 ≠ o by omega) K1
      have zK26 := up_off ze23 (show o + 1 ≠ o by omega) K2
      have zK27 := up_off ze23 (show o + 9 ≠ o by omega) K3
      refine z_aload_n X 0 dX12_voice_31 rfl ?_
      refine z_iload_n X 1 dX12_voice_32 rfl ?_
      refine z_put X fp_X12_244_12 dX12_voice_33 zK24 (by first | rfl | decide) (by first | rfl | decide) (Nat.le_of_ble_eq_true rfl) rfl ?_
      obtain ⟨zh28, ze29⟩ : ∃ z : Mm, z = va_up zh22 o (some (.inr (12, [.ref (o + 1), .ref (o + 2), .ref (o + 3), .int im, .ref (o + 4), .int ba, .int at_, .int sz, .int fa, .int op, .ref (o + 5), .ref (o + 6), .int rm, .ref (o + 7), .ref (o + 8), .int ti, .ref (o + 9), .int 0, .int (nI ck), .ref (o + 10), .ref (o + 11), .ref (o + 12), .ref (o + 13)]))) := ⟨_, rfl⟩
      refine z_heap (h' := zh28) ze29.symm ?_
      have zK30 := up_at ze29
      have zK31 := up_off ze29 (show o + 4 ≠ o by omega) zK25
      have zK32 := up_off ze29 (show o + 1 ≠ o by omega) zK26
      have zK33 := up_off ze29 (show o + 9 ≠ o by omega) zK27
      refine z_aload_n X 0 dX12_voice_36 rfl ?_
      refine z_callV X (r_own (κ := κ) (n := n) (o := (o)) (d := (d)) (who := (ck)) (im := (im)) (ba := (ba)) (at_ := (at_)) (sz := (sz)) (fa := (fa)) (op := (op)) (rm := (rm)) (ti := (ti)) (tm := (0)) zK30 zK32 (by first | assumption | omega)) mk_X12_own dX12_voice_37 wd_1295 wd_1297 wd_50 rfl zK30 rfl rfl rfl (Nat.le_of_ble_eq_true rfl) (Nat.le_of_ble_eq_true rfl) (Nat.le_of_ble_eq_true rfl) (by omega) (by omega) (fun q zh34 zm36 zp37 => ?_)
      obtain ⟨rfl, ze35, zn38⟩ := zp37
      subst zm36
      subst zh34
      refine z_st (st' := [.int (d (20 + 2 * ck))]) rfl ?_
      refine z_toe (y := nI (kd ck)) ((hkd ck hck).1) ?_
      refine z_istore (ls' := [(4, .int (nI (kd ck))), (0, .ref o), (1, .int (nI ck)), (2, .int a), (3, .int x)]) X dX12_voice_40 (by decide) rfl ?_
      refine z_iload_n X 3 dX12_voice_42 rfl ?_
      refine z_if_ne X 56 dX12_voice_43 (by decide) (fun zc39 => ?_) (fun zc39 => ?_)
      · refine z_iload_n X 3 dX12_voice_56 rfl ?_
        refine z_iconst (v := 1) X dX12_voice_57 (by decide) ?_
        refine z_icmp_ne X 71 dX12_voice_58 (by decide) (fun zc40 => ?_) (fun zc40 => ?_)
        · refine z_iload_n X 3 dX12_voice_71 rfl ?_
          refine z_iconst (v := 2) X dX12_voice_72 (by decide) ?_
          refine z_icmp_ne X 86 dX12_voice_73 (by decide) (fun zc41 => ?_) (fun zc41 => ?_)
          · refine z_aload_n X 1 dX12_voice_86 rfl ?_
            refine z_iload X 0 dX12_voice_87 rfl ?_
            refine z_iload_n X 4 dX12_voice_89 rfl ?_
            refine z_callV X (r_tells (κ := κ) (n := n) (k := (kd ck)) (o := (o)) (x := (x)) (tn := (0)) (dd := (28)) (w := (kd ck)) (m := (d (20 + 2 * ck + 1))) (d := (d)) (tr := (tr)) (who := (ck)) (im := (im)) (ba := (ba)) (at_ := (at_)) (sz := (sz)) (fa := (fa)) (op := (op)) (rm := (rm)) (ti := (ti)) zK30 zK33 zK32 (by omega) ((hkd ck hck).2) ((hkd ck hck).1) (rfl) (by omega) (by omega) ((hkd ck hck).2)) mk_X12_tells dX12_voice_90 wd_1322 wd_1324 wd_56 rfl zK30 rfl rfl rfl (Nat.le_of_ble_eq_true rfl) (by omega) (Nat.le_of_ble_eq_true rfl) (by omega) (by omega) (fun q zh42 zm44 zp45 => ?_)
            obtain ⟨rfl, ze43, zn46⟩ := zp45
            subst zm44
            refine z_st (st' := [.int (vTells (kd ck) (kd ck) (nI ck) (d (20 + 2 * ck + 1)) x)]) rfl ?_
            have zK47 : zh42 o = some (.inr (12, [.ref (o + 1), .ref (o + 2), .ref (o + 3), .int im, .ref (o + 4), .int ba, .int at_, .int sz, .int fa, .int op, .ref (o + 5), .ref (o + 6), .int rm, .ref (o + 7), .ref (o + 8), .int ti, .ref (o + 9), .int (nI (0 + (bTells (kd ck) (kd ck)).length)), .int (nI ck), .ref (o + 10), .ref (o + 11), .ref (o + 12), .ref (o + 13)])) := by rw [ze43]; rw [va_up_ne _ _ (show o ≠ o + 9 by omega)]; exact va_up_self _ _ _
            have zK48 : zh42 (o + 4) = arI κ 6 fo := by rw [ze43]; rw [va_up_ne _ _ (show o + 4 ≠ o + 9 by omega)]; rw [va_up_ne _ _ (show o + 4 ≠ o by omega)]; exact zK31
            have zK49 : zh42 (o + 1) = arI κ 340 d := by rw [ze43]; rw [va_up_ne _ _ (show o + 1 ≠ o + 9 by omega)]; rw [va_up_ne _ _ (show o + 1 ≠ o by omega)]; exact zK32
            have zK50 : zh42 (o + 9) = arI κ 40 (wrs tr 0 (bTells (kd ck) (kd ck))) := by rw [ze43]; exact va_up_self _ _ _
            refine z_iret X E dX12_voice_93 (by omega) (by omega) ⟨nI ck, ?_, ?_, ?_⟩
            · (have hvv : vVoice a (kd ck) (nI ck) (d (20 + 2 * ck + 1)) x = vTells (kd ck) (kd ck) (nI ck) (d (20 + 2 * ck + 1)) x := by (unfold vVoice; simp only [i_eq, show (-1 : Int32).toInt = -1 by decide, show (0 : Int32).toInt = 0 by decide, show (1 : Int32).toInt = 1 by decide, show (2 : Int32).toInt = 2 by decide, show (3 : Int32).toInt = 3 by decide, show (4 : Int32).toInt = 4 by decide, show (5 : Int32).toInt = 5 by decide, show (6 : Int32).toInt = 6 by decide, show (7 : Int32).toInt = 7 by decide, show (8 : Int32).toInt = 8 by decide, show (9 : Int32).toInt = 9 by decide, show (10 : Int32).toInt = 10 by decide, show (11 : Int32).toInt = 11 by decide, show (12 : Int32).toInt = 12 by decide, show (13 : Int32).toInt = 13 by decide, show (14 : Int32).toInt = 14 by decide, show (15 : Int32).toInt = 15 by decide, show (16 : Int32).toInt = 16 by decide, show (20 : Int32).toInt = 20 by decide, show (39 : Int32).toInt = 39 by decide, show (40 : Int32).toInt = 40 by decide, show (50 : Int32).toInt = 50 by decide, show (60 : Int32).toInt = 60 by decide, show (99 : Int32).toInt = 99 by decide, show (100 : Int32).toInt = 100 by decide, show (999 : Int32).toInt = 999 by decide, show (9999 : Int32).toInt = 9999 by decide, show (99999 : Int32).toInt = 99999 by decide, show (999999 : Int32).toInt = 999999 by decide, show (9999999 : Int32).toInt = 9999999 by decide, show (-50 : Int32).toInt = -50 by decide, show (32 : Int32).toInt = 32 by decide] at *; (repeat first | rw [if_pos (by omega)] | rw [if_neg (by omega)]))); rw [opVoice_0 hvp (by omega), hvv]; first | done | rfl
            · (have hbb : bVoice a (kd ck) = bTells (kd ck) (kd ck) := by (unfold bVoice; simp only [i_eq, show (-1 : Int32).toInt = -1 by decide, show (0 : Int32).toInt = 0 by decide, show (1 : Int32).toInt = 1 by decide, show (2 : Int32).toInt = 2 by decide, show (3 : Int32).toInt = 3 by decide, show (4 : Int32).toInt = 4 by decide, show (5 : Int32).toInt = 5 by decide, show (6 : Int32).toInt = 6 by decide, show (7 : Int32).toInt = 7 by decide, show (8 : Int32).toInt = 8 by decide, show (9 : Int32).toInt = 9 by decide, show (10 : Int32).toInt = 10 by decide, show (11 : Int32).toInt = 11 by decide, show (12 : Int32).toInt = 12 by decide, show (13 : Int32).toInt = 13 by decide, show (14 : Int32).toInt = 14 by decide, show (15 : Int32).toInt = 15 by decide, show (16 : Int32).toInt = 16 by decide, show (20 : Int32).toInt = 20 by decide, show (39 : Int32).toInt = 39 by decide, show (40 : Int32).toInt = 40 by decide, show (50 : Int32).toInt = 50 by decide, show (60 : Int32).toInt = 60 by decide, show (99 : Int32).toInt = 99 by decide, show (100 : Int32).toInt = 100 by decide, show (999 : Int32).toInt = 999 by decide, show (9999 : Int32).toInt = 9999 by decide, show (99999 : Int32).toInt = 99999 by decide, show (999999 : Int32).toInt = 999999 by decide, show (9999999 : Int32).toInt = 9999999 by decide, show (-50 : Int32).toInt = -50 by decide, show (32 : Int32).toInt = 32 by decide] at *; (repeat first | rw [if_pos (by omega)] | rw [if_neg (by omega)]))); rw [opVoice_0 hvp (by omega), tnVoice_0 hvp (by omega), trVoice_0 hvp (by omega), hbb, bump_0]; clear hbb; rw [← Nat.zero_add (bTells (kd ck) (kd ck)).length]; funext zz; by_cases zq2 : zz = o + 4; (rw [zq2, va_up_self]; exact zK48); by_cases zq1 : zz = o + 9; (rw [zq1, va_up_ne _ _ (show o + 9 ≠ o + 4 by omega), va_up_self]; exact zK50); by_cases zq0 : zz = o; (rw [zq0, va_up_ne _ _ (show o ≠ o + 4 by omega), va_up_ne _ _ (show o ≠ o + 9 by omega), va_up_self]; exact zK47); rw [va_up_ne _ _ zq2, va_up_ne _ _ zq1, va_up_ne _ _ zq0]; rw [ze43, ze29, ze23]; simp only [va_up, if_neg zq0, if_neg zq1, if_neg zq2]
            · rfl
          · refine z_aload_n X 1 dX12_voice_76 rfl ?_
            refine z_iload X 0 dX12_voice_77 rfl ?_
            refine z_iload_n X 4 dX12_voice_79 rfl ?_
            refine z_callV X (r_moves (κ := κ) (n := n) (k := (kd ck)) (o := (o)) (x := (x)) (tn := (0)) (dd := (28)) (w := (kd ck)) (m := (d (20 + 2 * ck + 1))) (d := (d)) (tr := (tr)) (who := (ck)) (im := (im)) (ba := (ba)) (at_ := (at_)) (sz := (sz)) (fa := (fa)) (op := (op)) (rm := (rm)) (ti := (ti)) zK30 zK33 zK32 (by omega) ((hkd ck hck).2) ((hkd ck hck).1) (rfl) (by omega) (by omega) ((hkd ck hck).2)) mk_X12_moves dX12_voice_80 wd_1314 wd_1316 wd_54 rfl zK30 rfl rfl rfl (Nat.le_of_ble_eq_true rfl) (by omega) (Nat.le_of_ble_eq_true rfl) (by omega) (by omega) (fun q zh51 zm53 zp54 => ?_)
            obtain ⟨rfl, ze52, zn55⟩ := zp54
            subst zm53
            refine z_st (st' := [.int (vMoves (kd ck) (nI ck) (d (20 + 2 * ck + 1)) x)]) rfl ?_
            have zK56 : zh51 o = some (.inr (12, [.ref (o + 1), .ref (o + 2), .ref (o + 3), .int im, .ref (o + 4), .int ba, .int at_, .int sz, .int fa, .int op, .ref (o + 5), .ref (o + 6), .int rm, .ref (o + 7), .ref (o + 8), .int ti, .ref (o + 9), .int (nI (0 + (bMoves (kd ck)).length)), .int (nI ck), .ref (o + 10), .ref (o + 11), .ref (o + 12), .ref (o + 13)])) := by rw [ze52]; rw [va_up_ne _ _ (show o ≠ o + 9 by omega)]; exact va_up_self _ _ _
            have zK57 : zh51 (o + 4) = arI κ 6 fo := by rw [ze52]; rw [va_up_ne _ _ (show o + 4 ≠ o + 9 by omega)]; rw [va_up_ne _ _ (show o + 4 ≠ o by omega)]; exact zK31
            have zK58 : zh51 (o + 1) = arI κ 340 d := by rw [ze52]; rw [va_up_ne _ _ (show o + 1 ≠ o + 9 by omega)]; rw [va_up_ne _ _ (show o + 1 ≠ o by omega)]; exact zK32
            have zK59 : zh51 (o + 9) = arI κ 40 (wrs tr 0 (bMoves (kd ck))) := by rw [ze52]; exact va_up_self _ _ _
            refine z_goto X 93 dX12_voice_83 (by decide) ?_
            refine z_iret X E dX12_voice_93 (by omega) (by omega) ⟨nI ck, ?_, ?_, ?_⟩
            · (have hvv : vVoice a (kd ck) (nI ck) (d (20 + 2 * ck + 1)) x = vMoves (kd ck) (nI ck) (d (20 + 2 * ck + 1)) x := by (unfold vVoice; simp only [i_eq, show (-1 : Int32).toInt = -1 by decide, show (0 : Int32).toInt = 0 by decide, show (1 : Int32).toInt = 1 by decide, show (2 : Int32).toInt = 2 by decide, show (3 : Int32).toInt = 3 by decide, show (4 : Int32).toInt = 4 by decide, show (5 : Int32).toInt = 5 by decide, show (6 : Int32).toInt = 6 by decide, show (7 : Int32).toInt = 7 by decide, show (8 : Int32).toInt = 8 by decide, show (9 : Int32).toInt = 9 by decide, show (10 : Int32).toInt = 10 by decide, show (11 : Int32).toInt = 11 by decide, show (12 : Int32).toInt = 12 by decide, show (13 : Int32).toInt = 13 by decide, show (14 : Int32).toInt = 14 by decide, show (15 : Int32).toInt = 15 by decide, show (16 : Int32).toInt = 16 by decide, show (20 : Int32).toInt = 20 by decide, show (39 : Int32).toInt = 39 by decide, show (40 : Int32).toInt = 40 by decide, show (50 : Int32).toInt = 50 by decide, show (60 : Int32).toInt = 60 by decide, show (99 : Int32).toInt = 99 by decide, show (100 : Int32).toInt = 100 by decide, show (999 : Int32).toInt = 999 by decide, show (9999 : Int32).toInt = 9999 by decide, show (99999 : Int32).toInt = 99999 by decide, show (999999 : Int32).toInt = 999999 by decide, show (9999999 : Int32).toInt = 9999999 by decide, show (-50 : Int32).toInt = -50 by decide, show (32 : Int32).toInt = 32 by decide] at *; (repeat first | rw [if_pos (by omega)] | rw [if_neg (by omega)]))); rw [opVoice_0 hvp (by omega), hvv]; first | done | rfl
            · (have hbb : bVoice a (kd ck) = bMoves (kd ck) := by (unfold bVoice; simp only [i_eq, show (-1 : Int32).toInt = -1 by decide, show (0 : Int32).toInt = 0 by decide, show (1 : Int32).toInt = 1 by decide, show (2 : Int32).toInt = 2 by decide, show (3 : Int32).toInt = 3 by decide, show (4 : Int32).toInt = 4 by decide, show (5 : Int32).toInt = 5 by decide, show (6 : Int32).toInt = 6 by decide, show (7 : Int32).toInt = 7 by decide, show (8 : Int32).toInt = 8 by decide, show (9 : Int32).toInt = 9 by decide, show (10 : Int32).toInt = 10 by decide, show (11 : Int32).toInt = 11 by decide, show (12 : Int32).toInt = 12 by decide, show (13 : Int32).toInt = 13 by decide, show (14 : Int32).toInt = 14 by decide, show (15 : Int32).toInt = 15 by decide, show (16 : Int32).toInt = 16 by decide, show (20 : Int32).toInt = 20 by decide, show (39 : Int32).toInt = 39 by decide, show (40 : Int32).toInt = 40 by decide, show (50 : Int32).toInt = 50 by decide, show (60 : Int32).toInt = 60 by decide, show (99 : Int32).toInt = 99 by decide, show (100 : Int32).toInt = 100 by decide, show (999 : Int32).toInt = 999 by decide, show (9999 : Int32).toInt = 9999 by decide, show (99999 : Int32).toInt = 99999 by decide, show (999999 : Int32).toInt = 999999 by decide, show (9999999 : Int32).toInt = 9999999 by decide, show (-50 : Int32).toInt = -50 by decide, show (32 : Int32).toInt = 32 by decide] at *; (repeat first | rw [if_pos (by omega)] | rw [if_neg (by omega)]))); rw [opVoice_0 hvp (by omega), tnVoice_0 hvp (by omega), trVoice_0 hvp (by omega), hbb, bump_0]; clear hbb; rw [← Nat.zero_add (bMoves (kd ck)).length]; funext zz; by_cases zq2 : zz = o + 4; (rw [zq2, va_up_self]; exact zK57); by_cases zq1 : zz = o + 9; (rw [zq1, va_up_ne _ _ (show o + 9 ≠ o + 4 by omega), va_up_self]; exact zK59); by_cases zq0 : zz = o; (rw [zq0, va_up_ne _ _ (show o ≠ o + 4 by omega), va_up_ne _ _ (show o ≠ o + 9 by omega), va_up_self]; exact zK56); rw [va_up_ne _ _ zq2, va_up_ne _ _ zq1, va_up_ne _ _ zq0]; rw [ze52, ze29, ze23]; simp only [va_up, if_neg zq0, if_neg zq1, if_neg zq2]
            · rfl
        · refine z_aload_n X 1 dX12_voice_61 rfl ?_
          refine z_iload X 0 dX12_voice_62 rfl ?_
          refine z_iload_n X 4 dX12_voice_64 rfl ?_
          refine z_callV X (r_chills (κ := κ) (n := n) (k := (kd ck)) (o := (o)) (x := (x)) (tn := (0)) (dd := (28)) (w := (kd ck)) (m := (d (20 + 2 * ck + 1))) (d := (d)) (tr := (tr)) (who := (ck)) (im := (im)) (ba := (ba)) (at_ := (at_)) (sz := (sz)) (fa := (fa)) (op := (op)) (rm := (rm)) (ti := (ti)) zK30 zK33 zK32 (by omega) ((hkd ck hck).2) ((hkd ck hck).1) (rfl) (by omega) (by omega) ((hkd ck hck).2)) mk_X12_chills dX12_voice_65 wd_1310 wd_1312 wd_53 rfl zK30 rfl rfl rfl (Nat.le_of_ble_eq_true rfl) (by omega) (Nat.le_of_ble_eq_true rfl) (by omega) (by omega) (fun q zh60 zm62 zp63 => ?_)
          obtain ⟨rfl, ze61, zn64⟩ := zp63
          subst zm62
          refine z_st (st' := [.int (vChills (kd ck) (kd ck) (nI ck) (d (20 + 2 * ck + 1)) x)]) rfl ?_
          have zK65 : zh60 o = some (.inr (12, [.ref (o + 1), .ref (o + 2), .ref (o + 3), .int im, .ref (o + 4), .int ba, .int at_, .int sz, .int fa, .int op, .ref (o + 5), .ref (o + 6), .int rm, .ref (o + 7), .ref (o + 8), .int ti, .ref (o + 9), .int (nI (0 + (bChills (kd ck) (kd ck)).length)), .int (nI ck), .ref (o + 10), .ref (o + 11), .ref (o + 12), .ref (o + 13)])) := by rw [ze61]; rw [va_up_ne _ _ (show o ≠ o + 9 by omega)]; exact va_up_self _ _ _
          have zK66 : zh60 (o + 4) = arI κ 6 fo := by rw [ze61]; rw [va_up_ne _ _ (show o + 4 ≠ o + 9 by omega)]; rw [va_up_ne _ _ (show o + 4 ≠ o by omega)]; exact zK31
          have zK67 : zh60 (o + 1) = arI κ 340 d := by rw [ze61]; rw [va_up_ne _ _ (show o + 1 ≠ o + 9 by omega)]; rw [va_up_ne _ _ (show o + 1 ≠ o by omega)]; exact zK32
          have zK68 : zh60 (o + 9) = arI κ 40 (wrs tr 0 (bChills (kd ck) (kd ck))) := by rw [ze61]; exact va_up_self _ _ _
          refine z_goto X 93 dX12_voice_68 (by decide) ?_
          refine z_iret X E dX12_voice_93 (by omega) (by omega) ⟨nI ck, ?_, ?_, ?_⟩
          · (have hvv : vVoice a (kd ck) (nI ck) (d (20 + 2 * ck + 1)) x = vChills (kd ck) (kd ck) (nI ck) (d (20 + 2 * ck + 1)) x := by (unfold vVoice; simp only [i_eq, show (-1 : Int32).toInt = -1 by decide, show (0 : Int32).toInt = 0 by decide, show (1 : Int32).toInt = 1 by decide, show (2 : Int32).toInt = 2 by decide, show (3 : Int32).toInt = 3 by decide, show (4 : Int32).toInt = 4 by decide, show (5 : Int32).toInt = 5 by decide, show (6 : Int32).toInt = 6 by decide, show (7 : Int32).toInt = 7 by decide, show (8 : Int32).toInt = 8 by decide, show (9 : Int32).toInt = 9 by decide, show (10 : Int32).toInt = 10 by decide, show (11 : Int32).toInt = 11 by decide, show (12 : Int32).toInt = 12 by decide, show (13 : Int32).toInt = 13 by decide, show (14 : Int32).toInt = 14 by decide, show (15 : Int32).toInt = 15 by decide, show (16 : Int32).toInt = 16 by decide, show (20 : Int32).toInt = 20 by decide, show (39 : Int32).toInt = 39 by decide, show (40 : Int32).toInt = 40 by decide, show (50 : Int32).toInt = 50 by decide, show (60 : Int32).toInt = 60 by decide, show (99 : Int32).toInt = 99 by decide, show (100 : Int32).toInt = 100 by decide, show (999 : Int32).toInt = 999 by decide, show (9999 : Int32).toInt = 9999 by decide, show (99999 : Int32).toInt = 99999 by decide, show (999999 : Int32).toInt = 999999 by decide, show (9999999 : Int32).toInt = 9999999 by decide, show (-50 : Int32).toInt = -50 by decide, show (32 : Int32).toInt = 32 by decide] at *; (repeat first | rw [if_pos (by omega)] | rw [if_neg (by omega)]))); rw [opVoice_0 hvp (by omega), hvv]; first | done | rfl
          · (have hbb : bVoice a (kd ck) = bChills (kd ck) (kd ck) := by (unfold bVoice; simp only [i_eq, show (-1 : Int32).toInt = -1 by decide, show (0 : Int32).toInt = 0 by decide, show (1 : Int32).toInt = 1 by decide, show (2 : Int32).toInt = 2 by decide, show (3 : Int32).toInt = 3 by decide, show (4 : Int32).toInt = 4 by decide, show (5 : Int32).toInt = 5 by decide, show (6 : Int32).toInt = 6 by decide, show (7 : Int32).toInt = 7 by decide, show (8 : Int32).toInt = 8 by decide, show (9 : Int32).toInt = 9 by decide, show (10 : Int32).toInt = 10 by decide, show (11 : Int32).toInt = 11 by decide, show (12 : Int32).toInt = 12 by decide, show (13 : Int32).toInt = 13 by decide, show (14 : Int32).toInt = 14 by decide, show (15 : Int32).toInt = 15 by decide, show (16 : Int32).toInt = 16 by decide, show (20 : Int32).toInt = 20 by decide, show (39 : Int32).toInt = 39 by decide, show (40 : Int32).toInt = 40 by decide, show (50 : Int32).toInt = 50 by decide, show (60 : Int32).toInt = 60 by decide, show (99 : Int32).toInt = 99 by decide, show (100 : Int32).toInt = 100 by decide, show (999 : Int32).toInt = 999 by decide, show (9999 : Int32).toInt = 9999 by decide, show (99999 : Int32).toInt = 99999 by decide, show (999999 : Int32).toInt = 999999 by decide, show (9999999 : Int32).toInt = 9999999 by decide, show (-50 : Int32).toInt = -50 by decide, show (32 : Int32).toInt = 32 by decide] at *; (repeat first | rw [if_pos (by omega)] | rw [if_neg (by omega)]))); rw [opVoice_0 hvp (by omega), tnVoice_0 hvp (by omega), trVoice_0 hvp (by omega), hbb, bump_0]; clear hbb; rw [← Nat.zero_add (bChills (kd ck) (kd ck)).length]; funext zz; by_cases zq2 : zz = o + 4; (rw [zq2, va_up_self]; exact zK66); by_cases zq1 : zz = o + 9; (rw [zq1, va_up_ne _ _ (show o + 9 ≠ o + 4 by omega), va_up_self]; exact zK68); by_cases zq0 : zz = o; (rw [zq0, va_up_ne _ _ (show o ≠ o + 4 by omega), va_up_ne _ _ (show o ≠ o + 9 by omega), va_up_self]; exact zK65); rw [va_up_ne _ _ zq2, va_up_ne _ _ zq1, va_up_ne _ _ zq0]; rw [ze61, ze29, ze23]; simp only [va_up, if_neg zq0, if_neg zq1, if_neg zq2]
          · rfl
      · refine z_aload_n X 1 dX12_voice_46 rfl ?_
        refine z_iload X 0 dX12_voice_47 rfl ?_
        refine z_iload_n X 4 dX12_voice_49 rfl ?_
        refine z_callV X (r_runs (κ := κ) (n := n) (k := (kd ck)) (o := (o)) (x := (x)) (tn := (0)) (dd := (28)) (w := (kd ck)) (m := (d (20 + 2 * ck + 1))) (d := (d)) (tr := (tr)) (who := (ck)) (im := (im)) (ba := (ba)) (at_ := (at_)) (sz := (sz)) (fa := (fa)) (op := (op)) (rm := (rm)) (ti := (ti)) zK30 zK33 zK32 (by omega) ((hkd ck hck).2) ((hkd ck hck).1) (rfl) (by omega) (by omega) ((hkd ck hck).2)) mk_X12_runs dX12_voice_50 wd_1299 wd_1301 wd_51 rfl zK30 rfl rfl rfl (Nat.le_of_ble_eq_true rfl) (by omega) (Nat.le_of_ble_eq_true rfl) (by omega) (by omega) (fun q zh69 zm71 zp72 => ?_)
        obtain ⟨rfl, ze70, zn73⟩ := zp72
        subst zm71
        refine z_st (st' := [.int (vRuns (kd ck) (nI ck) x)]) rfl ?_
        have zK74 : zh69 o = some (.inr (12, [.ref (o + 1), .ref (o + 2), .ref (o + 3), .int im, .ref (o + 4), .int ba, .int at_, .int sz, .int fa, .int op, .ref (o + 5), .ref (o + 6), .int rm, .ref (o + 7), .ref (o + 8), .int ti, .ref (o + 9), .int (nI (0 + (bRuns (kd ck)).length)), .int (nI ck), .ref (o + 10), .ref (o + 11), .ref (o + 12), .ref (o + 13)])) := by rw [ze70]; rw [va_up_ne _ _ (show o ≠ o + 9 by omega)]; exact va_up_self _ _ _
        have zK75 : zh69 (o + 4) = arI κ 6 fo := by rw [ze70]; rw [va_up_ne _ _ (show o + 4 ≠ o + 9 by omega)]; rw [va_up_ne _ _ (show o + 4 ≠ o by omega)]; exact zK31
        have zK76 : zh69 (o + 1) = arI κ 340 d := by rw [ze70]; rw [va_up_ne _ _ (show o + 1 ≠ o + 9 by omega)]; rw [va_up_ne _ _ (show o + 1 ≠ o by omega)]; exact zK32
        have zK77 : zh69 (o + 9) = arI κ 40 (wrs tr 0 (bRuns (kd ck))) := by rw [ze70]; exact va_up_self _ _ _
        refine z_goto X 93 dX12_voice_53 (by decide) ?_
        refine z_iret X E dX12_voice_93 (by omega) (by omega) ⟨nI ck, ?_, ?_, ?_⟩
        · (have hvv : vVoice a (kd ck) (nI ck) (d (20 + 2 * ck + 1)) x = vRuns (kd ck) (nI ck) x := by (unfold vVoice; simp only [i_eq, show (-1 : Int32).toInt = -1 by decide, show (0 : Int32).toInt = 0 by decide, show (1 : Int32).toInt = 1 by decide, show (2 : Int32).toInt = 2 by decide, show (3 : Int32).toInt = 3 by decide, show (4 : Int32).toInt = 4 by decide, show (5 : Int32).toInt = 5 by decide, show (6 : Int32).toInt = 6 by decide, show (7 : Int32).toInt = 7 by decide, show (8 : Int32).toInt = 8 by decide, show (9 : Int32).toInt = 9 by decide, show (10 : Int32).toInt = 10 by decide, show (11 : Int32).toInt = 11 by decide, show (12 : Int32).toInt = 12 by decide, show (13 : Int32).toInt = 13 by decide, show (14 : Int32).toInt = 14 by decide, show (15 : Int32).toInt = 15 by decide, show (16 : Int32).toInt = 16 by decide, show (20 : Int32).toInt = 20 by decide, show (39 : Int32).toInt = 39 by decide, show (40 : Int32).toInt = 40 by decide, show (50 : Int32).toInt = 50 by decide, show (60 : Int32).toInt = 60 by decide, show (99 : Int32).toInt = 99 by decide, show (100 : Int32).toInt = 100 by decide, show (999 : Int32).toInt = 999 by decide, show (9999 : Int32).toInt = 9999 by decide, show (99999 : Int32).toInt = 99999 by decide, show (999999 : Int32).toInt = 999999 by decide, show (9999999 : Int32).toInt = 9999999 by decide, show (-50 : Int32).toInt = -50 by decide, show (32 : Int32).toInt = 32 by decide] at *; (repeat first | rw [if_pos (by omega)] | rw [if_neg (by omega)]))); rw [opVoice_0 hvp (by omega), hvv]; first | done | rfl
        · (have hbb : bVoice a (kd ck) = bRuns (kd ck) := by (unfold bVoice; simp only [i_eq, show (-1 : Int32).toInt = -1 by decide, show (0 : Int32).toInt = 0 by decide, show (1 : Int32).toInt = 1 by decide, show (2 : Int32).toInt = 2 by decide, show (3 : Int32).toInt = 3 by decide, show (4 : Int32).toInt = 4 by decide, show (5 : Int32).toInt = 5 by decide, show (6 : Int32).toInt = 6 by decide, show (7 : Int32).toInt = 7 by decide, show (8 : Int32).toInt = 8 by decide, show (9 : Int32).toInt = 9 by decide, show (10 : Int32).toInt = 10 by decide, show (11 : Int32).toInt = 11 by decide, show (12 : Int32).toInt = 12 by decide, show (13 : Int32).toInt = 13 by decide, show (14 : Int32).toInt = 14 by decide, show (15 : Int32).toInt = 15 by decide, show (16 : Int32).toInt = 16 by decide, show (20 : Int32).toInt = 20 by decide, show (39 : Int32).toInt = 39 by decide, show (40 : Int32).toInt = 40 by decide, show (50 : Int32).toInt = 50 by decide, show (60 : Int32).toInt = 60 by decide, show (99 : Int32).toInt = 99 by decide, show (100 : Int32).toInt = 100 by decide, show (999 : Int32).toInt = 999 by decide, show (9999 : Int32).toInt = 9999 by decide, show (99999 : Int32).toInt = 99999 by decide, show (999999 : Int32).toInt = 999999 by decide, show (9999999 : Int32).toInt = 9999999 by decide, show (-50 : Int32).toInt = -50 by decide, show (32 : Int32).toInt = 32 by decide] at *; (repeat first | rw [if_pos (by omega)] | rw [if_neg (by omega)]))); rw [opVoice_0 hvp (by omega), tnVoice_0 hvp (by omega), trVoice_0 hvp (by omega), hbb, bump_0]; clear hbb; rw [← Nat.zero_add (bRuns (kd ck)).length]; funext zz; by_cases zq2 : zz = o + 4; (rw [zq2, va_up_self]; exact zK75); by_cases zq1 : zz = o + 9; (rw [zq1, va_up_ne _ _ (show o + 9 ≠ o + 4 by omega), va_up_self]; exact zK77); by_cases zq0 : zz = o; (rw [zq0, va_up_ne _ _ (show o ≠ o + 4 by omega), va_up_ne _ _ (show o ≠ o + 9 by omega), va_up_self]; exact zK74); rw [va_up_ne _ _ zq2, va_up_ne _ _ zq1, va_up_ne _ _ zq0]; rw [ze70, ze29, ze23]; simp only [va_up, if_neg zq0, if_neg zq1, if_neg zq2]
        · rfl
    · replace zc21 := b2i_f zc21
      refine z_aload_n X 0 dX12_voice_20 rfl ?_
      refine z_iconst (v := 1) X dX12_voice_21 (by decide) ?_
      refine z_callV X (r_finds (κ := κ) (n := n) (o := (o)) (k := (1)) (fo := (fo)) (im := (im)) (ba := (ba)) (at_ := (at_)) (sz := (sz)) (fa := (fa)) (op := (op)) (rm := (rm)) (ti := (ti)) (tm := (nI tn)) (wh := (wh)) K0 K1 (by first | assumption | omega) (by first | assumption | omega)) mk_X12_finds dX12_voice_22 wd_1018 wd_1020 wd_24 rfl K0 rfl rfl rfl (Nat.le_of_ble_eq_true rfl) (Nat.le_of_ble_eq_true rfl) (Nat.le_of_ble_eq_true rfl) (by omega) (by omega) (fun q zh78 zm80 zp81 => ?_)
      obtain ⟨rfl, ze79, zn82⟩ := zp81
      subst zm80
      refine z_st (st' := [.int (lowE 1)]) rfl ?_
      have zK83 : zh78 o = some (.inr (12, [.ref (o + 1), .ref (o + 2), .ref (o + 3), .int im, .ref (o + 4), .int ba, .int at_, .int sz, .int fa, .int op, .ref (o + 5), .ref (o + 6), .int rm, .ref (o + 7), .ref (o + 8), .int ti, .ref (o + 9), .int (nI tn), .int wh, .ref (o + 10), .ref (o + 11), .ref (o + 12), .ref (o + 13)])) := by rw [ze79]; rw [va_up_ne _ _ (show o ≠ o + 4 by omega)]; exact K0
      have zK84 : zh78 (o + 4) = arI κ 6 (bmp fo 1) := by rw [ze79]; exact va_up_self _ _ _
      have zK85 : zh78 (o + 1) = arI κ 340 d := by rw [ze79]; rw [va_up_ne _ _ (show o + 1 ≠ o + 4 by omega)]; exact K2
      have zK86 : zh78 (o + 9) = arI κ 40 tr := by rw [ze79]; rw [va_up_ne _ _ (show o + 9 ≠ o + 4 by omega)]; exact K3
      refine z_iret X E dX12_voice_25 (by omega) (by omega) ⟨wh, ?_, ?_, ?_⟩
      · unfold opVoice; rw [if_pos (by omega)]; rfl
      · unfold opVoice tnVoice trVoice; rw [if_pos (by omega), if_pos (by omega), if_pos (by omega)]; funext zz; by_cases zq2 : zz = o + 4; (rw [zq2, va_up_self]; exact zK84); by_cases zq1 : zz = o + 9; (rw [zq1, va_up_ne _ _ (show o + 9 ≠ o + 4 by omega), va_up_self]; exact zK86); by_cases zq0 : zz = o; (rw [zq0, va_up_ne _ _ (show o ≠ o + 4 by omega), va_up_ne _ _ (show o ≠ o + 9 by omega), va_up_self]; exact zK83); rw [va_up_ne _ _ zq2, va_up_ne _ _ zq1, va_up_ne _ _ zq0]; rw [ze79]; simp only [va_up, if_neg zq0, if_neg zq1, if_neg zq2]
      · rfl
