abbrev unlP (lo wd : Nat → Int32) (a b la : Nat) : Prop := lo a = lo b ∧ ∀ c, c < la → wd (40 * a + c) = wd (40 * b + c)
def UL (lo wd : Nat → Int32) (a b la i : Nat) (u : Int32) : Prop := (u = 0 ∧ lo a = lo b ∧ ∀ c, c < i → wd (40 * a + c) = wd (40 * b + c)) ∨ (u = 1 ∧ ¬ unlP lo wd a b la)
theorem UL_a {lo wd : Nat → Int32} {a b la i : Nat} {u : Int32} (h : UL lo wd a b la i u) (hi : la ≤ i) : u = b2i (¬ unlP lo wd a b la) := by
  rcases h with ⟨rfl, h1, h2⟩ | ⟨rfl, h1⟩
  · exact (b2i_0 (fun q => q ⟨h1, fun c hc => h2 c (by omega)⟩)).symm
  · exact (b2i_1 h1).symm
theorem UL_b {lo wd : Nat → Int32} {a b la i : Nat} {u : Int32} (h : UL lo wd a b la i u) (hu : ¬ u = 0) : u = b2i (¬ unlP lo wd a b la) := by
  rcases h with ⟨rfl, h1, h2⟩ | ⟨rfl, h1⟩
  · exact absurd rfl hu
  · exact (b2i_1 h1).symm
theorem UL_s {lo wd : Nat → Int32} {a b la i : Nat} {u : Int32} (h : UL lo wd a b la i u) (hu : u = 0) (hi : i < la) (he : wd (40 * a + i) = wd (40 * b + i)) : UL lo wd a b la (i + 1) 0 := by
  rcases h with ⟨-, h1, h2⟩ | ⟨rfl, h1⟩
  · refine Or.inl ⟨rfl, h1, fun c hc => ?_⟩
    by_cases e : c = i
    · rw [e]; exact he
    · exact h2 c (by omega)
  · exact absurd hu (by decide)
theorem UL_d {lo wd : Nat → Int32} {a b la i : Nat} {u : Int32} (h : UL lo wd a b la i u) (hi : i < la) (he : ¬ wd (40 * a + i) = wd (40 * b + i)) : UL lo wd a b la (i + 1) 1 := Or.inr ⟨rfl, fun q => he (q.2 i hi)⟩
theorem UL_0 {lo wd : Nat → Int32} {a b la : Nat} (h : lo a = lo b) : UL lo wd a b la 0 0 := Or.inl ⟨rfl, h, fun c hc => by omega⟩
theorem UL_1 {lo wd : Nat → Int32} {a b la : Nat} (h : ¬ lo a = lo b) : UL lo wd a b la 0 1 := Or.inr ⟨rfl, fun q => h q.1⟩
set_option maxHeartbeats 4000000 in
set_option maxRecDepth 100000 in
theorem r_areUnlike {κ : Wc} {l : Launch} {h : Mm} {n : Nat} {o : Nat} {a : Nat} {b : Nat} {la : Nat} {lo : Nat → Int32} {wd : Nat → Int32} {im : Int32} {ba : Int32} {at_ : Int32} {sz : Int32} {fa : Int32} {op : Int32} {rm : Int32} {ti : Int32} {tm : Int32} {wh : Int32} (K0 : h o = some (.inr (12, [.ref (o + 1), .ref (o + 2), .ref (o + 3), .int im, .ref (o + 4), .int ba, .int at_, .int sz, .int fa, .int op, .ref (o + 5), .ref (o + 6), .int rm, .ref (o + 7), .ref (o + 8), .int ti, .ref (o + 9), .int tm, .int wh, .ref (o + 10), .ref (o + 11), .ref (o + 12), .ref (o + 13)]))) (K1 : h (o + 7) = arI κ 6 lo) (K2 : h (o + 8) = arI κ 240 wd) (p1 : a < 6) (p2 : b < 6) (p3 : lo a = nI la) (p4 : la ≤ 40) : Con κ l yX12_areUnlike cX12_areUnlike 5 (some .boolean) 1 0 0 [.ref o, .int (nI a), .int (nI b)] h n (fun q h' n' => q = some (.int (b2i (¬ unlP lo wd a b la))) ∧ h' = h ∧ n' = n) := by
  refine Con.of mk_X12_areUnlike (Nat.le_of_ble_eq_true rfl) (fun G hG X E => ?_)
  subst hG
  refine z_ls (ls' := [(0, .ref o), (1, .int (nI a)), (2, .int (nI b))]) rfl ?_
  refine z_aload_n X 0 dX12_areUnlike_0 rfl ?_
  refine z_get X fl_X12_28_12 dX12_areUnlike_1 K0 rfl ?_
  refine z_iload_n X 1 dX12_areUnlike_4 rfl ?_
  refine z_iald2 (v := lo a) X dX12_areUnlike_5 K1 (vp_in_nI (n := a) (by omega) (by omega)) (congrArg lo (nI_clamp (n := a) (by omega))) ?_
  refine z_aload_n X 0 dX12_areUnlike_6 rfl ?_
  refine z_get X fl_X12_28_12 dX12_areUnlike_7 K0 rfl ?_
  refine z_iload_n X 2 dX12_areUnlike_10 rfl ?_
  refine z_iald2 (v := lo b) X dX12_areUnlike_11 K1 (vp_in_nI (n := b) (by omega) (by omega)) (congrArg lo (nI_clamp (n := b) (by omega))) ?_
  refine z_icmp_eq X 19 dX12_areUnlike_12 (by decide) (fun zc1 => ?_) (fun zc1 => ?_)
  · refine z_iconst (v := 0) X dX12_areUnlike_19 (by decide) ?_
    refine z_istore_n (ls' := [(3, .int 0), (0, .ref o), (1, .int (nI a)), (2, .int (nI b))]) X dX12_areUnlike_20 (by decide) rfl ?_
    refine z_iconst (v := 0) X dX12_areUnlike_21 (by decide) ?_
    refine z_istore (ls' := [(4, .int 0), (3, .int 0), (0, .ref o), (1, .int (nI a)), (2, .int (nI b))]) X dX12_areUnlike_22 (by decide) rfl ?_
    have L24 : ∀ (jj : Nat)  (i : Nat) (u : Int32), (la - i < jj) → (hi : i ≤ la) → (hu : UL lo wd a b la i u) → Z κ G 5 24 [(0, .ref o), (1, .int (nI a)), (2, .int (nI b)), (3, .int u), (4, .int (nI i))] [] h n 0 (0) := by
      intro jj
      induction jj with
      | zero => intro  i u hmu; exact absurd hmu (Nat.not_lt_zero _)
      | succ jj ih24 =>
        intro  i u hmu  hi hu
        refine z_iload X 4 dX12_areUnlike_24 rfl ?_
        refine z_aload_n X 0 dX12_areUnlike_26 rfl ?_
        refine z_get X fl_X12_28_12 dX12_areUnlike_27 K0 rfl ?_
        refine z_iload_n X 1 dX12_areUnlike_30 rfl ?_
        refine z_iald2 (v := lo a) X dX12_areUnlike_31 K1 (vp_in_nI (n := a) (by omega) (by omega)) (congrArg lo (nI_clamp (n := a) (by omega))) ?_
        refine z_toe (y := nI la) (p3) ?_
        refine z_icmp_ge X 78 dX12_areUnlike_32 (by decide) (fun zc5 => ?_) (fun zc5 => ?_)
        · try replace zc5 := (nI_leI (a := la) (b := i) (by omega) (by omega)).mp zc5
          refine z_iload_n X 3 dX12_areUnlike_78 rfl ?_
          refine z_toe (y := b2i (¬ unlP lo wd a b la)) (by first | exact UL_a hu (by omega) | exact UL_b hu (by assumption)) ?_
          refine z_zret X E dX12_areUnlike_79 (by first | rfl | exact b2i_nar _) (by omega) (by omega) ⟨?_, ?_, ?_⟩
          · rfl
          · first | rfl | (funext zz; simp only [va_up]; (repeat' split) <;> first | rfl | (exfalso; omega) | simp_all)
          · rfl
        · try replace zc5 := mt (nI_leI (a := la) (b := i) (by omega) (by omega)).mpr zc5
          refine z_iload_n X 3 dX12_areUnlike_35 rfl ?_
          refine z_if_ne X 78 dX12_areUnlike_36 (by decide) (fun zc6 => ?_) (fun zc6 => ?_)
          · refine z_iload_n X 3 dX12_areUnlike_78 rfl ?_
            refine z_toe (y := b2i (¬ unlP lo wd a b la)) (by first | exact UL_a hu (by omega) | exact UL_b hu (by assumption)) ?_
            refine z_zret X E dX12_areUnlike_79 (by first | rfl | exact b2i_nar _) (by omega) (by omega) ⟨?_, ?_, ?_⟩
            · rfl
            · first | rfl | (funext zz; simp only [va_up]; (repeat' split) <;> first | rfl | (exfalso; omega) | simp_all)
            · rfl
          · refine z_aload_n X 0 dX12_areUnlike_39 rfl ?_
            refine z_get X fl_X12_31_12 dX12_areUnlike_40 K0 rfl ?_
            refine z_bipush (v := 40) X dX12_areUnlike_43 (by decide) ?_
            refine z_iload_n X 1 dX12_areUnlike_45 rfl ?_
            refine z_imul X dX12_areUnlike_46 ?_
            refine z_toe (y := nI (40 * a)) (pk_mul (40) (a)) ?_
            refine z_iload X 4 dX12_areUnlike_47 rfl ?_
            refine z_iadd X dX12_areUnlike_49 ?_
            refine z_toe (y := nI ((40 * a) + i)) (nI_add (40 * a) (i)) ?_
            refine z_iald2 (v := wd ((40 * a) + i)) X dX12_areUnlike_50 K2 (vp_in_nI (n := (40 * a) + i) (by omega) (by omega)) (congrArg wd (nI_clamp (n := (40 * a) + i) (by omega))) ?_
            refine z_aload_n X 0 dX12_areUnlike_51 rfl ?_
            refine z_get X fl_X12_31_12 dX12_areUnlike_52 K0 rfl ?_
            refine z_bipush (v := 40) X dX12_areUnlike_55 (by decide) ?_
            refine z_iload_n X 2 dX12_areUnlike_57 rfl ?_
            refine z_imul X dX12_areUnlike_58 ?_
            refine z_toe (y := nI (40 * b)) (pk_mul (40) (b)) ?_
            refine z_iload X 4 dX12_areUnlike_59 rfl ?_
            refine z_iadd X dX12_areUnlike_61 ?_
            refine z_toe (y := nI ((40 * b) + i)) (nI_add (40 * b) (i)) ?_
            refine z_iald2 (v := wd ((40 * b) + i)) X dX12_areUnlike_62 K2 (vp_in_nI (n := (40 * b) + i) (by omega) (by omega)) (congrArg wd (nI_clamp (n := (40 * b) + i) (by omega))) ?_
            refine z_icmp_eq X 70 dX12_areUnlike_63 (by decide) (fun zc7 => ?_) (fun zc7 => ?_)
            · refine z_iconst (v := 0) X dX12_areUnlike_70 (by decide) ?_
              refine z_istore_n (ls' := [(3, .int 0), (0, .ref o), (1, .int (nI a)), (2, .int (nI b)), (4, .int (nI i))]) X dX12_areUnlike_71 (by decide) rfl ?_
              refine z_iinc (v := nI (i + 1)) (ls' := [(4, .int (nI (i + 1))), (3, .int 0), (0, .ref o), (1, .int (nI a)), (2, .int (nI b))]) X 4 dX12_areUnlike_72 rfl (nI_1 (i)) (by decide) rfl ?_
              refine z_goto X 24 dX12_areUnlike_75 (by decide) ?_
              refine z_sub (ls' := [(0, .ref o), (1, .int (nI a)), (2, .int (nI b)), (3, .int 0), (4, .int (nI (i + 1)))]) [2, 3, 4, 1, 0] rfl ?_
              exact ih24 (i + 1) 0 (by omega) (by first | assumption | rfl | omega) (by first | exact UL_s hu (by assumption) (by omega) (by assumption) | exact UL_d hu (by omega) (by assumption))
            · refine z_iconst (v := 1) X dX12_areUnlike_66 (by decide) ?_
              refine z_goto X 71 dX12_areUnlike_67 (by decide) ?_
              refine z_istore_n (ls' := [(3, .int 1), (0, .ref o), (1, .int (nI a)), (2, .int (nI b)), (4, .int (nI i))]) X dX12_areUnlike_71 (by decide) rfl ?_
              refine z_iinc (v := nI (i + 1)) (ls' := [(4, .int (nI (i + 1))), (3, .int 1), (0, .ref o), (1, .int (nI a)), (2, .int (nI b))]) X 4 dX12_areUnlike_72 rfl (nI_1 (i)) (by decide) rfl ?_
              refine z_goto X 24 dX12_areUnlike_75 (by decide) ?_
              refine z_sub (ls' := [(0, .ref o), (1, .int (nI a)), (2, .int (nI b)), (3, .int 1), (4, .int (nI (i + 1)))]) [2, 3, 4, 1, 0] rfl ?_
              exact ih24 (i + 1) 1 (by omega) (by first | assumption | rfl | omega) (by first | exact UL_s hu (by assumption) (by omega) (by assumption) | exact UL_d hu (by omega) (by assumption))
    refine z_sub (ls' := [(0, .ref o), (1, .int (nI a)), (2, .int (nI b)), (3, .int 0), (4, .int 0)]) [2, 3, 4, 1, 0] rfl ?_
    exact L24 _ 0 0 (Nat.lt_succ_self _) (by first | assumption | rfl | omega) (by first | exact UL_0 (by assumption) | exact UL_1 (by assumption))
  · refine z_iconst (v := 1) X dX12_areUnlike_15 (by decide) ?_
    refine z_goto X 20 dX12_areUnlike_16 (by decide) ?_
    refine z_istore_n (ls' := [(3, .int 1), (0, .ref o), (1, .int (nI a)), (2, .int (nI b))]) X dX12_areUnlike_20 (by decide) rfl ?_
    refine z_iconst (v := 0) X dX12_areUnlike_21 (by decide) ?_
    refine z_istore (ls' := [(4, .int 0), (3, .int 1), (0, .ref o), (1, .int (nI a)), (2, .int (nI b))]) X dX12_areUnlike_22 (by decide) rfl ?_
    have L24 : ∀ (jj : Nat)  (i : Nat) (u : Int32), (la - i < jj) → (hi : i ≤ la) → (hu : UL lo wd a b la i u) → Z κ G 5 24 [(0, .ref o), (1, .int (nI a)), (2, .int (nI b)), (3, .int u), (4, .int (nI i))] [] h n 0 (0) := by
      intro jj
      induction jj with
      | zero => intro  i u hmu; exact absurd hmu (Nat.not_lt_zero _)
      | succ jj ih24 =>
        intro  i u hmu  hi hu
        refine z_iload X 4 dX12_areUnlike_24 rfl ?_
        refine z_aload_n X 0 dX12_areUnlike_26 rfl ?_
        refine z_get X fl_X12_28_12 dX12_areUnlike_27 K0 rfl ?_
        refine z_iload_n X 1 dX12_areUnlike_30 rfl ?_
        refine z_iald2 (v := lo a) X dX12_areUnlike_31 K1 (vp_in_nI (n := a) (by omega) (by omega)) (congrArg lo (nI_clamp (n := a) (by omega))) ?_
        refine z_toe (y := nI la) (p3) ?_
        refine z_icmp_ge X 78 dX12_areUnlike_32 (by decide) (fun zc11 => ?_) (fun zc11 => ?_)
        · try replace zc11 := (nI_leI (a := la) (b := i) (by omega) (by omega)).mp zc11
          refine z_iload_n X 3 dX12_areUnlike_78 rfl ?_
          refine z_toe (y := b2i (¬ unlP lo wd a b la)) (by first | exact UL_a hu (by omega) | exact UL_b hu (by assumption)) ?_
          refine z_zret X E dX12_areUnlike_79 (by first | rfl | exact b2i_nar _) (by omega) (by omega) ⟨?_, ?_, ?_⟩
          · rfl
          · first | rfl | (funext zz; simp only [va_up]; (repeat' split) <;> first | rfl | (exfalso; omega) | simp_all)
          · rfl
        · try replace zc11 := mt (nI_leI (a := la) (b := i) (by omega) (by omega)).mpr zc11
          refine z_iload_n X 3 dX12_areUnlike_35 rfl ?_
          refine z_if_ne X 78 dX12_areUnlike_36 (by decide) (fun zc12 => ?_) (fun zc12 => ?_)
          · refine z_iload_n X 3 dX12_areUnlike_78 rfl ?_
            refine z_toe (y := b2i (¬ unlP lo wd a b la)) (by first | exact UL_a hu (by omega) | exact UL_b hu (by assumption)) ?_
            refine z_zret X E dX12_areUnlike_79 (by first | rfl | exact b2i_nar _) (by omega) (by omega) ⟨?_, ?_, ?_⟩
            · rfl
            · first | rfl | (funext zz; simp only [va_up]; (repeat' split) <;> first | rfl | (exfalso; omega) | simp_all)
            · rfl
          · refine z_aload_n X 0 dX12_areUnlike_39 rfl ?_
            refine z_get X fl_X12_31_12 dX12_areUnlike_40 K0 rfl ?_
            refine z_bipush (v := 40) X dX12_areUnlike_43 (by decide) ?_
            refine z_iload_n X 1 dX12_areUnlike_45 rfl ?_
            refine z_imul X dX12_areUnlike_46 ?_
            refine z_toe (y := nI (40 * a)) (pk_mul (40) (a)) ?_
            refine z_iload X 4 dX12_areUnlike_47 rfl ?_
            refine z_iadd X dX12_areUnlike_49 ?_
            refine z_toe (y := nI ((40 * a) + i)) (nI_add (40 * a) (i)) ?_
            refine z_iald2 (v := wd ((40 * a) + i)) X dX12_areUnlike_50 K2 (vp_in_nI (n := (40 * a) + i) (by omega) (by omega)) (congrArg wd (nI_clamp (n := (40 * a) + i) (by omega))) ?_
            refine z_aload_n X 0 dX12_areUnlike_51 rfl ?_
            refine z_get X fl_X12_31_12 dX12_areUnlike_52 K0 rfl ?_
            refine z_bipush (v := 40) X dX12_areUnlike_55 (by decide) ?_
            refine z_iload_n X 2 dX12_areUnlike_57 rfl ?_
            refine z_imul X dX12_areUnlike_58 ?_
            refine z_toe (y := nI (40 * b)) (pk_mul (40) (b)) ?_
            refine z_iload X 4 dX12_areUnlike_59 rfl ?_
            refine z_iadd X dX12_areUnlike_61 ?_
            refine z_toe (y := nI ((40 * b) + i)) (nI_add (40 * b) (i)) ?_
            refine z_iald2 (v := wd ((40 * b) + i)) X dX12_areUnlike_62 K2 (vp_in_nI (n := (40 * b) + i) (by omega) (by omega)) (congrArg wd (nI_clamp (n := (40 * b) + i) (by omega))) ?_
            refine z_icmp_eq X 70 dX12_areUnlike_63 (by decide) (fun zc13 => ?_) (fun zc13 => ?_)
            · refine z_iconst (v := 0) X dX12_areUnlike_70 (by decide) ?_
              refine z_istore_n (ls' := [(3, .int 0), (0, .ref o), (1, .int (nI a)), (2, .int (nI b)), (4, .int (nI i))]) X dX12_areUnlike_71 (by decide) rfl ?_
              refine z_iinc (v := nI (i + 1)) (ls' := [(4, .int (nI (i + 1))), (3, .int 0), (0, .ref o), (1, .int (nI a)), (2, .int (nI b))]) X 4 dX12_areUnlike_72 rfl (nI_1 (i)) (by decide) rfl ?_
              refine z_goto X 24 dX12_areUnlike_75 (by decide) ?_
              refine z_sub (ls' := [(0, .ref o), (1, .int (nI a)), (2, .int (nI b)), (3, .int 0), (4, .int (nI (i + 1)))]) [2, 3, 4, 1, 0] rfl ?_
              exact ih24 (i + 1) 0 (by omega) (by first | assumption | rfl | omega) (by first | exact UL_s hu (by assumption) (by omega) (by assumption) | exact UL_d hu (by omega) (by assumption))
            · refine z_iconst (v := 1) X dX12_areUnlike_66 (by decide) ?_
              refine z_goto X 71 dX12_areUnlike_67 (by decide) ?_
              refine z_istore_n (ls' := [(3, .int 1), (0, .ref o), (1, .int (nI a)), (2, .int (nI b)), (4, .int (nI i))]) X dX12_areUnlike_71 (by decide) rfl ?_
              refine z_iinc (v := nI (i + 1)) (ls' := [(4, .int (nI (i + 1))), (3, .int 1), (0, .ref o), (1, .int (nI a)), (2, .int (nI b))]) X 4 dX12_areUnlike_72 rfl (nI_1 (i)) (by decide) rfl ?_
              refine z_goto X 24 dX12_areUnlike_75 (by decide) ?_
              refine z_sub (ls' := [(0, .ref o), (1, .int (nI a)), (2, .int (nI b)), (3, .int 1), (4, .int (nI (i + 1)))]) [2, 3, 4, 1, 0] rfl ?_
              exact ih24 (i + 1) 1 (by omega) (by first | assumption | rfl | omega) (by first | exact UL_s hu (by assumption) (by omega) (by assumption) | exact UL_d hu (by omega) (by assumption))
    refine z_sub (ls' := [(0, .ref o), (1, .int (nI a)), (2, .int (nI b)), (3, .int 1), (4, .int 0)]) [2, 3, 4, 1, 0] rfl ?_
    exact L24 _ 0 1 (Nat.lt_succ_self _) (by first | assumption | rfl | omega) (by first | exact UL_0 (by assumption) | exact UL_1 (by assumption))
abbrev triE (T : Nat → Nat → Int32) (tx : Nat → Nat) (d : Nat → Int32) (v b k : Nat) : Nat → Int32 := gbyN T tx v (upd (upd (upd (upd (bgn d) 6 (d (40 + 3 * b))) 7 (d (40 + 3 * b + 1))) 5 (d (40 + 3 * b + 2))) 10 (1 <<< (nI k &&& 31)))
def unlE (m m2 : Nat → Int32) : Int32 := b2i (¬ (m 1 = m2 1 ∧ ∀ c, c < lnO m → m (100 + c) = m2 (100 + c)))
theorem unlE_01 (m m2 : Nat → Int32) : unlE m m2 = 0 ∨ unlE m m2 = 1 := by
  unfold unlE b2i
  split
  · exact Or.inr rfl
  · exact Or.inl rfl
/-- how many pairs of causes, each alone, grow unlike in a box -/
def triV (T : Nat → Nat → Int32) (tx : Nat → Nat) (d : Nat → Int32) (v nc b : Nat) : Int32 := sumN (fun a => sumN (fun z => unlE (triE T tx d v b a) (triE T tx d v b z)) a) nc
theorem unlE_of {E : Nat → Nat → Int32} {lo wd : Nat → Int32} {a b n : Nat} (ha : a < n) (hb : b < n) (hk : lnOk (E a)) (h1 : ∀ k, k < n → lo k = E k 1) (h2 : ∀ k, k < n → ∀ c, c < 40 → wd (40 * k + c) = E k (100 + c)) : b2i (¬ unlP lo wd a b (lnO (E a))) = unlE (E a) (E b) := by
  refine b2i_iff (not_congr ?_)
  unfold unlP
  rw [h1 a ha, h1 b hb]
  refine and_congr Iff.rfl ⟨fun q c hc => ?_, fun q c hc => ?_⟩
  · have := q c hc
    rw [h2 a ha c (by have := hk.2.2; omega), h2 b hb c (by have := hk.2.2; omega)] at this
    exact this
  · rw [h2 a ha c (by have := hk.2.2; omega), h2 b hb c (by have := hk.2.2; omega)]
    exact q c hc
theorem prs_t {f : Nat → Int32} {s acc : Int32} {z : Nat} (ha : acc = s + sumN f z) (h : f z = 0 ∨ f z = 1) (h0 : ¬ f z = 0) : acc + 1 = s + sumN f (z + 1) := by
  show _ = s + (sumN f z + f z)
  rw [ha, h.resolve_left h0, Int32.add_assoc]
theorem prs_f {f : Nat → Int32} {s acc : Int32} {z : Nat} (ha : acc = s + sumN f z) (h0 : f z = 0) : acc + 0 = s + sumN f (z + 1) := by
  show _ = s + (sumN f z + f z)
  rw [ha, h0, Int32.add_assoc]
set_option maxHeartbeats 4000000 in
set_option maxRecDepth 100000 in
theorem r_unlikeIn {κ : Wc} {l : Launch} {h : Mm} {n : Nat} {o : Nat} {b : Nat} {v : Nat} {d : Nat → Int32} {e : Nat → Int32} {nm : Nat → Int32} {lo : Nat → Int32} {wd : Nat → Int32} {nc : Nat} {tx : Nat → Nat} {im : Int32} {ba : Int32} {at_ : Int32} {sz : Int32} {fa : Int32} {op : Int32} {rm : Int32} {tm : Int32} {wh : Int32} (K0 : h o = some (.inr (12, [.ref (o + 1), .ref (o + 2), .ref (o + 3), .int im, .ref (o + 4), .int ba, .int at_, .int sz, .int fa, .int op, .ref (o + 5), .ref (o + 6), .int rm, .ref (o + 7), .ref (o + 8), .int (nI v), .ref (o + 9), .int tm, .int wh, .ref (o + 10), .ref (o + 11), .ref (o + 12), .ref (o + 13)]))) (K1 : h (o + 1) = arI κ 340 d) (K2 : h (o + 2) = arI κ 340 e) (K3 : h (o + 5) = arI κ 3 nm) (K4 : h (o + 7) = arI κ 6 lo) (K5 : h (o + 8) = arI κ 240 wd) (q8 : ∀ u, u < 2 → d (60 + u) = nI (tx u) ∧ tx u ≤ 50) (hOk : lnOk d) (q4 : d 11 = nI nc) (q5 : nc ≤ 6) (q6 : v ≤ 100) (q7 : b < 5) : Con κ l yX12_unlikeIn cX12_unlikeIn 5 (some .int) 44 0 0 [.ref o, .int (nI b)] h n (fun q h' n' => ∃ ba' : Int32, ∃ at' : Int32, ∃ sz' : Int32, ∃ fa' : Int32, ∃ op' : Int32, ∃ nm' : Nat → Int32, ∃ e' : Nat → Int32, ∃ lo' : Nat → Int32, ∃ wd' : Nat → Int32, q = some (.int (triV (Tx d) tx d v nc b)) ∧ h' = va_up (va_up (va_up (va_up (va_up h o (some (.inr (12, [.ref (o + 1), .ref (o + 2), .ref (o + 3), .int im, .ref (o + 4), .int ba', .int at', .int sz', .int fa', .int op', .ref (o + 5), .ref (o + 6), .int rm, .ref (o + 7), .ref (o + 8), .int (nI v), .ref (o + 9), .int tm, .int wh, .ref (o + 10), .ref (o + 11), .ref (o + 12), .ref (o + 13)])))) (o + 5) (arI κ 3 nm')) (o + 2) (arI κ 340 e')) (o + 7) (arI κ 6 lo')) (o + 8) (arI κ 240 wd') ∧ n' = n) := by
  refine Con.of mk_X12_unlikeIn (Nat.le_of_ble_eq_true rfl) (fun G hG X E => ?_)
  subst hG
  refine z_ls (ls' := [(0, .ref o), (1, .int (nI b))]) rfl ?_
  refine z_iconst (v := 0) X dX12_unlikeIn_0 (by decide) ?_
  refine z_istore_n (ls' := [(2, .int 0), (0, .ref o), (1, .int (nI b))]) X dX12_unlikeIn_1 (by decide) rfl ?_
  have L2 : ∀ (jj : Nat) (hh2 : Mm)  (i : Nat) (ba2 : Int32) (at2 : Int32) (sz2 : Int32) (fa2 : Int32) (op2 : Int32) (nm2 : Nat → Int32) (e2 : Nat → Int32) (lo2 : Nat → Int32) (wd2 : Nat → Int32), (nc - i < jj) → (hh2 = va_up (va_up (va_up (va_up (va_up h o (some (.inr (12, [.ref (o + 1), .ref (o + 2), .ref (o + 3), .int im, .ref (o + 4), .int ba2, .int at2, .int sz2, .int fa2, .int op2, .ref (o + 5), .ref (o + 6), .int rm, .ref (o + 7), .ref (o + 8), .int (nI v), .ref (o + 9), .int tm, .int wh, .ref (o + 10), .ref (o + 11), .ref (o + 12), .ref (o + 13)])))) (o + 5) (arI κ 3 nm2)) (o + 2) (arI κ 340 e2)) (o + 7) (arI κ 6 lo2)) (o + 8) (arI κ 240 wd2)) → (hi : i ≤ nc) → (hlo : ∀ k, k < i → lo2 k = triE (Tx d) tx d v b k 1) → (hwd : ∀ k, k < i → ∀ c, c < 40 → wd2 (40 * k + c) = triE (Tx d) tx d v b k (100 + c)) → Z κ G 5 2 [(0, .ref o), (1, .int (nI b)), (2, .int (nI i))] [] hh2 n 0 (0) := by
    intro jj
    induction jj with
    | zero => intro hh2 i ba2 at2 sz2 fa2 op2 nm2 e2 lo2 wd2 hmu; exact absurd hmu (Nat.not_lt_zero _)
    | succ jj ih2 =>
      intro hh2 i ba2 at2 sz2 fa2 op2 nm2 e2 lo2 wd2 hmu he2 hi hlo hwd
      have zK1 : hh2 o = some (.inr (12, [.ref (o + 1), .ref (o + 2), .ref (o + 3), .int im, .ref (o + 4), .int ba2, .int at2, .int sz2, .int fa2, .int op2, .ref (o + 5), .ref (o + 6), .int rm, .ref (o + 7), .ref (o + 8), .int (nI v), .ref (o + 9), .int tm, .int wh, .ref (o + 10), .ref (o + 11), .ref (o + 12), .ref (o + 13)])) := by rw [he2]; rw [va_up_ne _ _ (show o ≠ o + 8 by omega)]; rw [va_up_ne _ _ (show o ≠ o + 7 by omega)]; rw [va_up_ne _ _ (show o ≠ o + 2 by omega)]; rw [va_up_ne _ _ (show o ≠ o + 5 by omega)]; exact va_up_self _ _ _
      have zK2 : hh2 (o + 1) = arI κ 340 d := by rw [he2]; rw [va_up_ne _ _ (show o + 1 ≠ o + 8 by omega)]; rw [va_up_ne _ _ (show o + 1 ≠ o + 7 by omega)]; rw [va_up_ne _ _ (show o + 1 ≠ o + 2 by omega)]; rw [va_up_ne _ _ (show o + 1 ≠ o + 5 by omega)]; rw [va_up_ne _ _ (show o + 1 ≠ o by omega)]; exact K1
      have zK3 : hh2 (o + 2) = arI κ 340 e2 := by rw [he2]; rw [va_up_ne _ _ (show o + 2 ≠ o + 8 by omega)]; rw [va_up_ne _ _ (show o + 2 ≠ o + 7 by omega)]; exact va_up_self _ _ _
      have zK4 : hh2 (o + 5) = arI κ 3 nm2 := by rw [he2]; rw [va_up_ne _ _ (show o + 5 ≠ o + 8 by omega)]; rw [va_up_ne _ _ (show o + 5 ≠ o + 7 by omega)]; rw [va_up_ne _ _ (show o + 5 ≠ o + 2 by omega)]; exact va_up_self _ _ _
      have zK5 : hh2 (o + 7) = arI κ 6 lo2 := by rw [he2]; rw [va_up_ne _ _ (show o + 7 ≠ o + 8 by omega)]; exact va_up_self _ _ _
      have zK6 : hh2 (o + 8) = arI κ 240 wd2 := by rw [he2]; exact va_up_self _ _ _
      refine z_iload_n X 2 dX12_unlikeIn_2 rfl ?_
      refine z_aload_n X 0 dX12_unlikeIn_3 rfl ?_
      refine z_get X fl_X12_7_12 dX12_unlikeIn_4 zK1 rfl ?_
      refine z_bipush (v := 11) X dX12_unlikeIn_7 (by decide) ?_
      refine z_iald2 (v := d 11) X dX12_unlikeIn_9 zK2 (vp_in_nI (n := 11) (by omega) (by omega)) (congrArg d (nI_clamp (n := 11) (by omega))) ?_
      refine z_toe (y := nI nc) (q4) ?_
      refine z_icmp_ge X 144 dX12_unlikeIn_10 (by decide) (fun zc7 => ?_) (fun zc7 => ?_)
      · try replace zc7 := (nI_leI (a := nc) (b := i) (by omega) (by omega)).mp zc7
        refine z_iconst (v := 0) X dX12_unlikeIn_144 (by decide) ?_
        refine z_istore_n (ls' := [(2, .int 0), (0, .ref o), (1, .int (nI b))]) X dX12_unlikeIn_145 (by decide) rfl ?_
        refine z_iconst (v := 0) X dX12_unlikeIn_146 (by decide) ?_
        refine z_istore_n (ls' := [(3, .int 0), (2, .int 0), (0, .ref o), (1, .int (nI b))]) X dX12_unlikeIn_147 (by decide) rfl ?_
        have L148 : ∀ (jj : Nat)  (a : Nat) (acc : Int32), (nc - a < jj) → (ha : a ≤ nc) → (hacc : acc = sumN (fun a => sumN (fun z => unlE (triE (Tx d) tx d v b a) (triE (Tx d) tx d v b z)) a) a) → Z κ G 5 148 [(0, .ref o), (1, .int (nI b)), (2, .int acc), (3, .int (nI a))] [] hh2 n 0 (0) := by
          intro jj
          induction jj with
          | zero => intro  a acc hmu; exact absurd hmu (Nat.not_lt_zero _)
          | succ jj ih148 =>
            intro  a acc hmu  ha hacc
            refine z_iload_n X 3 dX12_unlikeIn_148 rfl ?_
            refine z_aload_n X 0 dX12_unlikeIn_149 rfl ?_
            refine z_get X fl_X12_7_12 dX12_unlikeIn_150 zK1 rfl ?_
            refine z_bipush (v := 11) X dX12_unlikeIn_153 (by decide) ?_
            refine z_iald2 (v := d 11) X dX12_unlikeIn_155 zK2 (vp_in_nI (n := 11) (by omega) (by omega)) (congrArg d (nI_clamp (n := 11) (by omega))) ?_
            refine z_toe (y := nI nc) (q4) ?_
            refine z_icmp_ge X 198 dX12_unlikeIn_156 (by decide) (fun zc14 => ?_) (fun zc14 => ?_)
            · try replace zc14 := (nI_leI (a := nc) (b := a) (by omega) (by omega)).mp zc14
              refine z_iload_n X 2 dX12_unlikeIn_198 rfl ?_
              refine z_iret X E dX12_unlikeIn_199 (by omega) (by omega) ⟨ba2, at2, sz2, fa2, op2, nm2, e2, lo2, wd2, ?_, ?_, ?_⟩
              · rw [hacc, show a = nc by omega]; rfl
              · funext zz; by_cases zq4 : zz = o + 8; (rw [zq4, va_up_self]; exact zK6); by_cases zq3 : zz = o + 7; (rw [zq3, va_up_ne _ _ (show o + 7 ≠ o + 8 by omega), va_up_self]; exact zK5); by_cases zq2 : zz = o + 2; (rw [zq2, va_up_ne _ _ (show o + 2 ≠ o + 8 by omega), va_up_ne _ _ (show o + 2 ≠ o + 7 by omega), va_up_self]; exact zK3); by_cases zq1 : zz = o + 5; (rw [zq1, va_up_ne _ _ (show o + 5 ≠ o + 8 by omega), va_up_ne _ _ (show o + 5 ≠ o + 7 by omega), va_up_ne _ _ (show o + 5 ≠ o + 2 by omega), va_up_self]; exact zK4); by_cases zq0 : zz = o; (rw [zq0, va_up_ne _ _ (show o ≠ o + 8 by omega), va_up_ne _ _ (show o ≠ o + 7 by omega), va_up_ne _ _ (show o ≠ o + 2 by omega), va_up_ne _ _ (show o ≠ o + 5 by omega), va_up_self]; exact zK1); rw [va_up_ne _ _ zq4, va_up_ne _ _ zq3, va_up_ne _ _ zq2, va_up_ne _ _ zq1, va_up_ne _ _ zq0]; rw [he2]; simp only [va_up, if_neg zq0, if_neg zq1, if_neg zq2, if_neg zq3, if_neg zq4]
              · rfl
            · try replace zc14 := mt (nI_leI (a := nc) (b := a) (by omega) (by omega)).mpr zc14
              refine z_iconst (v := 0) X dX12_unlikeIn_159 (by decide) ?_
              refine z_istore (ls' := [(4, .int 0), (0, .ref o), (1, .int (nI b)), (2, .int acc), (3, .int (nI a))]) X dX12_unlikeIn_160 (by decide) rfl ?_
              have L162 : ∀ (jj : Nat)  (z : Nat) (acc2 : Int32), (a - z < jj) → (hz : z ≤ a) → (hac2 : acc2 = sumN (fun a => sumN (fun z => unlE (triE (Tx d) tx d v b a) (triE (Tx d) tx d v b z)) a) a + sumN (fun z => unlE (triE (Tx d) tx d v b a) (triE (Tx d) tx d v b z)) z) → Z κ G 5 162 [(0, .ref o), (1, .int (nI b)), (2, .int acc2), (3, .int (nI a)), (4, .int (nI z))] [] hh2 n 0 (0) := by
                intro jj
                induction jj with
                | zero => intro  z acc2 hmu; exact absurd hmu (Nat.not_lt_zero _)
                | succ jj ih162 =>
                  intro  z acc2 hmu  hz hac2
                  refine z_iload X 4 dX12_unlikeIn_162 rfl ?_
                  refine z_iload_n X 3 dX12_unlikeIn_164 rfl ?_
                  refine z_icmp_ge X 192 dX12_unlikeIn_165 (by decide) (fun zc21 => ?_) (fun zc21 => ?_)
                  · try replace zc21 := (nI_leI (a := a) (b := z) (by omega) (by omega)).mp zc21
                    refine z_iinc (v := nI (a + 1)) (ls' := [(3, .int (nI (a + 1))), (0, .ref o), (1, .int (nI b)), (2, .int acc2), (4, .int (nI z))]) X 3 dX12_unlikeIn_192 rfl (nI_1 (a)) (by decide) rfl ?_
                    refine z_goto X 148 dX12_unlikeIn_195 (by decide) ?_
                    refine z_sub (ls' := [(0, .ref o), (1, .int (nI b)), (2, .int acc2), (3, .int (nI (a + 1)))]) [1, 2, 3, 0] rfl ?_
                    exact ih148 (a + 1) acc2 (by omega) (by first | assumption | rfl | omega) (by rw [hac2, show z = a by omega]; rfl)
                  · try replace zc21 := mt (nI_leI (a := a) (b := z) (by omega) (by omega)).mpr zc21
                    refine z_iload_n X 2 dX12_unlikeIn_168 rfl ?_
                    refine z_aload_n X 0 dX12_unlikeIn_169 rfl ?_
                    refine z_iload_n X 3 dX12_unlikeIn_170 rfl ?_
                    refine z_iload X 4 dX12_unlikeIn_171 rfl ?_
                    refine z_callV X (r_areUnlike (κ := κ) (n := n) (o := (o)) (a := (a)) (b := (z)) (la := (lnO (triE (Tx d) tx d v b a))) (lo := (lo2)) (wd := (wd2)) (im := (im)) (ba := (ba2)) (at_ := (at2)) (sz := (sz2)) (fa := (fa2)) (op := (op2)) (rm := (rm)) (ti := (nI v)) (tm := (tm)) (wh := (wh)) zK1 zK5 zK6 (by first | assumption | omega) (by first | assumption | omega) ((hlo a (by omega)).trans (gbyN_ok (lnOk_upd (lnOk_upd (lnOk_upd (lnOk_upd (bgn_ok d) (by omega)) (by omega)) (by omega)) (by omega)) v).1) ((gbyN_ok (T := Tx d) (tx := tx) (lnOk_upd (lnOk_upd (lnOk_upd (lnOk_upd (bgn_ok d) (by omega)) (by omega)) (by omega)) (by omega)) v).2.2)) mk_X12_areUnlike dX12_unlikeIn_173 wd_1283 wd_1285 wd_49 rfl zK1 rfl rfl rfl (Nat.le_of_ble_eq_true rfl) (Nat.le_of_ble_eq_true rfl) (Nat.le_of_ble_eq_true rfl) (by omega) (by omega) (fun q zh22 zm24 zp25 => ?_)
                    obtain ⟨rfl, ze23, zn26⟩ := zp25
                    subst zm24
                    subst zh22
                    refine z_st (st' := [.int (b2i (¬ unlP lo2 wd2 a z (lnO (triE (Tx d) tx d v b a)))), .int acc2]) rfl ?_
                    refine z_toe (y := unlE (triE (Tx d) tx d v b a) (triE (Tx d) tx d v b z)) (unlE_of (E := triE (Tx d) tx d v b) (n := i) (by omega) (by omega) (gbyN_ok (lnOk_upd (lnOk_upd (lnOk_upd (lnOk_upd (bgn_ok d) (by omega)) (by omega)) (by omega)) (by omega)) v) hlo hwd) ?_
                    refine z_if_eq X 183 dX12_unlikeIn_176 (by decide) (fun zc27 => ?_) (fun zc27 => ?_)
                    · refine z_iconst (v := 0) X dX12_unlikeIn_183 (by decide) ?_
                      refine z_iadd X dX12_unlikeIn_184 ?_
                      refine z_istore_n (ls' := [(2, .int (acc2 + 0)), (0, .ref o), (1, .int (nI b)), (3, .int (nI a)), (4, .int (nI z))]) X dX12_unlikeIn_185 (by decide) rfl ?_
                      refine z_iinc (v := nI (z + 1)) (ls' := [(4, .int (nI (z + 1))), (2, .int (acc2 + 0)), (0, .ref o), (1, .int (nI b)), (3, .int (nI a))]) X 4 dX12_unlikeIn_186 rfl (nI_1 (z)) (by decide) rfl ?_
                      refine z_goto X 162 dX12_unlikeIn_189 (by decide) ?_
                      refine z_sub (ls' := [(0, .ref o), (1, .int (nI b)), (2, .int (acc2 + 0)), (3, .int (nI a)), (4, .int (nI (z + 1)))]) [2, 3, 1, 4, 0] rfl ?_
                      exact ih162 (z + 1) (acc2 + 0) (by omega) (by first | assumption | rfl | omega) (by first | exact prs_t hac2 (unlE_01 _ _) (by assumption) | exact prs_f hac2 (by assumption))
                    · refine z_iconst (v := 1) X dX12_unlikeIn_179 (by decide) ?_
                      refine z_goto X 184 dX12_unlikeIn_180 (by decide) ?_
                      refine z_iadd X dX12_unlikeIn_184 ?_
                      refine z_istore_n (ls' := [(2, .int (acc2 + 1)), (0, .ref o), (1, .int (nI b)), (3, .int (nI a)), (4, .int (nI z))]) X dX12_unlikeIn_185 (by decide) rfl ?_
                      refine z_iinc (v := nI (z + 1)) (ls' := [(4, .int (nI (z + 1))), (2, .int (acc2 + 1)), (0, .ref o), (1, .int (nI b)), (3, .int (nI a))]) X 4 dX12_unlikeIn_186 rfl (nI_1 (z)) (by decide) rfl ?_
                      refine z_goto X 162 dX12_unlikeIn_189 (by decide) ?_
                      refine z_sub (ls' := [(0, .ref o), (1, .int (nI b)), (2, .int (acc2 + 1)), (3, .int (nI a)), (4, .int (nI (z + 1)))]) [2, 3, 1, 4, 0] rfl ?_
                      exact ih162 (z + 1) (acc2 + 1) (by omega) (by first | assumption | rfl | omega) (by first | exact prs_t hac2 (unlE_01 _ _) (by assumption) | exact prs_f hac2 (by assumption))
              refine z_sub (ls' := [(0, .ref o), (1, .int (nI b)), (2, .int acc), (3, .int (nI a)), (4, .int 0)]) [1, 2, 3, 4, 0] rfl ?_
              exact L162 _ 0 acc (Nat.lt_succ_self _) (by first | assumption | rfl | omega) (by rw [hacc]; exact (Int32.add_zero _).symm)
        refine z_sub (ls' := [(0, .ref o), (1, .int (nI b)), (2, .int 0), (3, .int 0)]) [2, 3, 1, 0] rfl ?_
        exact L148 _ 0 0 (Nat.lt_succ_self _) (by first | assumption | rfl | omega) (by rfl)
      · try replace zc7 := mt (nI_leI (a := nc) (b := i) (by omega) (by omega)).mpr zc7
        refine z_aload_n X 0 dX12_unlikeIn_13 rfl ?_
        refine z_callV X (r_begins (κ := κ) (n := n) (o := (o)) (d := (d)) (e := (e2)) (im := (im)) (ba := (ba2)) (at_ := (at2)) (sz := (sz2)) (fa := (fa2)) (op := (op2)) (rm := (rm)) (ti := (nI v)) (tm := (tm)) (wh := (wh)) zK1 zK2 zK3 ) mk_X12_begins dX12_unlikeIn_14 wd_1263 wd_1265 wd_47 rfl zK1 rfl rfl rfl (Nat.le_of_ble_eq_true rfl) (Nat.le_of_ble_eq_true rfl) (Nat.le_of_ble_eq_true rfl) (by omega) (by omega) (fun q zh28 zm30 zp31 => ?_)
        obtain ⟨rfl, ze29, zn32⟩ := zp31
        subst zm30
        refine z_st (st' := []) rfl ?_
        have zK33 : zh28 o = some (.inr (12, [.ref (o + 1), .ref (o + 2), .ref (o + 3), .int im, .ref (o + 4), .int ba2, .int at2, .int sz2, .int fa2, .int op2, .ref (o + 5), .ref (o + 6), .int rm, .ref (o + 7), .ref (o + 8), .int (nI v), .ref (o + 9), .int tm, .int wh, .ref (o + 10), .ref (o + 11), .ref (o + 12), .ref (o + 13)])) := by rw [ze29]; rw [va_up_ne _ _ (show o ≠ o + 2 by omega)]; exact zK1
        have zK34 : zh28 (o + 1) = arI κ 340 d := by rw [ze29]; rw [va_up_ne _ _ (show o + 1 ≠ o + 2 by omega)]; exact zK2
        have zK35 : zh28 (o + 2) = arI κ 340 (bgn d) := by rw [ze29]; exact va_up_self _ _ _
        have zK36 : zh28 (o + 5) = arI κ 3 nm2 := by rw [ze29]; rw [va_up_ne _ _ (show o + 5 ≠ o + 2 by omega)]; exact zK4
        have zK37 : zh28 (o + 7) = arI κ 6 lo2 := by rw [ze29]; rw [va_up_ne _ _ (show o + 7 ≠ o + 2 by omega)]; exact zK5
        have zK38 : zh28 (o + 8) = arI κ 240 wd2 := by rw [ze29]; rw [va_up_ne _ _ (show o + 8 ≠ o + 2 by omega)]; exact zK6
        refine z_aload_n X 0 dX12_unlikeIn_17 rfl ?_
        refine z_get X fl_X12_13_12 dX12_unlikeIn_18 zK33 rfl ?_
        refine z_bipush (v := 6) X dX12_unlikeIn_21 (by decide) ?_
        refine z_aload_n X 0 dX12_unlikeIn_23 rfl ?_
        refine z_get X fl_X12_7_12 dX12_unlikeIn_24 zK33 rfl ?_
        refine z_bipush (v := 40) X dX12_unlikeIn_27 (by decide) ?_
        refine z_iconst (v := 3) X dX12_unlikeIn_29 (by decide) ?_
        refine z_iload_n X 1 dX12_unlikeIn_30 rfl ?_
        refine z_imul X dX12_unlikeIn_31 ?_
        refine z_toe (y := nI (3 * b)) (pk_mul (3) (b)) ?_
        refine z_iadd X dX12_unlikeIn_32 ?_
        refine z_toe (y := nI (40 + (3 * b))) (nI_add (40) (3 * b)) ?_
        refine z_iald2 (v := d (40 + (3 * b))) X dX12_unlikeIn_33 zK34 (vp_in_nI (n := 40 + (3 * b)) (by omega) (by omega)) (congrArg d (nI_clamp (n := 40 + (3 * b)) (by omega))) ?_
        refine z_iast X dX12_unlikeIn_34 zK35 (vp_in_nI (n := 6) (by omega) (by omega)) (congrArg (fun z => va_up zh28 (o + 2) (arI κ 340 (upd (bgn d) z (d (40 + (3 * b)))))) (nI_clamp (n := 6) (by omega))) ?_
        obtain ⟨zh39, ze40⟩ : ∃ z : Mm, z = va_up zh28 (o + 2) (arI κ 340 (upd (bgn d) 6 (d (40 + (3 * b))))) := ⟨_, rfl⟩
        refine z_heap (h' := zh39) ze40.symm ?_
        have zK41 := up_off ze40 (show o ≠ o + 2 by omega) zK33
        have zK42 := up_off ze40 (show o + 1 ≠ o + 2 by omega) zK34
        have zK43 := up_at ze40
        have zK44 := up_off ze40 (show o + 5 ≠ o + 2 by omega) zK36
        have zK45 := up_off ze40 (show o + 7 ≠ o + 2 by omega) zK37
        have zK46 := up_off ze40 (show o + 8 ≠ o + 2 by omega) zK38
        refine z_aload_n X 0 dX12_unlikeIn_35 rfl ?_
        refine z_get X fl_X12_13_12 dX12_unlikeIn_36 zK41 rfl ?_
        refine z_bipush (v := 7) X dX12_unlikeIn_39 (by decide) ?_
        refine z_aload_n X 0 dX12_unlikeIn_41 rfl ?_
        refine z_get X fl_X12_7_12 dX12_unlikeIn_42 zK41 rfl ?_
        refine z_bipush (v := 40) X dX12_unlikeIn_45 (by decide) ?_
        refine z_iconst (v := 3) X dX12_unlikeIn_47 (by decide) ?_
        refine z_iload_n X 1 dX12_unlikeIn_48 rfl ?_
        refine z_imul X dX12_unlikeIn_49 ?_
        refine z_toe (y := nI (3 * b)) (pk_mul (3) (b)) ?_
        refine z_iadd X dX12_unlikeIn_50 ?_
        refine z_toe (y := nI (40 + (3 * b))) (nI_add (40) (3 * b)) ?_
        refine z_iconst (v := 1) X dX12_unlikeIn_51 (by decide) ?_
        refine z_iadd X dX12_unlikeIn_52 ?_
        refine z_toe (y := nI ((40 + (3 * b)) + 1)) (nI_add (40 + (3 * b)) (1)) ?_
        refine z_iald2 (v := d ((40 + (3 * b)) + 1)) X dX12_unlikeIn_53 zK42 (vp_in_nI (n := (40 + (3 * b)) + 1) (by omega) (by omega)) (congrArg d (nI_clamp (n := (40 + (3 * b)) + 1) (by omega))) ?_
        refine z_iast X dX12_unlikeIn_54 zK43 (vp_in_nI (n := 7) (by omega) (by omega)) (congrArg (fun z => va_up zh39 (o + 2) (arI κ 340 (upd (upd (bgn d) 6 (d (40 + (3 * b)))) z (d ((40 + (3 * b)) + 1))))) (nI_clamp (n := 7) (by omega))) ?_
        obtain ⟨zh47, ze48⟩ : ∃ z : Mm, z = va_up zh39 (o + 2) (arI κ 340 (upd (upd (bgn d) 6 (d (40 + (3 * b)))) 7 (d ((40 + (3 * b)) + 1)))) := ⟨_, rfl⟩
        refine z_heap (h' := zh47) ze48.symm ?_
        have zK49 := up_off ze48 (show o ≠ o + 2 by omega) zK41
        have zK50 := up_off ze48 (show o + 1 ≠ o + 2 by omega) zK42
        have zK51 := up_at ze48
        have zK52 := up_off ze48 (show o + 5 ≠ o + 2 by omega) zK44
        have zK53 := up_off ze48 (show o + 7 ≠ o + 2 by omega) zK45
        have zK54 := up_off ze48 (show o + 8 ≠ o + 2 by omega) zK46
        refine z_aload_n X 0 dX12_unlikeIn_55 rfl ?_
        refine z_get X fl_X12_13_12 dX12_unlikeIn_56 zK49 rfl ?_
        refine z_iconst (v := 5) X dX12_unlikeIn_59 (by decide) ?_
        refine z_aload_n X 0 dX12_unlikeIn_60 rfl ?_
        refine z_get X fl_X12_7_12 dX12_unlikeIn_61 zK49 rfl ?_
        refine z_bipush (v := 40) X dX12_unlikeIn_64 (by decide) ?_
        refine z_iconst (v := 3) X dX12_unlikeIn_66 (by decide) ?_
        refine z_iload_n X 1 dX12_unlikeIn_67 rfl ?_
        refine z_imul X dX12_unlikeIn_68 ?_
        refine z_toe (y := nI (3 * b)) (pk_mul (3) (b)) ?_
        refine z_iadd X dX12_unlikeIn_69 ?_
        refine z_toe (y := nI (40 + (3 * b))) (nI_add (40) (3 * b)) ?_
        refine z_iconst (v := 2) X dX12_unlikeIn_70 (by decide) ?_
        refine z_iadd X dX12_unlikeIn_71 ?_
        refine z_toe (y := nI ((40 + (3 * b)) + 2)) (nI_add (40 + (3 * b)) (2)) ?_
        refine z_iald2 (v := d ((40 + (3 * b)) + 2)) X dX12_unlikeIn_72 zK50 (vp_in_nI (n := (40 + (3 * b)) + 2) (by omega) (by omega)) (congrArg d (nI_clamp (n := (40 + (3 * b)) + 2) (by omega))) ?_
        refine z_iast X dX12_unlikeIn_73 zK51 (vp_in_nI (n := 5) (by omega) (by omega)) (congrArg (fun z => va_up zh47 (o + 2) (arI κ 340 (upd (upd (upd (bgn d) 6 (d (40 + (3 * b)))) 7 (d ((40 + (3 * b)) + 1))) z (d ((40 + (3 * b)) + 2))))) (nI_clamp (n := 5) (by omega))) ?_
        obtain ⟨zh55, ze56⟩ : ∃ z : Mm, z = va_up zh47 (o + 2) (arI κ 340 (upd (upd (upd (bgn d) 6 (d (40 + (3 * b)))) 7 (d ((40 + (3 * b)) + 1))) 5 (d ((40 + (3 * b)) + 2)))) := ⟨_, rfl⟩
        refine z_heap (h' := zh55) ze56.symm ?_
        have zK57 := up_off ze56 (show o ≠ o + 2 by omega) zK49
        have zK58 := up_off ze56 (show o + 1 ≠ o + 2 by omega) zK50
        have zK59 := up_at ze56
        have zK60 := up_off ze56 (show o + 5 ≠ o + 2 by omega) zK52
        have zK61 := up_off ze56 (show o + 7 ≠ o + 2 by omega) zK53
        have zK62 := up_off ze56 (show o + 8 ≠ o + 2 by omega) zK54
        refine z_aload_n X 0 dX12_unlikeIn_74 rfl ?_
        refine z_get X fl_X12_13_12 dX12_unlikeIn_75 zK57 rfl ?_
        refine z_bipush (v := 10) X dX12_unlikeIn_78 (by decide) ?_
        refine z_iconst (v := 1) X dX12_unlikeIn_80 (by decide) ?_
        refine z_iload_n X 2 dX12_unlikeIn_81 rfl ?_
        refine z_ishl X dX12_unlikeIn_82 ?_
        refine z_iast X dX12_unlikeIn_83 zK59 (vp_in_nI (n := 10) (by omega) (by omega)) (congrArg (fun z => va_up zh55 (o + 2) (arI κ 340 (upd (upd (upd (upd (bgn d) 6 (d (40 + (3 * b)))) 7 (d ((40 + (3 * b)) + 1))) 5 (d ((40 + (3 * b)) + 2))) z (1 <<< ((nI i) &&& 31))))) (nI_clamp (n := 10) (by omega))) ?_
        obtain ⟨zh63, ze64⟩ : ∃ z : Mm, z = va_up zh55 (o + 2) (arI κ 340 (upd (upd (upd (upd (bgn d) 6 (d (40 + (3 * b)))) 7 (d ((40 + (3 * b)) + 1))) 5 (d ((40 + (3 * b)) + 2))) 10 (1 <<< ((nI i) &&& 31)))) := ⟨_, rfl⟩
        refine z_heap (h' := zh63) ze64.symm ?_
        have zK65 := up_off ze64 (show o ≠ o + 2 by omega) zK57
        have zK66 := up_off ze64 (show o + 1 ≠ o + 2 by omega) zK58
        have zK67 := up_at ze64
        have zK68 := up_off ze64 (show o + 5 ≠ o + 2 by omega) zK60
        have zK69 := up_off ze64 (show o + 7 ≠ o + 2 by omega) zK61
        have zK70 := up_off ze64 (show o + 8 ≠ o + 2 by omega) zK62
        refine z_aload_n X 0 dX12_unlikeIn_84 rfl ?_
        refine z_aload_n X 0 dX12_unlikeIn_85 rfl ?_
        refine z_get X fl_X12_232_12 dX12_unlikeIn_86 zK65 rfl ?_
        refine z_callV X (r_goesAhead (κ := κ) (n := n) (o := (o)) (v := (v)) (d := (d)) (m := (upd (upd (upd (upd (bgn d) 6 (d (40 + (3 * b)))) 7 (d ((40 + (3 * b)) + 1))) 5 (d ((40 + (3 * b)) + 2))) 10 (1 <<< ((nI i) &&& 31)))) (nm := (nm2)) (nc := (nc)) (im := (im)) (ba := (ba2)) (at_ := (at2)) (sz := (sz2)) (fa := (fa2)) (op := (op2)) (rm := (rm)) (ti := (nI v)) (tm := (tm)) (wh := (wh)) zK65 zK66 zK67 zK68 (q8) (lnOk_upd (lnOk_upd (lnOk_upd (lnOk_upd (bgn_ok d) (by omega)) (by omega)) (by omega)) (by omega)) ((pk_un (by omega)).trans ((pk_un (by omega)).trans ((pk_un (by omega)).trans ((pk_un (by omega)).trans ((bgn_off (by omega)).trans q4))))) (by first | assumption | omega) (by first | assumption | omega)) mk_X12_goesAhead dX12_unlikeIn_89 wd_1211 wd_1213 wd_43 rfl zK65 rfl rfl rfl (Nat.le_of_ble_eq_true rfl) (Nat.le_of_ble_eq_true rfl) (Nat.le_of_ble_eq_true rfl) (by omega) (by omega) (fun q zh77 zm79 zp80 => ?_)
        obtain ⟨ba'71, at'72, sz'73, fa'74, op'75, nm'76, rfl, ze78, zn81⟩ := zp80
        subst zm79
        refine z_st (st' := []) rfl ?_
        have zK82 : zh77 o = some (.inr (12, [.ref (o + 1), .ref (o + 2), .ref (o + 3), .int im, .ref (o + 4), .int ba'71, .int at'72, .int sz'73, .int fa'74, .int op'75, .ref (o + 5), .ref (o + 6), .int rm, .ref (o + 7), .ref (o + 8), .int ((nI v)), .ref (o + 9), .int tm, .int wh, .ref (o + 10), .ref (o + 11), .ref (o + 12), .ref (o + 13)])) := by rw [ze78]; rw [va_up_ne _ _ (show o ≠ o + 2 by omega)]; rw [va_up_ne _ _ (show o ≠ o + 5 by omega)]; exact va_up_self _ _ _
        have zK83 : zh77 (o + 1) = arI κ 340 d := by rw [ze78]; rw [va_up_ne _ _ (show o + 1 ≠ o + 2 by omega)]; rw [va_up_ne _ _ (show o + 1 ≠ o + 5 by omega)]; rw [va_up_ne _ _ (show o + 1 ≠ o by omega)]; exact zK66
        have zK84 : zh77 (o + 2) = arI κ 340 (gbyN (Tx d) tx v (upd (upd (upd (upd (bgn d) 6 (d (40 + (3 * b)))) 7 (d ((40 + (3 * b)) + 1))) 5 (d ((40 + (3 * b)) + 2))) 10 (1 <<< ((nI i) &&& 31)))) := by rw [ze78]; exact va_up_self _ _ _
        have zK85 : zh77 (o + 5) = arI κ 3 nm'76 := by rw [ze78]; rw [va_up_ne _ _ (show o + 5 ≠ o + 2 by omega)]; exact va_up_self _ _ _
        have zK86 : zh77 (o + 7) = arI κ 6 lo2 := by rw [ze78]; rw [va_up_ne _ _ (show o + 7 ≠ o + 2 by omega)]; rw [va_up_ne _ _ (show o + 7 ≠ o + 5 by omega)]; rw [va_up_ne _ _ (show o + 7 ≠ o by omega)]; exact zK69
        have zK87 : zh77 (o + 8) = arI κ 240 wd2 := by rw [ze78]; rw [va_up_ne _ _ (show o + 8 ≠ o + 2 by omega)]; rw [va_up_ne _ _ (show o + 8 ≠ o + 5 by omega)]; rw [va_up_ne _ _ (show o + 8 ≠ o by omega)]; exact zK70
        refine z_aload_n X 0 dX12_unlikeIn_92 rfl ?_
        refine z_get X fl_X12_28_12 dX12_unlikeIn_93 zK82 rfl ?_
        refine z_iload_n X 2 dX12_unlikeIn_96 rfl ?_
        refine z_aload_n X 0 dX12_unlikeIn_97 rfl ?_
        refine z_get X fl_X12_13_12 dX12_unlikeIn_98 zK82 rfl ?_
        refine z_iconst (v := 1) X dX12_unlikeIn_101 (by decide) ?_
        refine z_iald2 (v := (gbyN (Tx d) tx v (upd (upd (upd (upd (bgn d) 6 (d (40 + (3 * b)))) 7 (d ((40 + (3 * b)) + 1))) 5 (d ((40 + (3 * b)) + 2))) 10 (1 <<< ((nI i) &&& 31)))) 1) X dX12_unlikeIn_102 zK84 (vp_in_nI (n := 1) (by omega) (by omega)) (congrArg (gbyN (Tx d) tx v (upd (upd (upd (upd (bgn d) 6 (d (40 + (3 * b)))) 7 (d ((40 + (3 * b)) + 1))) 5 (d ((40 + (3 * b)) + 2))) 10 (1 <<< ((nI i) &&& 31)))) (nI_clamp (n := 1) (by omega))) ?_
        refine z_iast X dX12_unlikeIn_103 zK86 (vp_in_nI (n := i) (by omega) (by omega)) (congrArg (fun z => va_up zh77 (o + 7) (arI κ 6 (upd lo2 z ((gbyN (Tx d) tx v (upd (upd (upd (upd (bgn d) 6 (d (40 + (3 * b)))) 7 (d ((40 + (3 * b)) + 1))) 5 (d ((40 + (3 * b)) + 2))) 10 (1 <<< ((nI i) &&& 31)))) 1)))) (nI_clamp (n := i) (by omega))) ?_
        obtain ⟨zh88, ze89⟩ : ∃ z : Mm, z = va_up zh77 (o + 7) (arI κ 6 (upd lo2 i ((gbyN (Tx d) tx v (upd (upd (upd (upd (bgn d) 6 (d (40 + (3 * b)))) 7 (d ((40 + (3 * b)) + 1))) 5 (d ((40 + (3 * b)) + 2))) 10 (1 <<< ((nI i) &&& 31)))) 1))) := ⟨_, rfl⟩
        refine z_heap (h' := zh88) ze89.symm ?_
        have zK90 := up_off ze89 (show o ≠ o + 7 by omega) zK82
        have zK91 := up_off ze89 (show o + 1 ≠ o + 7 by omega) zK83
        have zK92 := up_off ze89 (show o + 2 ≠ o + 7 by omega) zK84
        have zK93 := up_off ze89 (show o + 5 ≠ o + 7 by omega) zK85
        have zK94 := up_at ze89
        have zK95 := up_off ze89 (show o + 8 ≠ o + 7 by omega) zK87
        refine z_iconst (v := 0) X dX12_unlikeIn_104 (by decide) ?_
        refine z_istore_n (ls' := [(3, .int 0), (0, .ref o), (1, .int (nI b)), (2, .int (nI i))]) X dX12_unlikeIn_105 (by decide) rfl ?_
        have L106 : ∀ (jj : Nat) (hh106 : Mm)  (j : Nat) (wd3 : Nat → Int32), (40 - j < jj) → (hh106 = va_up zh88 (o + 8) (arI κ 240 wd3)) → (hj : j ≤ 40) → (hwo : ∀ k, k < i → ∀ c, c < 40 → wd3 (40 * k + c) = triE (Tx d) tx d v b k (100 + c)) → (hwi : ∀ c, c < j → wd3 (40 * i + c) = triE (Tx d) tx d v b i (100 + c)) → Z κ G 5 106 [(0, .ref o), (1, .int (nI b)), (2, .int (nI i)), (3, .int (nI j))] [] hh106 n 0 (0) := by
          intro jj
          induction jj with
          | zero => intro hh106 j wd3 hmu; exact absurd hmu (Nat.not_lt_zero _)
          | succ jj ih106 =>
            intro hh106 j wd3 hmu he106 hj hwo hwi
            have zK96 : hh106 o = some (.inr (12, [.ref (o + 1), .ref (o + 2), .ref (o + 3), .int im, .ref (o + 4), .int ba'71, .int at'72, .int sz'73, .int fa'74, .int op'75, .ref (o + 5), .ref (o + 6), .int rm, .ref (o + 7), .ref (o + 8), .int ((nI v)), .ref (o + 9), .int tm, .int wh, .ref (o + 10), .ref (o + 11), .ref (o + 12), .ref (o + 13)])) := by rw [he106]; rw [va_up_ne _ _ (show o ≠ o + 8 by omega)]; exact zK90
            have zK97 : hh106 (o + 1) = arI κ 340 d := by rw [he106]; rw [va_up_ne _ _ (show o + 1 ≠ o + 8 by omega)]; exact zK91
            have zK98 : hh106 (o + 2) = arI κ 340 (gbyN (Tx d) tx v (upd (upd (upd (upd (bgn d) 6 (d (40 + (3 * b)))) 7 (d ((40 + (3 * b)) + 1))) 5 (d ((40 + (3 * b)) + 2))) 10 (1 <<< ((nI i) &&& 31)))) := by rw [he106]; rw [va_up_ne _ _ (show o + 2 ≠ o + 8 by omega)]; exact zK92
            have zK99 : hh106 (o + 5) = arI κ 3 nm'76 := by rw [he106]; rw [va_up_ne _ _ (show o + 5 ≠ o + 8 by omega)]; exact zK93
            have zK100 : hh106 (o + 7) = arI κ 6 (upd lo2 i ((gbyN (Tx d) tx v (upd (upd (upd (upd (bgn d) 6 (d (40 + (3 * b)))) 7 (d ((40 + (3 * b)) + 1))) 5 (d ((40 + (3 * b)) + 2))) 10 (1 <<< ((nI i) &&& 31)))) 1)) := by rw [he106]; rw [va_up_ne _ _ (show o + 7 ≠ o + 8 by omega)]; exact zK94
            have zK101 : hh106 (o + 8) = arI κ 240 wd3 := by rw [he106]; exact va_up_self _ _ _
            refine z_iload_n X 3 dX12_unlikeIn_106 rfl ?_
            refine z_bipush (v := 40) X dX12_unlikeIn_107 (by decide) ?_
            refine z_icmp_ge X 138 dX12_unlikeIn_109 (by decide) (fun zc102 => ?_) (fun zc102 => ?_)
            · try replace zc102 := (nI_leI (a := 40) (b := j) (by omega) (by omega)).mp zc102
              refine z_iinc (v := nI (i + 1)) (ls' := [(2, .int (nI (i + 1))), (0, .ref o), (1, .int (nI b)), (3, .int (nI j))]) X 2 dX12_unlikeIn_138 rfl (nI_1 (i)) (by decide) rfl ?_
              refine z_goto X 2 dX12_unlikeIn_141 (by decide) ?_
              refine z_sub (ls' := [(0, .ref o), (1, .int (nI b)), (2, .int (nI (i + 1)))]) [1, 2, 0] rfl ?_
              exact ih2 _ (i + 1) ba'71 at'72 sz'73 fa'74 op'75 nm'76 (gbyN (Tx d) tx v (upd (upd (upd (upd (bgn d) 6 (d (40 + (3 * b)))) 7 (d ((40 + (3 * b)) + 1))) 5 (d ((40 + (3 * b)) + 2))) 10 (1 <<< ((nI i) &&& 31)))) (upd lo2 i ((gbyN (Tx d) tx v (upd (upd (upd (upd (bgn d) 6 (d (40 + (3 * b)))) 7 (d ((40 + (3 * b)) + 1))) 5 (d ((40 + (3 * b)) + 2))) 10 (1 <<< ((nI i) &&& 31)))) 1)) wd3 (by omega) (by funext zz; by_cases zq4 : zz = o + 8; (rw [zq4, va_up_self]; exact zK101); by_cases zq3 : zz = o + 7; (rw [zq3, va_up_ne _ _ (show o + 7 ≠ o + 8 by omega), va_up_self]; exact zK100); by_cases zq2 : zz = o + 2; (rw [zq2, va_up_ne _ _ (show o + 2 ≠ o + 8 by omega), va_up_ne _ _ (show o + 2 ≠ o + 7 by omega), va_up_self]; exact zK98); by_cases zq1 : zz = o + 5; (rw [zq1, va_up_ne _ _ (show o + 5 ≠ o + 8 by omega), va_up_ne _ _ (show o + 5 ≠ o + 7 by omega), va_up_ne _ _ (show o + 5 ≠ o + 2 by omega), va_up_self]; exact zK99); by_cases zq0 : zz = o; (rw [zq0, va_up_ne _ _ (show o ≠ o + 8 by omega), va_up_ne _ _ (show o ≠ o + 7 by omega), va_up_ne _ _ (show o ≠ o + 2 by omega), va_up_ne _ _ (show o ≠ o + 5 by omega), va_up_self]; exact zK96); rw [va_up_ne _ _ zq4, va_up_ne _ _ zq3, va_up_ne _ _ zq2, va_up_ne _ _ zq1, va_up_ne _ _ zq0]; rw [he106, ze89, ze78, ze64, ze56, ze48, ze40, ze29, he2]; simp only [va_up, if_neg zq0, if_neg zq1, if_neg zq2, if_neg zq3, if_neg zq4]) (by first | assumption | rfl | omega) (by intro z hz; by_cases e : z = i; (rw [e]; exact pk_us); exact (pk_un e).trans (hlo z (by omega))) (by intro z hz c hc; by_cases e : z = i; (rw [e]; exact hwi c (by omega)); exact hwo z (by omega) c hc)
            · try replace zc102 := mt (nI_leI (a := 40) (b := j) (by omega) (by omega)).mpr zc102
              refine z_aload_n X 0 dX12_unlikeIn_112 rfl ?_
              refine z_get X fl_X12_31_12 dX12_unlikeIn_113 zK96 rfl ?_
              refine z_bipush (v := 40) X dX12_unlikeIn_116 (by decide) ?_
              refine z_iload_n X 2 dX12_unlikeIn_118 rfl ?_
              refine z_imul X dX12_unlikeIn_119 ?_
              refine z_toe (y := nI (40 * i)) (pk_mul (40) (i)) ?_
              refine z_iload_n X 3 dX12_unlikeIn_120 rfl ?_
              refine z_iadd X dX12_unlikeIn_121 ?_
              refine z_toe (y := nI ((40 * i) + j)) (nI_add (40 * i) (j)) ?_
              refine z_aload_n X 0 dX12_unlikeIn_122 rfl ?_
              refine z_get X fl_X12_13_12 dX12_unlikeIn_123 zK96 rfl ?_
              refine z_bipush (v := 100) X dX12_unlikeIn_126 (by decide) ?_
              refine z_iload_n X 3 dX12_unlikeIn_128 rfl ?_
              refine z_iadd X dX12_unlikeIn_129 ?_
              refine z_toe (y := nI (100 + j)) (nI_add (100) (j)) ?_
              refine z_iald2 (v := (gbyN (Tx d) tx v (upd (upd (upd (upd (bgn d) 6 (d (40 + (3 * b)))) 7 (d ((40 + (3 * b)) + 1))) 5 (d ((40 + (3 * b)) + 2))) 10 (1 <<< ((nI i) &&& 31)))) (100 + j)) X dX12_unlikeIn_130 zK98 (vp_in_nI (n := 100 + j) (by omega) (by omega)) (congrArg (gbyN (Tx d) tx v (upd (upd (upd (upd (bgn d) 6 (d (40 + (3 * b)))) 7 (d ((40 + (3 * b)) + 1))) 5 (d ((40 + (3 * b)) + 2))) 10 (1 <<< ((nI i) &&& 31)))) (nI_clamp (n := 100 + j) (by omega))) ?_
              refine z_iast X dX12_unlikeIn_131 zK101 (vp_in_nI (n := (40 * i) + j) (by omega) (by omega)) (congrArg (fun z => va_up hh106 (o + 8) (arI κ 240 (upd wd3 z ((gbyN (Tx d) tx v (upd (upd (upd (upd (bgn d) 6 (d (40 + (3 * b)))) 7 (d ((40 + (3 * b)) + 1))) 5 (d ((40 + (3 * b)) + 2))) 10 (1 <<< ((nI i) &&& 31)))) (100 + j))))) (nI_clamp (n := (40 * i) + j) (by omega))) ?_
              obtain ⟨zh103, ze104⟩ : ∃ z : Mm, z = va_up hh106 (o + 8) (arI κ 240 (upd wd3 ((40 * i) + j) ((gbyN (Tx d) tx v (upd (upd (upd (upd (bgn d) 6 (d (40 + (3 * b)))) 7 (d ((40 + (3 * b)) + 1))) 5 (d ((40 + (3 * b)) + 2))) 10 (1 <<< ((nI i) &&& 31)))) (100 + j)))) := ⟨_, rfl⟩
              refine z_heap (h' := zh103) ze104.symm ?_
              have zK105 := up_off ze104 (show o ≠ o + 8 by omega) zK96
              have zK106 := up_off ze104 (show o + 1 ≠ o + 8 by omega) zK97
              have zK107 := up_off ze104 (show o + 2 ≠ o + 8 by omega) zK98
              have zK108 := up_off ze104 (show o + 5 ≠ o + 8 by omega) zK99
              have zK109 := up_off ze104 (show o + 7 ≠ o + 8 by omega) zK100
              have zK110 := up_at ze104
              refine z_iinc (v := nI (j + 1)) (ls' := [(3, .int (nI (j + 1))), (0, .ref o), (1, .int (nI b)), (2, .int (nI i))]) X 3 dX12_unlikeIn_132 rfl (nI_1 (j)) (by decide) rfl ?_
              refine z_goto X 106 dX12_unlikeIn_135 (by decide) ?_
              refine z_sub (ls' := [(0, .ref o), (1, .int (nI b)), (2, .int (nI i)), (3, .int (nI (j + 1)))]) [1, 2, 3, 0] rfl ?_
              exact ih106 _ (j + 1) (upd wd3 ((40 * i) + j) ((gbyN (Tx d) tx v (upd (upd (upd (upd (bgn d) 6 (d (40 + (3 * b)))) 7 (d ((40 + (3 * b)) + 1))) 5 (d ((40 + (3 * b)) + 2))) 10 (1 <<< ((nI i) &&& 31)))) (100 + j))) (by omega) (by rw [ze104, he106, up_up]) (by first | assumption | rfl | omega) (by intro z hz c hc; exact (pk_un (by omega)).trans (hwo z hz c hc)) (by intro z hz; by_cases e : z = j; (rw [e]; exact pk_us); exact (pk_un (by omega)).trans (hwi z (by omega)))
        refine z_sub (ls' := [(0, .ref o), (1, .int (nI b)), (2, .int (nI i)), (3, .int 0)]) [1, 2, 3, 0] rfl ?_
        exact L106 _ _ 0 wd2 (Nat.lt_succ_self _) (by exact (up_same _ _ zK95).symm) (by first | assumption | rfl | omega) (by exact hwd) (by intro z hz; omega)
  refine z_sub (ls' := [(0, .ref o), (1, .int (nI b)), (2, .int 0)]) [1, 2, 0] rfl ?_
  exact L2 _ _ 0 ba at_ sz fa op nm e lo wd (Nat.lt_succ_self _) (by rw [up_same _ _ K0, up_same _ _ K3, up_same _ _ K2, up_same _ _ K4, up_same _ _ K5]) (by first | assumption | rfl | omega) (by intro z hz; omega) (by intro z hz; omega)
def txF (f : Nat → Int32) : Nat → Nat × Int32
  | 0 => (0, -1)
  | b + 1 => if (txF f b).2 < f b then (b, f b) else txF f b
theorem txF_t {f : Nat → Int32} {i : Nat} (h : (txF f i).2 < f i) : txF f (i + 1) = (i, f i) := if_pos h
theorem txF_f {f : Nat → Int32} {i : Nat} (h : ¬ (txF f i).2 < f i) : txF f (i + 1) = txF f i := if_neg h
def opTries (T : Nat → Nat → Int32) (tx : Nat → Nat) (d : Nat → Int32) (nc nb : Nat) (v : Int32) : Nat × Int32 := if ¬ (0 ≤ v.toInt ∧ v.toInt ≤ 60) then (1, 0) else if nb = 0 then (2, 0) else (0, nI (txF (triV T tx d v.toNatClampNeg nc) nb).1)
theorem opTries_0 {T : Nat → Nat → Int32} {tx : Nat → Nat} {d : Nat → Int32} {v nc nb : Nat} (h : v ≤ 60) (hb : ¬ nb = 0) : opTries T tx d nc nb (nI v) = (0, nI (txF (triV T tx d v nc) nb).1) := by
  unfold opTries
  rw [i_nI (by omega), nI_clamp (by omega), if_neg (by omega), if_neg hb]
set_option maxHeartbeats 4000000 in
set_option maxRecDepth 100000 in
theorem r_tries {κ : Wc} {l : Launch} {h : Mm} {n : Nat} {o : Nat} {fo : Nat → Int32} {d : Nat → Int32} {e : Nat → Int32} {nm : Nat → Int32} {lo : Nat → Int32} {wd : Nat → Int32} {nc : Nat} {nb : Nat} {tx : Nat → Nat} {im : Int32} {ba : Int32} {at_ : Int32} {sz : Int32} {fa : Int32} {op : Int32} {rm : Int32} {ti : Int32} {tm : Int32} {wh : Int32} {v : Int32} (K0 : h o = some (.inr (12, [.ref (o + 1), .ref (o + 2), .ref (o + 3), .int im, .ref (o + 4), .int ba, .int at_, .int sz, .int fa, .int op, .ref (o + 5), .ref (o + 6), .int rm, .ref (o + 7), .ref (o + 8), .int ti, .ref (o + 9), .int tm, .int wh, .ref (o + 10), .ref (o + 11), .ref (o + 12), .ref (o + 13)]))) (K1 : h (o + 4) = arI κ 6 fo) (K2 : h (o + 1) = arI κ 340 d) (K3 : h (o + 2) = arI κ 340 e) (K4 : h (o + 5) = arI κ 3 nm) (K5 : h (o + 7) = arI κ 6 lo) (K6 : h (o + 8) = arI κ 240 wd) (q8 : ∀ u, u < 2 → d (60 + u) = nI (tx u) ∧ tx u ≤ 50) (hOk : lnOk d) (q4 : d 11 = nI nc) (q5 : nc ≤ 6) (p1 : d 12 = nI nb) (p2 : nb ≤ 5) : Con κ l yX12_tries cX12_tries 6 (some .int) 46 0 0 [.ref o, .int v] h n (fun q h' n' => ∃ ba' : Int32, ∃ at' : Int32, ∃ sz' : Int32, ∃ fa' : Int32, ∃ op' : Int32, ∃ nm' : Nat → Int32, ∃ ti' : Int32, ∃ e' : Nat → Int32, ∃ lo' : Nat → Int32, ∃ wd' : Nat → Int32, q = some (.int (ansOf (opTries (Tx d) tx d nc nb v))) ∧ h' = va_up (va_up (va_up (va_up (va_up (va_up h o (some (.inr (12, [.ref (o + 1), .ref (o + 2), .ref (o + 3), .int im, .ref (o + 4), .int ba', .int at', .int sz', .int fa', .int op', .ref (o + 5), .ref (o + 6), .int rm, .ref (o + 7), .ref (o + 8), .int ti', .ref (o + 9), .int tm, .int wh, .ref (o + 10), .ref (o + 11), .ref (o + 12), .ref (o + 13)])))) (o + 5) (arI κ 3 nm')) (o + 2) (arI κ 340 e')) (o + 7) (arI κ 6 lo')) (o + 8) (arI κ 240 wd')) (o + 4) (arI κ 6 (bump (opTries (Tx d) tx d nc nb v) fo)) ∧ n' = n) := by
  refine Con.of mk_X12_tries (Nat.le_of_ble_eq_true rfl) (fun G hG X E => ?_)
  subst hG
  refine z_ls (ls' := [(0, .ref o), (1, .int v)]) rfl ?_
  refine z_iload_n X 1 dX12_tries_0 rfl ?_
  refine z_callS X (r_isAhead (κ := κ) (n := n) (v := (v))  ) mk_X12_isAhead dX12_tries_1 wd_1200 wd_1201 rfl rfl (Nat.le_of_ble_eq_true rfl) (Nat.le_of_ble_eq_true rfl) (Nat.le_of_ble_eq_true rfl) (by omega) (by omega) (fun q zh1 zm3 zp4 => ?_)
  obtain ⟨rfl, ze2, zn5⟩ := zp4
  subst zm3
  subst zh1
  refine z_st (st' := [.int (b2i (0 ≤ (v : Int32).toInt ∧ (v : Int32).toInt ≤ 60))]) rfl ?_
  refine z_if_ne X 13 dX12_tries_4 (by decide) (fun zc6 => ?_) (fun zc6 => ?_)
  · replace zc6 := b2i_t zc6
    obtain ⟨vk, hvk, rfl⟩ := ix_of (c := v) (len := 61) (by omega) (by omega)
    refine z_aload_n X 0 dX12_tries_13 rfl ?_
    refine z_get X fl_X12_7_12 dX12_tries_14 K0 rfl ?_
    refine z_bipush (v := 12) X dX12_tries_17 (by decide) ?_
    refine z_iald2 (v := d 12) X dX12_tries_19 K2 (vp_in_nI (n := 12) (by omega) (by omega)) (congrArg d (nI_clamp (n := 12) (by omega))) ?_
    refine z_toe (y := nI nb) (p1) ?_
    refine z_if_ne X 29 dX12_tries_20 (by decide) (fun zc7 => ?_) (fun zc7 => ?_)
    · try replace zc7 := mt (nI_eq (a := nb) (b := 0) (by omega) (by omega)).mpr zc7
      refine z_aload_n X 0 dX12_tries_29 rfl ?_
      refine z_iload_n X 1 dX12_tries_30 rfl ?_
      refine z_put X fp_X12_232_12 dX12_tries_31 K0 (by first | rfl | decide) (by first | rfl | decide) (Nat.le_of_ble_eq_true rfl) rfl ?_
      obtain ⟨zh8, ze9⟩ : ∃ z : Mm, z = va_up h o (some (.inr (12, [.ref (o + 1), .ref (o + 2), .ref (o + 3), .int im, .ref (o + 4), .int ba, .int at_, .int sz, .int fa, .int op, .ref (o + 5), .ref (o + 6), .int rm, .ref (o + 7), .ref (o + 8), .int (nI vk), .ref (o + 9), .int tm, .int wh, .ref (o + 10), .ref (o + 11), .ref (o + 12), .ref (o + 13)]))) := ⟨_, rfl⟩
      refine z_heap (h' := zh8) ze9.symm ?_
      have zK10 := up_at ze9
      have zK11 := up_off ze9 (show o + 4 ≠ o by omega) K1
      have zK12 := up_off ze9 (show o + 1 ≠ o by omega) K2
      have zK13 := up_off ze9 (show o + 2 ≠ o by omega) K3
      have zK14 := up_off ze9 (show o + 5 ≠ o by omega) K4
      have zK15 := up_off ze9 (show o + 7 ≠ o by omega) K5
      have zK16 := up_off ze9 (show o + 8 ≠ o by omega) K6
      refine z_iconst (v := 0) X dX12_tries_34 (by decide) ?_
      refine z_istore_n (ls' := [(2, .int 0), (0, .ref o), (1, .int (nI vk))]) X dX12_tries_35 (by decide) rfl ?_
      refine z_iconst (v := -1) X dX12_tries_36 (by decide) ?_
      refine z_istore_n (ls' := [(3, .int ((-1))), (2, .int 0), (0, .ref o), (1, .int (nI vk))]) X dX12_tries_37 (by decide) rfl ?_
      refine z_iconst (v := 0) X dX12_tries_38 (by decide) ?_
      refine z_istore (ls' := [(4, .int 0), (3, .int ((-1))), (2, .int 0), (0, .ref o), (1, .int (nI vk))]) X dX12_tries_39 (by decide) rfl ?_
      have L41 : ∀ (jj : Nat) (hh41 : Mm)  (i : Nat) (ba2 : Int32) (at2 : Int32) (sz2 : Int32) (fa2 : Int32) (op2 : Int32) (nm2 : Nat → Int32) (e2 : Nat → Int32) (lo2 : Nat → Int32) (wd2 : Nat → Int32) (bs : Int32) (ms : Int32), (nb - i < jj) → (hh41 = va_up (va_up (va_up (va_up (va_up h o (some (.inr (12, [.ref (o + 1), .ref (o + 2), .ref (o + 3), .int im, .ref (o + 4), .int ba2, .int at2, .int sz2, .int fa2, .int op2, .ref (o + 5), .ref (o + 6), .int rm, .ref (o + 7), .ref (o + 8), .int (nI vk), .ref (o + 9), .int tm, .int wh, .ref (o + 10), .ref (o + 11), .ref (o + 12), .ref (o + 13)])))) (o + 5) (arI κ 3 nm2)) (o + 2) (arI κ 340 e2)) (o + 7) (arI κ 6 lo2)) (o + 8) (arI κ 240 wd2)) → (hi : i ≤ nb) → (hB : bs = nI (txF (triV (Tx d) tx d vk nc) i).1) → (hM : ms = (txF (triV (Tx d) tx d vk nc) i).2) → Z κ G 6 41 [(0, .ref o), (1, .int (nI vk)), (2, .int bs), (3, .int ms), (4, .int (nI i))] [] hh41 n 0 (0) := by
        intro jj
        induction jj with
        | zero => intro hh41 i ba2 at2 sz2 fa2 op2 nm2 e2 lo2 wd2 bs ms hmu; exact absurd hmu (Nat.not_lt_zero _)
        | succ jj ih41 =>
          intro hh41 i ba2 at2 sz2 fa2 op2 nm2 e2 lo2 wd2 bs ms hmu he41 hi hB hM
          have zK17 : hh41 o = some (.inr (12, [.ref (o + 1), .ref (o + 2), .ref (o + 3), .int im, .ref (o + 4), .int ba2, .int at2, .int sz2, .int fa2, .int op2, .ref (o + 5), .ref (o + 6), .int rm, .ref (o + 7), .ref (o + 8), .int (nI vk), .ref (o + 9), .int tm, .int wh, .ref (o + 10), .ref (o + 11), .ref (o + 12), .ref (o + 13)])) := by rw [he41]; rw [va_up_ne _ _ (show o ≠ o + 8 by omega)]; rw [va_up_ne _ _ (show o ≠ o + 7 by omega)]; rw [va_up_ne _ _ (show o ≠ o + 2 by omega)]; rw [va_up_ne _ _ (show o ≠ o + 5 by omega)]; exact va_up_self _ _ _
          have zK18 : hh41 (o + 4) = arI κ 6 fo := by rw [he41]; rw [va_up_ne _ _ (show o + 4 ≠ o + 8 by omega)]; rw [va_up_ne _ _ (show o + 4 ≠ o + 7 by omega)]; rw [va_up_ne _ _ (show o + 4 ≠ o + 2 by omega)]; rw [va_up_ne _ _ (show o + 4 ≠ o + 5 by omega)]; rw [va_up_ne _ _ (show o + 4 ≠ o by omega)]; exact K1
          have zK19 : hh41 (o + 1) = arI κ 340 d := by rw [he41]; rw [va_up_ne _ _ (show o + 1 ≠ o + 8 by omega)]; rw [va_up_ne _ _ (show o + 1 ≠ o + 7 by omega)]; rw [va_up_ne _ _ (show o + 1 ≠ o + 2 by omega)]; rw [va_up_ne _ _ (show o + 1 ≠ o + 5 by omega)]; rw [va_up_ne _ _ (show o + 1 ≠ o by omega)]; exact K2
          have zK20 : hh41 (o + 2) = arI κ 340 e2 := by rw [he41]; rw [va_up_ne _ _ (show o + 2 ≠ o + 8 by omega)]; rw [va_up_ne _ _ (show o + 2 ≠ o + 7 by omega)]; exact va_up_self _ _ _
          have zK21 : hh41 (o + 5) = arI κ 3 nm2 := by rw [he41]; rw [va_up_ne _ _ (show o + 5 ≠ o + 8 by omega)]; rw [va_up_ne _ _ (show o + 5 ≠ o + 7 by omega)]; rw [va_up_ne _ _ (show o + 5 ≠ o + 2 by omega)]; exact va_up_self _ _ _
          have zK22 : hh41 (o + 7) = arI κ 6 lo2 := by rw [he41]; rw [va_up_ne _ _ (show o + 7 ≠ o + 8 by omega)]; exact va_up_self _ _ _
          have zK23 : hh41 (o + 8) = arI κ 240 wd2 := by rw [he41]; exact va_up_self _ _ _
          refine z_iload X 4 dX12_tries_41 rfl ?_
          refine z_aload_n X 0 dX12_tries_43 rfl ?_
          refine z_get X fl_X12_7_12 dX12_tries_44 zK17 rfl ?_
          refine z_bipush (v := 12) X dX12_tries_47 (by decide) ?_
          refine z_iald2 (v := d 12) X dX12_tries_49 zK19 (vp_in_nI (n := 12) (by omega) (by omega)) (congrArg d (nI_clamp (n := 12) (by omega))) ?_
          refine z_toe (y := nI nb) (p1) ?_
          refine z_icmp_ge X 93 dX12_tries_50 (by decide) (fun zc24 => ?_) (fun zc24 => ?_)
          · try replace zc24 := (nI_leI (a := nb) (b := i) (by omega) (by omega)).mp zc24
            refine z_iload_n X 2 dX12_tries_93 rfl ?_
            refine z_iret X E dX12_tries_94 (by omega) (by omega) ⟨ba2, at2, sz2, fa2, op2, nm2, (nI vk), e2, lo2, wd2, ?_, ?_, ?_⟩
            · (have hop : opTries (Tx d) tx d nc nb (nI vk) = (0, bs) := by (rw [opTries_0 (by omega) (by assumption), hB, show i = nb by omega])); rw [hop, ansOf_0]
            · (have hop : opTries (Tx d) tx d nc nb (nI vk) = (0, bs) := by (rw [opTries_0 (by omega) (by assumption), hB, show i = nb by omega])); rw [hop]; funext zz; by_cases zq5 : zz = o + 4; (rw [zq5, va_up_self]; exact zK18); by_cases zq4 : zz = o + 8; (rw [zq4, va_up_ne _ _ (show o + 8 ≠ o + 4 by omega), va_up_self]; exact zK23); by_cases zq3 : zz = o + 7; (rw [zq3, va_up_ne _ _ (show o + 7 ≠ o + 4 by omega), va_up_ne _ _ (show o + 7 ≠ o + 8 by omega), va_up_self]; exact zK22); by_cases zq2 : zz = o + 2; (rw [zq2, va_up_ne _ _ (show o + 2 ≠ o + 4 by omega), va_up_ne _ _ (show o + 2 ≠ o + 8 by omega), va_up_ne _ _ (show o + 2 ≠ o + 7 by omega), va_up_self]; exact zK20); by_cases zq1 : zz = o + 5; (rw [zq1, va_up_ne _ _ (show o + 5 ≠ o + 4 by omega), va_up_ne _ _ (show o + 5 ≠ o + 8 by omega), va_up_ne _ _ (show o + 5 ≠ o + 7 by omega), va_up_ne _ _ (show o + 5 ≠ o + 2 by omega), va_up_self]; exact zK21); by_cases zq0 : zz = o; (rw [zq0, va_up_ne _ _ (show o ≠ o + 4 by omega), va_up_ne _ _ (show o ≠ o + 8 by omega), va_up_ne _ _ (show o ≠ o + 7 by omega), va_up_ne _ _ (show o ≠ o + 2 by omega), va_up_ne _ _ (show o ≠ o + 5 by omega), va_up_self]; exact zK17); rw [va_up_ne _ _ zq5, va_up_ne _ _ zq4, va_up_ne _ _ zq3, va_up_ne _ _ zq2, va_up_ne _ _ zq1, va_up_ne _ _ zq0]; rw [he41]; simp only [va_up, if_neg zq0, if_neg zq1, if_neg zq2, if_neg zq3, if_neg zq4, if_neg zq5]
            · rfl
          · try replace zc24 := mt (nI_leI (a := nb) (b := i) (by omega) (by omega)).mpr zc24
            refine z_aload_n X 0 dX12_tries_53 rfl ?_
            refine z_iload X 4 dX12_tries_54 rfl ?_
            refine z_callV X (r_unlikeIn (κ := κ) (n := n) (o := (o)) (b := (i)) (v := (vk)) (d := (d)) (e := (e2)) (nm := (nm2)) (lo := (lo2)) (wd := (wd2)) (nc := (nc)) (im := (im)) (ba := (ba2)) (at_ := (at2)) (sz := (sz2)) (fa := (fa2)) (op := (op2)) (rm := (rm)) (tm := (tm)) (wh := (wh)) zK17 zK19 zK20 zK21 zK22 zK23 (q8) (by first | assumption | omega) (by first | assumption | omega) (by first | assumption | omega) (by first | assumption | omega) (by first | assumption | omega)) mk_X12_unlikeIn dX12_tries_56 wd_1279 wd_1281 wd_48 rfl zK17 rfl rfl rfl (Nat.le_of_ble_eq_true rfl) (Nat.le_of_ble_eq_true rfl) (Nat.le_of_ble_eq_true rfl) (by omega) (by omega) (fun q zh34 zm36 zp37 => ?_)
            obtain ⟨ba'25, at'26, sz'27, fa'28, op'29, nm'30, e'31, lo'32, wd'33, rfl, ze35, zn38⟩ := zp37
            subst zm36
            refine z_st (st' := [.int (triV (Tx d) tx d vk nc i)]) rfl ?_
            have zK39 : zh34 o = some (.inr (12, [.ref (o + 1), .ref (o + 2), .ref (o + 3), .int im, .ref (o + 4), .int ba'25, .int at'26, .int sz'27, .int fa'28, .int op'29, .ref (o + 5), .ref (o + 6), .int rm, .ref (o + 7), .ref (o + 8), .int (nI vk), .ref (o + 9), .int tm, .int wh, .ref (o + 10), .ref (o + 11), .ref (o + 12), .ref (o + 13)])) := by rw [ze35]; rw [va_up_ne _ _ (show o ≠ o + 8 by omega)]; rw [va_up_ne _ _ (show o ≠ o + 7 by omega)]; rw [va_up_ne _ _ (show o ≠ o + 2 by omega)]; rw [va_up_ne _ _ (show o ≠ o + 5 by omega)]; exact va_up_self _ _ _
            have zK40 : zh34 (o + 4) = arI κ 6 fo := by rw [ze35]; rw [va_up_ne _ _ (show o + 4 ≠ o + 8 by omega)]; rw [va_up_ne _ _ (show o + 4 ≠ o + 7 by omega)]; rw [va_up_ne _ _ (show o + 4 ≠ o + 2 by omega)]; rw [va_up_ne _ _ (show o + 4 ≠ o + 5 by omega)]; rw [va_up_ne _ _ (show o + 4 ≠ o by omega)]; exact zK18
            have zK41 : zh34 (o + 1) = arI κ 340 d := by rw [ze35]; rw [va_up_ne _ _ (show o + 1 ≠ o + 8 by omega)]; rw [va_up_ne _ _ (show o + 1 ≠ o + 7 by omega)]; rw [va_up_ne _ _ (show o + 1 ≠ o + 2 by omega)]; rw [va_up_ne _ _ (show o + 1 ≠ o + 5 by omega)]; rw [va_up_ne _ _ (show o + 1 ≠ o by omega)]; exact zK19
            have zK42 : zh34 (o + 2) = arI κ 340 e'31 := by rw [ze35]; rw [va_up_ne _ _ (show o + 2 ≠ o + 8 by omega)]; rw [va_up_ne _ _ (show o + 2 ≠ o + 7 by omega)]; exact va_up_self _ _ _
            have zK43 : zh34 (o + 5) = arI κ 3 nm'30 := by rw [ze35]; rw [va_up_ne _ _ (show o + 5 ≠ o + 8 by omega)]; rw [va_up_ne _ _ (show o + 5 ≠ o + 7 by omega)]; rw [va_up_ne _ _ (show o + 5 ≠ o + 2 by omega)]; exact va_up_self _ _ _
            have zK44 : zh34 (o + 7) = arI κ 6 lo'32 := by rw [ze35]; rw [va_up_ne _ _ (show o + 7 ≠ o + 8 by omega)]; exact va_up_self _ _ _
            have zK45 : zh34 (o + 8) = arI κ 240 wd'33 := by rw [ze35]; exact va_up_self _ _ _
            refine z_istore (ls' := [(5, .int (triV (Tx d) tx d vk nc i)), (0, .ref o), (1, .int (nI vk)), (2, .int bs), (3, .int ms), (4, .int (nI i))]) X dX12_tries_59 (by decide) rfl ?_
            refine z_iload X 0 dX12_tries_61 rfl ?_
            refine z_iload_n X 4 dX12_tries_63 rfl ?_
            refine z_icmp_le X 72 dX12_tries_64 (by decide) (fun zc46 => ?_) (fun zc46 => ?_)
            · refine z_iload_n X 3 dX12_tries_72 rfl ?_
              refine z_istore_n (ls' := [(2, .int bs), (5, .int (triV (Tx d) tx d vk nc i)), (0, .ref o), (1, .int (nI vk)), (3, .int ms), (4, .int (nI i))]) X dX12_tries_73 (by decide) rfl ?_
              refine z_iload X 1 dX12_tries_74 rfl ?_
              refine z_iload_n X 4 dX12_tries_76 rfl ?_
              refine z_icmp_le X 85 dX12_tries_77 (by decide) (fun zc47 => ?_) (fun zc47 => ?_)
              · refine z_iload_n X 4 dX12_tries_85 rfl ?_
                refine z_istore_n (ls' := [(3, .int ms), (2, .int bs), (5, .int (triV (Tx d) tx d vk nc i)), (0, .ref o), (1, .int (nI vk)), (4, .int (nI i))]) X dX12_tries_86 (by decide) rfl ?_
                refine z_iinc (v := nI (i + 1)) (ls' := [(4, .int (nI (i + 1))), (3, .int ms), (2, .int bs), (5, .int (triV (Tx d) tx d vk nc i)), (0, .ref o), (1, .int (nI vk))]) X 5 dX12_tries_87 rfl (nI_1 (i)) (by decide) rfl ?_
                refine z_goto X 41 dX12_tries_90 (by decide) ?_
                refine z_sub (ls' := [(0, .ref o), (1, .int (nI vk)), (2, .int bs), (3, .int ms), (4, .int (nI (i + 1)))]) [4, 5, 2, 1, 0] rfl ?_
                exact ih41 _ (i + 1) ba'25 at'26 sz'27 fa'28 op'29 nm'30 e'31 lo'32 wd'33 bs ms (by omega) (by funext zz; by_cases zq4 : zz = o + 8; (rw [zq4, va_up_self]; exact zK45); by_cases zq3 : zz = o + 7; (rw [zq3, va_up_ne _ _ (show o + 7 ≠ o + 8 by omega), va_up_self]; exact zK44); by_cases zq2 : zz = o + 2; (rw [zq2, va_up_ne _ _ (show o + 2 ≠ o + 8 by omega), va_up_ne _ _ (show o + 2 ≠ o + 7 by omega), va_up_self]; exact zK42); by_cases zq1 : zz = o + 5; (rw [zq1, va_up_ne _ _ (show o + 5 ≠ o + 8 by omega), va_up_ne _ _ (show o + 5 ≠ o + 7 by omega), va_up_ne _ _ (show o + 5 ≠ o + 2 by omega), va_up_self]; exact zK43); by_cases zq0 : zz = o; (rw [zq0, va_up_ne _ _ (show o ≠ o + 8 by omega), va_up_ne _ _ (show o ≠ o + 7 by omega), va_up_ne _ _ (show o ≠ o + 2 by omega), va_up_ne _ _ (show o ≠ o + 5 by omega), va_up_self]; exact zK39); rw [va_up_ne _ _ zq4, va_up_ne _ _ zq3, va_up_ne _ _ zq2, va_up_ne _ _ zq1, va_up_ne _ _ zq0]; rw [ze35, he41]; simp only [va_up, if_neg zq0, if_neg zq1, if_neg zq2, if_neg zq3, if_neg zq4]) (by first | assumption | rfl | omega) (by rw [hM] at *; first | rw [txF_t (Int32.not_le.mp (by assumption))] | rw [txF_f (Int32.not_lt.mpr (by assumption))]; exact hB) (by rw [hM] at *; first | rw [txF_t (Int32.not_le.mp (by assumption))] | rw [txF_f (Int32.not_lt.mpr (by assumption))])
              · first | exact absurd zc47 zc46 | exact absurd zc46 zc47 | (exfalso; omega) | (exfalso; simp only [i_eq, i_lt, i_le] at *; omega)
            · refine z_iload X 5 dX12_tries_67 rfl ?_
              refine z_goto X 73 dX12_tries_69 (by decide) ?_
              refine z_istore_n (ls' := [(2, .int (nI i)), (5, .int (triV (Tx d) tx d vk nc i)), (0, .ref o), (1, .int (nI vk)), (3, .int ms), (4, .int (nI i))]) X dX12_tries_73 (by decide) rfl ?_
              refine z_iload X 1 dX12_tries_74 rfl ?_
              refine z_iload_n X 4 dX12_tries_76 rfl ?_
              refine z_icmp_le X 85 dX12_tries_77 (by decide) (fun zc48 => ?_) (fun zc48 => ?_)
              · first | exact absurd zc48 zc46 | exact absurd zc46 zc48 | (exfalso; omega) | (exfalso; simp only [i_eq, i_lt, i_le] at *; omega)
              · refine z_iload X 1 dX12_tries_80 rfl ?_
                refine z_goto X 86 dX12_tries_82 (by decide) ?_
                refine z_istore_n (ls' := [(3, .int (triV (Tx d) tx d vk nc i)), (2, .int (nI i)), (5, .int (triV (Tx d) tx d vk nc i)), (0, .ref o), (1, .int (nI vk)), (4, .int (nI i))]) X dX12_tries_86 (by decide) rfl ?_
                refine z_iinc (v := nI (i + 1)) (ls' := [(4, .int (nI (i + 1))), (3, .int (triV (Tx d) tx d vk nc i)), (2, .int (nI i)), (5, .int (triV (Tx d) tx d vk nc i)), (0, .ref o), (1, .int (nI vk))]) X 5 dX12_tries_87 rfl (nI_1 (i)) (by decide) rfl ?_
                refine z_goto X 41 dX12_tries_90 (by decide) ?_
                refine z_sub (ls' := [(0, .ref o), (1, .int (nI vk)), (2, .int (nI i)), (3, .int (triV (Tx d) tx d vk nc i)), (4, .int (nI (i + 1)))]) [4, 5, 2, 1, 0] rfl ?_
                exact ih41 _ (i + 1) ba'25 at'26 sz'27 fa'28 op'29 nm'30 e'31 lo'32 wd'33 (nI i) (triV (Tx d) tx d vk nc i) (by omega) (by funext zz; by_cases zq4 : zz = o + 8; (rw [zq4, va_up_self]; exact zK45); by_cases zq3 : zz = o + 7; (rw [zq3, va_up_ne _ _ (show o + 7 ≠ o + 8 by omega), va_up_self]; exact zK44); by_cases zq2 : zz = o + 2; (rw [zq2, va_up_ne _ _ (show o + 2 ≠ o + 8 by omega), va_up_ne _ _ (show o + 2 ≠ o + 7 by omega), va_up_self]; exact zK42); by_cases zq1 : zz = o + 5; (rw [zq1, va_up_ne _ _ (show o + 5 ≠ o + 8 by omega), va_up_ne _ _ (show o + 5 ≠ o + 7 by omega), va_up_ne _ _ (show o + 5 ≠ o + 2 by omega), va_up_self]; exact zK43); by_cases zq0 : zz = o; (rw [zq0, va_up_ne _ _ (show o ≠ o + 8 by omega), va_up_ne _ _ (show o ≠ o + 7 by omega), va_up_ne _ _ (show o ≠ o + 2 by omega), va_up_ne _ _ (show o ≠ o + 5 by omega), va_up_self]; exact zK39); rw [va_up_ne _ _ zq4, va_up_ne _ _ zq3, va_up_ne _ _ zq2, va_up_ne _ _ zq1, va_up_ne _ _ zq0]; rw [ze35, he41]; simp only [va_up, if_neg zq0, if_neg zq1, if_neg zq2, if_neg zq3, if_neg zq4]) (by first | assumption | rfl | omega) (by rw [hM] at *; first | rw [txF_t (Int32.not_le.mp (by assumption))] | rw [txF_f (Int32.not_lt.mpr (by assumption))]; exact hB) (by rw [hM] at *; first | rw [txF_t (Int32.not_le.mp (by assumption))] | rw [txF_f (Int32.not_lt.mpr (by assumption))])
      refine z_sub (ls' := [(0, .ref o), (1, .int (nI vk)), (2, .int 0), (3, .int ((-1))), (4, .int 0)]) [3, 4, 2, 1, 0] rfl ?_
      exact L41 _ _ 0 ba at_ sz fa op nm e lo wd 0 ((-1)) (Nat.lt_succ_self _) (by funext zz; by_cases zq4 : zz = o + 8; (rw [zq4, va_up_self]; exact zK16); by_cases zq3 : zz = o + 7; (rw [zq3, va_up_ne _ _ (show o + 7 ≠ o + 8 by omega), va_up_self]; exact zK15); by_cases zq2 : zz = o + 2; (rw [zq2, va_up_ne _ _ (show o + 2 ≠ o + 8 by omega), va_up_ne _ _ (show o + 2 ≠ o + 7 by omega), va_up_self]; exact zK13); by_cases zq1 : zz = o + 5; (rw [zq1, va_up_ne _ _ (show o + 5 ≠ o + 8 by omega), va_up_ne _ _ (show o + 5 ≠ o + 7 by omega), va_up_ne _ _ (show o + 5 ≠ o + 2 by omega), va_up_self]; exact zK14); by_cases zq0 : zz = o; (rw [zq0, va_up_ne _ _ (show o ≠ o + 8 by omega), va_up_ne _ _ (show o ≠ o + 7 by omega), va_up_ne _ _ (show o ≠ o + 2 by omega), va_up_ne _ _ (show o ≠ o + 5 by omega), va_up_self]; exact zK10); rw [va_up_ne _ _ zq4, va_up_ne _ _ zq3, va_up_ne _ _ zq2, va_up_ne _ _ zq1, va_up_ne _ _ zq0]; rw [ze9]; simp only [va_up, if_neg zq0, if_neg zq1, if_neg zq2, if_neg zq3, if_neg zq4]) (by first | assumption | rfl | omega) (by rfl) (by rfl)
    · try replace zc7 := (nI_eq (a := nb) (b := 0) (by omega) (by omega)).mp zc7
      refine z_aload_n X 0 dX12_tries_23 rfl ?_
      refine z_iconst (v := 2) X dX12_tries_24 (by decide) ?_
      refine z_callV X (r_finds (κ := κ) (n := n) (o := (o)) (k := (2)) (fo := (fo)) (im := (im)) (ba := (ba)) (at_ := (at_)) (sz := (sz)) (fa := (fa)) (op := (op)) (rm := (rm)) (ti := (ti)) (tm := (tm)) (wh := (wh)) K0 K1 (by first | assumption | omega) (by first | assumption | omega)) mk_X12_finds dX12_tries_25 wd_1018 wd_1020 wd_24 rfl K0 rfl rfl rfl (Nat.le_of_ble_eq_true rfl) (Nat.le_of_ble_eq_true rfl) (Nat.le_of_ble_eq_true rfl) (by omega) (by omega) (fun q zh49 zm51 zp52 => ?_)
      obtain ⟨rfl, ze50, zn53⟩ := zp52
      subst zm51
      refine z_st (st' := [.int (lowE 2)]) rfl ?_
      have zK54 : zh49 o = some (.inr (12, [.ref (o + 1), .ref (o + 2), .ref (o + 3), .int im, .ref (o + 4), .int ba, .int at_, .int sz, .int fa, .int op, .ref (o + 5), .ref (o + 6), .int rm, .ref (o + 7), .ref (o + 8), .int ti, .ref (o + 9), .int tm, .int wh, .ref (o + 10), .ref (o + 11), .ref (o + 12), .ref (o + 13)])) := by rw [ze50]; rw [va_up_ne _ _ (show o ≠ o + 4 by omega)]; exact K0
      have zK55 : zh49 (o + 4) = arI κ 6 (bmp fo 2) := by rw [ze50]; exact va_up_self _ _ _
      have zK56 : zh49 (o + 1) = arI κ 340 d := by rw [ze50]; rw [va_up_ne _ _ (show o + 1 ≠ o + 4 by omega)]; exact K2
      have zK57 : zh49 (o + 2) = arI κ 340 e := by rw [ze50]; rw [va_up_ne _ _ (show o + 2 ≠ o + 4 by omega)]; exact K3
      have zK58 : zh49 (o + 5) = arI κ 3 nm := by rw [ze50]; rw [va_up_ne _ _ (show o + 5 ≠ o + 4 by omega)]; exact K4
      have zK59 : zh49 (o + 7) = arI κ 6 lo := by rw [ze50]; rw [va_up_ne _ _ (show o + 7 ≠ o + 4 by omega)]; exact K5
      have zK60 : zh49 (o + 8) = arI κ 240 wd := by rw [ze50]; rw [va_up_ne _ _ (show o + 8 ≠ o + 4 by omega)]; exact K6
      refine z_iret X E dX12_tries_28 (by omega) (by omega) ⟨ba, at_, sz, fa, op, nm, ti, e, lo, wd, ?_, ?_, ?_⟩
      · generalize hz : opTries (Tx d) tx d nc nb (nI vk) = z; unfold opTries at hz; (try simp only [i_nI (n := vk) (by omega), nI_clamp (n := vk) (by omega),  i_eq, i_lt, i_le, show (-1 : Int32).toInt = -1 by decide, show (0 : Int32).toInt = 0 by decide, show (1 : Int32).toInt = 1 by decide, show (2 : Int32).toInt = 2 by decide, show (3 : Int32).toInt = 3 by decide, show (4 : Int32).toInt = 4 by decide, show (5 : Int32).toInt = 5 by decide, show (6 : Int32).toInt = 6 by decide, show (7 : Int32).toInt = 7 by decide, show (8 : Int32).toInt = 8 by decide, show (9 : Int32).toInt = 9 by decide, show (10 : Int32).toInt = 10 by decide, show (11 : Int32).toInt = 11 by decide, show (12 : Int32).toInt = 12 by decide, show (13 : Int32).toInt = 13 by decide, show (14 : Int32).toInt = 14 by decide, show (15 : Int32).toInt = 15 by decide, show (16 : Int32).toInt = 16 by decide, show (20 : Int32).toInt = 20 by decide, show (39 : Int32).toInt = 39 by decide, show (40 : Int32).toInt = 40 by decide, show (50 : Int32).toInt = 50 by decide, show (60 : Int32).toInt = 60 by decide, show (99 : Int32).toInt = 99 by decide, show (100 : Int32).toInt = 100 by decide, show (999 : Int32).toInt = 999 by decide, show (9999 : Int32).toInt = 9999 by decide, show (99999 : Int32).toInt = 99999 by decide, show (999999 : Int32).toInt = 999999 by decide, show (9999999 : Int32).toInt = 9999999 by decide, show (-50 : Int32).toInt = -50 by decide, show (32 : Int32).toInt = 32 by decide] at *); (repeat first | rw [if_pos (by omega)] at hz | rw [if_neg (by omega)] at hz); subst hz; first | exact congrArg (fun z => some (Value.int z)) (ansOf_0 _).symm | rfl
      · generalize hz : opTries (Tx d) tx d nc nb (nI vk) = z; unfold opTries at hz; (try simp only [i_nI (n := vk) (by omega), nI_clamp (n := vk) (by omega),  i_eq, i_lt, i_le, show (-1 : Int32).toInt = -1 by decide, show (0 : Int32).toInt = 0 by decide, show (1 : Int32).toInt = 1 by decide, show (2 : Int32).toInt = 2 by decide, show (3 : Int32).toInt = 3 by decide, show (4 : Int32).toInt = 4 by decide, show (5 : Int32).toInt = 5 by decide, show (6 : Int32).toInt = 6 by decide, show (7 : Int32).toInt = 7 by decide, show (8 : Int32).toInt = 8 by decide, show (9 : Int32).toInt = 9 by decide, show (10 : Int32).toInt = 10 by decide, show (11 : Int32).toInt = 11 by decide, show (12 : Int32).toInt = 12 by decide, show (13 : Int32).toInt = 13 by decide, show (14 : Int32).toInt = 14 by decide, show (15 : Int32).toInt = 15 by decide, show (16 : Int32).toInt = 16 by decide, show (20 : Int32).toInt = 20 by decide, show (39 : Int32).toInt = 39 by decide, show (40 : Int32).toInt = 40 by decide, show (50 : Int32).toInt = 50 by decide, show (60 : Int32).toInt = 60 by decide, show (99 : Int32).toInt = 99 by decide, show (100 : Int32).toInt = 100 by decide, show (999 : Int32).toInt = 999 by decide, show (9999 : Int32).toInt = 9999 by decide, show (99999 : Int32).toInt = 99999 by decide, show (999999 : Int32).toInt = 999999 by decide, show (9999999 : Int32).toInt = 9999999 by decide, show (-50 : Int32).toInt = -50 by decide, show (32 : Int32).toInt = 32 by decide] at *); (repeat first | rw [if_pos (by omega)] at hz | rw [if_neg (by omega)] at hz); subst hz; funext zz; by_cases zq5 : zz = o + 4; (rw [zq5, va_up_self]; exact zK55); by_cases zq4 : zz = o + 8; (rw [zq4, va_up_ne _ _ (show o + 8 ≠ o + 4 by omega), va_up_self]; exact zK60); by_cases zq3 : zz = o + 7; (rw [zq3, va_up_ne _ _ (show o + 7 ≠ o + 4 by omega), va_up_ne _ _ (show o + 7 ≠ o + 8 by omega), va_up_self]; exact zK59); by_cases zq2 : zz = o + 2; (rw [zq2, va_up_ne _ _ (show o + 2 ≠ o + 4 by omega), va_up_ne _ _ (show o + 2 ≠ o + 8 by omega), va_up_ne _ _ (show o + 2 ≠ o + 7 by omega), va_up_self]; exact zK57); by_cases zq1 : zz = o + 5; (rw [zq1, va_up_ne _ _ (show o + 5 ≠ o + 4 by omega), va_up_ne _ _ (show o + 5 ≠ o + 8 by omega), va_up_ne _ _ (show o + 5 ≠ o + 7 by omega), va_up_ne _ _ (show o + 5 ≠ o + 2 by omega), va_up_self]; exact zK58); by_cases zq0 : zz = o; (rw [zq0, va_up_ne _ _ (show o ≠ o + 4 by omega), va_up_ne _ _ (show o ≠ o + 8 by omega), va_up_ne _ _ (show o ≠ o + 7 by omega), va_up_ne _ _ (show o ≠ o + 2 by omega), va_up_ne _ _ (show o ≠ o + 5 by omega), va_up_self]; exact zK54); rw [va_up_ne _ _ zq5, va_up_ne _ _ zq4, va_up_ne _ _ zq3, va_up_ne _ _ zq2, va_up_ne _ _ zq1, va_up_ne _ _ zq0]; rw [ze50]; simp only [va_up, if_neg zq0, if_neg zq1, if_neg zq2, if_neg zq3, if_neg zq4, if_neg zq5]
      · rfl
  · replace zc6 := b2i_f zc6
    refine z_aload_n X 0 dX12_tries_7 rfl ?_
    refine z_iconst (v := 1) X dX12_tries_8 (by decide) ?_
    refine z_callV X (r_finds (κ := κ) (n := n) (o := (o)) (k := (1)) (fo := (fo)) (im := (im)) (ba := (ba)) (at_ := (at_)) (sz := (sz)) (fa := (fa)) (op := (op)) (rm := (rm)) (ti := (ti)) (tm := (tm)) (wh := (wh)) K0 K1 (by first | assumption | omega) (by first | assumption | omega)) mk_X12_finds dX12_tries_9 wd_1018 wd_1020 wd_24 rfl K0 rfl rfl rfl (Nat.le_of_ble_eq_true rfl) (Nat.le_of_ble_eq_true rfl) (Nat.le_of_ble_eq_true rfl) (by omega) (by omega) (fun q zh61 zm63 zp64 => ?_)
    obtain ⟨rfl, ze62, zn65⟩ := zp64
    subst zm63
    refine z_st (st' := [.int (lowE 1)]) rfl ?_
    have zK66 : zh61 o = some (.inr (12, [.ref (o + 1), .ref (o + 2), .ref (o + 3), .int im, .ref (o + 4), .int ba, .int at_, .int sz, .int fa, .int op, .ref (o + 5), .ref (o + 6), .int rm, .ref (o + 7), .ref (o + 8), .int ti, .ref (o + 9), .int tm, .int wh, .ref (o + 10), .ref (o + 11), .ref (o + 12), .ref (o + 13)])) := by rw [ze62]; rw [va_up_ne _ _ (show o ≠ o + 4 by omega)]; exact K0
    have zK67 : zh61 (o + 4) = arI κ 6 (bmp fo 1) := by rw [ze62]; exact va_up_self _ _ _
    have zK68 : zh61 (o + 1) = arI κ 340 d := by rw [ze62]; rw [va_up_ne _ _ (show o + 1 ≠ o + 4 by omega)]; exact K2
    have zK69 : zh61 (o + 2) = arI κ 340 e := by rw [ze62]; rw [va_up_ne _ _ (show o + 2 ≠ o + 4 by omega)]; exact K3
    have zK70 : zh61 (o + 5) = arI κ 3 nm := by rw [ze62]; rw [va_up_ne _ _ (show o + 5 ≠ o + 4 by omega)]; exact K4
    have zK71 : zh61 (o + 7) = arI κ 6 lo := by rw [ze62]; rw [va_up_ne _ _ (show o + 7 ≠ o + 4 by omega)]; exact K5
    have zK72 : zh61 (o + 8) = arI κ 240 wd := by rw [ze62]; rw [va_up_ne _ _ (show o + 8 ≠ o + 4 by omega)]; exact K6
    refine z_iret X E dX12_tries_12 (by omega) (by omega) ⟨ba, at_, sz, fa, op, nm, ti, e, lo, wd, ?_, ?_, ?_⟩
    · generalize hz : opTries (Tx d) tx d nc nb v = z; unfold opTries at hz; (try simp only [ i_eq, i_lt, i_le, show (-1 : Int32).toInt = -1 by decide, show (0 : Int32).toInt = 0 by decide, show (1 : Int32).toInt = 1 by decide, show (2 : Int32).toInt = 2 by decide, show (3 : Int32).toInt = 3 by decide, show (4 : Int32).toInt = 4 by decide, show (5 : Int32).toInt = 5 by decide, show (6 : Int32).toInt = 6 by decide, show (7 : Int32).toInt = 7 by decide, show (8 : Int32).toInt = 8 by decide, show (9 : Int32).toInt = 9 by decide, show (10 : Int32).toInt = 10 by decide, show (11 : Int32).toInt = 11 by decide, show (12 : Int32).toInt = 12 by decide, show (13 : Int32).toInt = 13 by decide, show (14 : Int32).toInt = 14 by decide, show (15 : Int32).toInt = 15 by decide, show (16 : Int32).toInt = 16 by decide, show (20 : Int32).toInt = 20 by decide, show (39 : Int32).toInt = 39 by decide, show (40 : Int32).toInt = 40 by decide, show (50 : Int32).toInt = 50 by decide, show (60 : Int32).toInt = 60 by decide, show (99 : Int32).toInt = 99 by decide, show (100 : Int32).toInt = 100 by decide, show (999 : Int32).toInt = 999 by decide, show (9999 : Int32).toInt = 9999 by decide, show (99999 : Int32).toInt = 99999 by decide, show (999999 : Int32).toInt = 999999 by decide, show (9999999 : Int32).toInt = 9999999 by decide, show (-50 : Int32).toInt = -50 by decide, show (32 : Int32).toInt = 32 by decide] at *); (repeat first | rw [if_pos (by omega)] at hz | rw [if_neg (by omega)] at hz); subst hz; first | exact congrArg (fun z => some (Value.int z)) (ansOf_0 _).symm | rfl
    · generalize hz : opTries (Tx d) tx d nc nb v = z; unfold opTries at hz; (try simp only [ i_eq, i_lt, i_le, show (-1 : Int32).toInt = -1 by decide, show (0 : Int32).toInt = 0 by decide, show (1 : Int32).toInt = 1 by decide, show (2 : Int32).toInt = 2 by decide, show (3 : Int32).toInt = 3 by decide, show (4 : Int32).toInt = 4 by decide, show (5 : Int32).toInt = 5 by decide, show (6 : Int32).toInt = 6 by decide, show (7 : Int32).toInt = 7 by decide, show (8 : Int32).toInt = 8 by decide, show (9 : Int32).toInt = 9 by decide, show (10 : Int32).toInt = 10 by decide, show (11 : Int32).toInt = 11 by decide, show (12 : Int32).toInt = 12 by decide, show (13 : Int32).toInt = 13 by decide, show (14 : Int32).toInt = 14 by decide, show (15 : Int32).toInt = 15 by decide, show (16 : Int32).toInt = 16 by decide, show (20 : Int32).toInt = 20 by decide, show (39 : Int32).toInt = 39 by decide, show (40 : Int32).toInt = 40 by decide, show (50 : Int32).toInt = 50 by decide, show (60 : Int32).toInt = 60 by decide, show (99 : Int32).toInt = 99 by decide, show (100 : Int32).toInt = 100 by decide, show (999 : Int32).toInt = 999 by decide, show (9999 : Int32).toInt = 9999 by decide, show (99999 : Int32).toInt = 99999 by decide, show (999999 : Int32).toInt = 999999 by decide, show (9999999 : Int32).toInt = 9999999 by decide, show (-50 : Int32).toInt = -50 by decide, show (32 : Int32).toInt = 32 by decide] at *); (repeat first | rw [if_pos (by omega)] at hz | rw [if_neg (by omega)] at hz); subst hz; funext zz; by_cases zq5 : zz = o + 4; (rw [zq5, va_up_self]; exact zK67); by_cases zq4 : zz = o + 8; (rw [zq4, va_up_ne _ _ (show o + 8 ≠ o + 4 by omega), va_up_self]; exact zK72); by_cases zq3 : zz = o + 7; (rw [zq3, va_up_ne _ _ (show o + 7 ≠ o + 4 by omega), va_up_ne _ _ (show o + 7 ≠ o + 8 by omega), va_up_self]; exact zK71); by_cases zq2 : zz = o + 2; (rw [zq2, va_up_ne _ _ (show o + 2 ≠ o + 4 by omega), va_up_ne _ _ (show o + 2 ≠ o + 8 by omega), va_up_ne _ _ (show o + 2 ≠ o + 7 by omega), va_up_self]; exact zK69); by_cases zq1 : zz = o + 5; (rw [zq1, va_up_ne _ _ (show o + 5 ≠ o + 4 by omega), va_up_ne _ _ (show o + 5 ≠ o + 8 by omega), va_up_ne _ _ (show o + 5 ≠ o + 7 by omega), va_up_ne _ _ (show o + 5 ≠ o + 2 by omega), va_up_self]; exact zK70); by_cases zq0 : zz = o; (rw [zq0, va_up_ne _ _ (show o ≠ o + 4 by omega), va_up_ne _ _ (show o ≠ o + 8 by omega), va_up_ne _ _ (show o ≠ o + 7 by omega), va_up_ne _ _ (show o ≠ o + 2 by omega), va_up_ne _ _ (show o ≠ o + 5 by omega), va_up_self]; exact zK66); rw [va_up_ne _ _ zq5, va_up_ne _ _ zq4, va_up_ne _ _ zq3, va_up_ne _ _ zq2, va_up_ne _ _ zq1, va_up_ne _ _ zq0]; rw [ze62]; simp only [va_up, if_neg zq0, if_neg zq1, if_neg zq2, if_neg zq3, if_neg zq4, if_neg zq5]
    · rfl
