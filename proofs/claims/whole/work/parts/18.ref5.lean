def frP (n cold : Int32) : Int32 := n * cold / 100
def frS (n cold wind : Int32) : Int32 := frP n cold * (10 + wind) / 10
def frR (n cold wind so : Int32) : Int32 := frS n cold wind + n * so / 100
/-- what the cause k freezes at the cell c -/
def frz (m : Nat → Int32) (len k c : Nat) (w s cold : Int32) : Int32 :=
  if m (20 + 2 * k) = 1 then (if c + 1 = len then 10 * frP (m (20 + 2 * k + 1)) cold else 0)
  else if m (20 + 2 * k) = 2 then frS (m (20 + 2 * k + 1)) cold (m 7)
  else if m (20 + 2 * k) = 3 then frR (m (20 + 2 * k + 1)) cold (m 7) (soR m len c)
  else if m (20 + 2 * k) = 4 then frR (m (20 + 2 * k + 1)) cold (m 7) (soR m len c) - m (20 + 2 * k + 1) * s / (if w < 1 then 1 else w)
  else if m (20 + 2 * k) = 5 then (if nI c - nI c / 2 * 2 = 1 ∧ 20 < m 7 then 2 * frP (m (20 + 2 * k + 1)) cold else frP (m (20 + 2 * k + 1)) cold)
  else if m (20 + 2 * k) = 6 then (if c + 1 = len then 10 * frP (m (20 + 2 * k + 1)) cold else 0) + (if c + 1 = len ∧ m 0 - m 0 / 7 * 7 = 0 then m (20 + 2 * k + 1) else 0)
  else frP (m (20 + 2 * k + 1)) cold
theorem ne_lt1 {w : Int32} (h : ¬ w < 1) : ¬ w = 0 := by
  intro q
  rw [q] at h
  exact h (by decide)
set_option maxHeartbeats 4000000 in
set_option maxRecDepth 100000 in
theorem r_freezesOf {κ : Wc} {l : Launch} {h : Mm} {n : Nat} {a : Nat} {m : Nat → Int32} {len : Nat} {k : Nat} {c : Nat} {w : Int32} {s : Int32} {cold : Int32} (K0 : h a = arI κ 340 m) (q1 : m 1 = nI len) (q2 : 1 ≤ len) (q3 : len ≤ 40) (q6 : k < 6) (q7 : c < len) : Con κ l yX12_freezesOf cX12_freezesOf 11 (some .int) 2 0 0 [.ref a, .int (nI k), .int (nI c), .int w, .int s, .int cold] h n (fun q h' n' => q = some (.int (frz m len k c w s cold)) ∧ h' = h ∧ n' = n) := by
  refine Con.of mk_X12_freezesOf (Nat.le_of_ble_eq_true rfl) (fun G hG X E => ?_)
  subst hG
  refine z_ls (ls' := [(0, .ref a), (1, .int (nI k)), (2, .int (nI c)), (3, .int w), (4, .int s), (5, .int cold)]) rfl ?_
  refine z_aload_n X 0 dX12_freezesOf_0 rfl ?_
  refine z_bipush (v := 20) X dX12_freezesOf_1 (by decide) ?_
  refine z_iconst (v := 2) X dX12_freezesOf_3 (by decide) ?_
  refine z_iload_n X 1 dX12_freezesOf_4 rfl ?_
  refine z_imul X dX12_freezesOf_5 ?_
  refine z_toe (y := nI (2 * k)) (pk_mul (2) (k)) ?_
  refine z_iadd X dX12_freezesOf_6 ?_
  refine z_toe (y := nI (20 + (2 * k))) (nI_add (20) (2 * k)) ?_
  refine z_iconst (v := 1) X dX12_freezesOf_7 (by decide) ?_
  refine z_iadd X dX12_freezesOf_8 ?_
  refine z_toe (y := nI ((20 + (2 * k)) + 1)) (nI_add (20 + (2 * k)) (1)) ?_
  refine z_iald2 (v := m ((20 + (2 * k)) + 1)) X dX12_freezesOf_9 K0 (vp_in_nI (n := (20 + (2 * k)) + 1) (by omega) (by omega)) (congrArg m (nI_clamp (n := (20 + (2 * k)) + 1) (by omega))) ?_
  refine z_istore (ls' := [(6, .int (m ((20 + (2 * k)) + 1))), (0, .ref a), (1, .int (nI k)), (2, .int (nI c)), (3, .int w), (4, .int s), (5, .int cold)]) X dX12_freezesOf_10 (by decide) rfl ?_
  refine z_iload X 0 dX12_freezesOf_12 rfl ?_
  refine z_iload X 6 dX12_freezesOf_14 rfl ?_
  refine z_imul X dX12_freezesOf_16 ?_
  refine z_bipush (v := 100) X dX12_freezesOf_17 (by decide) ?_
  refine z_idiv X dX12_freezesOf_19 (by first | decide | exact ne_lt1 (Int32.not_lt.mpr (by assumption))) ?_
  refine z_istore (ls' := [(7, .int (((m ((20 + (2 * k)) + 1)) * cold) / 100)), (6, .int (m ((20 + (2 * k)) + 1))), (0, .ref a), (1, .int (nI k)), (2, .int (nI c)), (3, .int w), (4, .int s), (5, .int cold)]) X dX12_freezesOf_20 (by decide) rfl ?_
  refine z_iload_n X 4 dX12_freezesOf_22 rfl ?_
  refine z_aload_n X 2 dX12_freezesOf_23 rfl ?_
  refine z_iconst (v := 1) X dX12_freezesOf_24 (by decide) ?_
  refine z_iald2 (v := m 1) X dX12_freezesOf_25 K0 (vp_in_nI (n := 1) (by omega) (by omega)) (congrArg m (nI_clamp (n := 1) (by omega))) ?_
  refine z_toe (y := nI len) (q1) ?_
  refine z_iconst (v := 1) X dX12_freezesOf_26 (by decide) ?_
  refine z_isub X dX12_freezesOf_27 ?_
  refine z_toe (y := nI (len - 1)) (pk_sub (a := len) (b := 1) (by omega)) ?_
  refine z_icmp_ne X 35 dX12_freezesOf_28 (by decide) (fun zc1 => ?_) (fun zc1 => ?_)
  · try replace zc1 := mt (nI_eq (a := c) (b := len - 1) (by omega) (by omega)).mpr zc1
    refine z_iconst (v := 0) X dX12_freezesOf_35 (by decide) ?_
    refine z_istore (ls' := [(8, .int 0), (7, .int (((m ((20 + (2 * k)) + 1)) * cold) / 100)), (6, .int (m ((20 + (2 * k)) + 1))), (0, .ref a), (1, .int (nI k)), (2, .int (nI c)), (3, .int w), (4, .int s), (5, .int cold)]) X dX12_freezesOf_36 (by decide) rfl ?_
    refine z_iload X 1 dX12_freezesOf_38 rfl ?_
    refine z_bipush (v := 10) X dX12_freezesOf_40 (by decide) ?_
    refine z_aload_n X 3 dX12_freezesOf_42 rfl ?_
    refine z_bipush (v := 7) X dX12_freezesOf_43 (by decide) ?_
    refine z_iald2 (v := m 7) X dX12_freezesOf_45 K0 (vp_in_nI (n := 7) (by omega) (by omega)) (congrArg m (nI_clamp (n := 7) (by omega))) ?_
    refine z_iadd X dX12_freezesOf_46 ?_
    refine z_imul X dX12_freezesOf_47 ?_
    refine z_bipush (v := 10) X dX12_freezesOf_48 (by decide) ?_
    refine z_idiv X dX12_freezesOf_50 (by first | decide | exact ne_lt1 (Int32.not_lt.mpr (by assumption))) ?_
    refine z_istore (ls' := [(9, .int (((((m ((20 + (2 * k)) + 1)) * cold) / 100) * (10 + (m 7))) / 10)), (8, .int 0), (7, .int (((m ((20 + (2 * k)) + 1)) * cold) / 100)), (6, .int (m ((20 + (2 * k)) + 1))), (0, .ref a), (1, .int (nI k)), (2, .int (nI c)), (3, .int w), (4, .int s), (5, .int cold)]) X dX12_freezesOf_51 (by decide) rfl ?_
    refine z_iload X 0 dX12_freezesOf_53 rfl ?_
    refine z_iload X 3 dX12_freezesOf_55 rfl ?_
    refine z_aload_n X 4 dX12_freezesOf_57 rfl ?_
    refine z_iload_n X 6 dX12_freezesOf_58 rfl ?_
    refine z_callS X (r_standsOut (κ := κ) (n := n) (a := (a)) (m := (m)) (c := (c)) K0 (by first | assumption | omega) (by first | assumption | omega) (by first | assumption | omega)) mk_X12_standsOut dX12_freezesOf_59 wd_1023 wd_1024 rfl rfl (Nat.le_of_ble_eq_true rfl) (Nat.le_of_ble_eq_true rfl) (Nat.le_of_ble_eq_true rfl) (by omega) (by omega) (fun q zh2 zm4 zp5 => ?_)
    obtain ⟨rfl, ze3, zn6⟩ := zp5
    subst zm4
    subst zh2
    refine z_st (st' := [.int (soR m len c), .int (m ((20 + (2 * k)) + 1)), .int (((((m ((20 + (2 * k)) + 1)) * cold) / 100) * (10 + (m 7))) / 10)]) rfl ?_
    refine z_imul X dX12_freezesOf_62 ?_
    refine z_bipush (v := 100) X dX12_freezesOf_63 (by decide) ?_
    refine z_idiv X dX12_freezesOf_65 (by first | decide | exact ne_lt1 (Int32.not_lt.mpr (by assumption))) ?_
    refine z_iadd X dX12_freezesOf_66 ?_
    refine z_istore (ls' := [(10, .int ((((((m ((20 + (2 * k)) + 1)) * cold) / 100) * (10 + (m 7))) / 10) + (((m ((20 + (2 * k)) + 1)) * (soR m len c)) / 100))), (9, .int (((((m ((20 + (2 * k)) + 1)) * cold) / 100) * (10 + (m 7))) / 10)), (8, .int 0), (7, .int (((m ((20 + (2 * k)) + 1)) * cold) / 100)), (6, .int (m ((20 + (2 * k)) + 1))), (0, .ref a), (1, .int (nI k)), (2, .int (nI c)), (3, .int w), (4, .int s), (5, .int cold)]) X dX12_freezesOf_67 (by decide) rfl ?_
    refine z_aload_n X 5 dX12_freezesOf_69 rfl ?_
    refine z_bipush (v := 20) X dX12_freezesOf_70 (by decide) ?_
    refine z_iconst (v := 2) X dX12_freezesOf_72 (by decide) ?_
    refine z_iload_n X 6 dX12_freezesOf_73 rfl ?_
    refine z_imul X dX12_freezesOf_74 ?_
    refine z_toe (y := nI (2 * k)) (pk_mul (2) (k)) ?_
    refine z_iadd X dX12_freezesOf_75 ?_
    refine z_toe (y := nI (20 + (2 * k))) (nI_add (20) (2 * k)) ?_
    refine z_iald2 (v := m (20 + (2 * k))) X dX12_freezesOf_76 K0 (vp_in_nI (n := 20 + (2 * k)) (by omega) (by omega)) (congrArg m (nI_clamp (n := 20 + (2 * k)) (by omega))) ?_
    by_cases zc7 : m (20 + (2 * k)) = 1
    · refine z_tableIn (off := 39) X 116 dX12_freezesOf_77 (by rw [zc7]; decide) (by rw [zc7]; decide) (by rw [zc7]; decide) (by decide) ?_
      refine z_iload X 2 dX12_freezesOf_116 rfl ?_
      refine z_if_eq X 129 dX12_freezesOf_118 (by decide) (fun zc8 => ?_) (fun zc8 => ?_)
      · try replace zc8 := (nI_eq (a := 0) (b := 0) (by omega) (by omega)).mp zc8
        refine z_iconst (v := 0) X dX12_freezesOf_129 (by decide) ?_
        refine z_iret X E dX12_freezesOf_130 (by omega) (by omega) ⟨?_, ?_, ?_⟩
        · rw [frz]; (repeat first | rw [if_pos (by first | assumption | omega | exact ⟨by assumption, by assumption⟩ | exact ⟨by omega, by assumption⟩ | exact Int32.not_le.mp (by assumption) | exact ⟨by assumption, Int32.not_le.mp (by assumption)⟩)] | rw [if_neg (by first | assumption | omega | exact fun q => absurd q.1 (by assumption) | exact fun q => absurd q.2 (by assumption) | exact fun q => absurd q.1 (by omega) | exact Int32.not_lt.mpr (by assumption) | exact fun q => absurd q.2 (Int32.not_lt.mpr (by assumption)))]); first | done | rfl
        · first | rfl | (funext zz; simp only [va_up]; (repeat' split) <;> first | rfl | (exfalso; omega) | simp_all)
        · rfl
      · first | exact absurd zc8 (by decide) | exact absurd (by decide) zc8
    by_cases zc9 : m (20 + (2 * k)) = 2
    · refine z_tableIn (off := 54) X 131 dX12_freezesOf_77 (by rw [zc9]; decide) (by rw [zc9]; decide) (by rw [zc9]; decide) (by decide) ?_
      refine z_iload X 1 dX12_freezesOf_131 rfl ?_
      refine z_iret X E dX12_freezesOf_133 (by omega) (by omega) ⟨?_, ?_, ?_⟩
      · rw [frz]; (repeat first | rw [if_pos (by first | assumption | omega | exact ⟨by assumption, by assumption⟩ | exact ⟨by omega, by assumption⟩ | exact Int32.not_le.mp (by assumption) | exact ⟨by assumption, Int32.not_le.mp (by assumption)⟩)] | rw [if_neg (by first | assumption | omega | exact fun q => absurd q.1 (by assumption) | exact fun q => absurd q.2 (by assumption) | exact fun q => absurd q.1 (by omega) | exact Int32.not_lt.mpr (by assumption) | exact fun q => absurd q.2 (Int32.not_lt.mpr (by assumption)))]); first | done | rfl
      · first | rfl | (funext zz; simp only [va_up]; (repeat' split) <;> first | rfl | (exfalso; omega) | simp_all)
      · rfl
    by_cases zc10 : m (20 + (2 * k)) = 3
    · refine z_tableIn (off := 57) X 134 dX12_freezesOf_77 (by rw [zc10]; decide) (by rw [zc10]; decide) (by rw [zc10]; decide) (by decide) ?_
      refine z_iload X 0 dX12_freezesOf_134 rfl ?_
      refine z_iret X E dX12_freezesOf_136 (by omega) (by omega) ⟨?_, ?_, ?_⟩
      · rw [frz]; (repeat first | rw [if_pos (by first | assumption | omega | exact ⟨by assumption, by assumption⟩ | exact ⟨by omega, by assumption⟩ | exact Int32.not_le.mp (by assumption) | exact ⟨by assumption, Int32.not_le.mp (by assumption)⟩)] | rw [if_neg (by first | assumption | omega | exact fun q => absurd q.1 (by assumption) | exact fun q => absurd q.2 (by assumption) | exact fun q => absurd q.1 (by omega) | exact Int32.not_lt.mpr (by assumption) | exact fun q => absurd q.2 (Int32.not_lt.mpr (by assumption)))]); first | done | rfl
      · first | rfl | (funext zz; simp only [va_up]; (repeat' split) <;> first | rfl | (exfalso; omega) | simp_all)
      · rfl
    by_cases zc11 : m (20 + (2 * k)) = 4
    · refine z_tableIn (off := 60) X 137 dX12_freezesOf_77 (by rw [zc11]; decide) (by rw [zc11]; decide) (by rw [zc11]; decide) (by decide) ?_
      refine z_iload X 0 dX12_freezesOf_137 rfl ?_
      refine z_iload X 4 dX12_freezesOf_139 rfl ?_
      refine z_iload X 9 dX12_freezesOf_141 rfl ?_
      refine z_imul X dX12_freezesOf_143 ?_
      refine z_iload_n X 8 dX12_freezesOf_144 rfl ?_
      refine z_iconst (v := 1) X dX12_freezesOf_145 (by decide) ?_
      refine z_icmp_ge X 153 dX12_freezesOf_146 (by decide) (fun zc12 => ?_) (fun zc12 => ?_)
      · refine z_iload_n X 8 dX12_freezesOf_153 rfl ?_
        refine z_idiv X dX12_freezesOf_154 (by first | decide | exact ne_lt1 (Int32.not_lt.mpr (by assumption))) ?_
        refine z_isub X dX12_freezesOf_155 ?_
        refine z_iret X E dX12_freezesOf_156 (by omega) (by omega) ⟨?_, ?_, ?_⟩
        · rw [frz]; (repeat first | rw [if_pos (by first | assumption | omega | exact ⟨by assumption, by assumption⟩ | exact ⟨by omega, by assumption⟩ | exact Int32.not_le.mp (by assumption) | exact ⟨by assumption, Int32.not_le.mp (by assumption)⟩)] | rw [if_neg (by first | assumption | omega | exact fun q => absurd q.1 (by assumption) | exact fun q => absurd q.2 (by assumption) | exact fun q => absurd q.1 (by omega) | exact Int32.not_lt.mpr (by assumption) | exact fun q => absurd q.2 (Int32.not_lt.mpr (by assumption)))]); first | done | rfl
        · first | rfl | (funext zz; simp only [va_up]; (repeat' split) <;> first | rfl | (exfalso; omega) | simp_all)
        · rfl
      · refine z_iconst (v := 1) X dX12_freezesOf_149 (by decide) ?_
        refine z_goto X 154 dX12_freezesOf_150 (by decide) ?_
        refine z_idiv X dX12_freezesOf_154 (by first | decide | exact ne_lt1 (Int32.not_lt.mpr (by assumption))) ?_
        refine z_isub X dX12_freezesOf_155 ?_
        refine z_iret X E dX12_freezesOf_156 (by omega) (by omega) ⟨?_, ?_, ?_⟩
        · rw [frz]; (repeat first | rw [if_pos (by first | assumption | omega | exact ⟨by assumption, by assumption⟩ | exact ⟨by omega, by assumption⟩ | exact Int32.not_le.mp (by assumption) | exact ⟨by assumption, Int32.not_le.mp (by assumption)⟩)] | rw [if_neg (by first | assumption | omega | exact fun q => absurd q.1 (by assumption) | exact fun q => absurd q.2 (by assumption) | exact fun q => absurd q.1 (by omega) | exact Int32.not_lt.mpr (by assumption) | exact fun q => absurd q.2 (Int32.not_lt.mpr (by assumption)))]); first | done | rfl
        · first | rfl | (funext zz; simp only [va_up]; (repeat' split) <;> first | rfl | (exfalso; omega) | simp_all)
        · rfl
    by_cases zc13 : m (20 + (2 * k)) = 5
    · refine z_tableIn (off := 80) X 157 dX12_freezesOf_77 (by rw [zc13]; decide) (by rw [zc13]; decide) (by rw [zc13]; decide) (by decide) ?_
      refine z_iload_n X 7 dX12_freezesOf_157 rfl ?_
      refine z_iconst (v := 2) X dX12_freezesOf_158 (by decide) ?_
      refine z_irem X dX12_freezesOf_159 (by decide) ?_
      refine z_iconst (v := 1) X dX12_freezesOf_160 (by decide) ?_
      refine z_icmp_ne X 180 dX12_freezesOf_161 (by decide) (fun zc14 => ?_) (fun zc14 => ?_)
      · refine z_iload X 3 dX12_freezesOf_180 rfl ?_
        refine z_iret X E dX12_freezesOf_182 (by omega) (by omega) ⟨?_, ?_, ?_⟩
        · rw [frz]; (repeat first | rw [if_pos (by first | assumption | omega | exact ⟨by assumption, by assumption⟩ | exact ⟨by omega, by assumption⟩ | exact Int32.not_le.mp (by assumption) | exact ⟨by assumption, Int32.not_le.mp (by assumption)⟩)] | rw [if_neg (by first | assumption | omega | exact fun q => absurd q.1 (by assumption) | exact fun q => absurd q.2 (by assumption) | exact fun q => absurd q.1 (by omega) | exact Int32.not_lt.mpr (by assumption) | exact fun q => absurd q.2 (Int32.not_lt.mpr (by assumption)))]); first | done | rfl
        · first | rfl | (funext zz; simp only [va_up]; (repeat' split) <;> first | rfl | (exfalso; omega) | simp_all)
        · rfl
      · refine z_aload_n X 5 dX12_freezesOf_164 rfl ?_
        refine z_bipush (v := 7) X dX12_freezesOf_165 (by decide) ?_
        refine z_iald2 (v := m 7) X dX12_freezesOf_167 K0 (vp_in_nI (n := 7) (by omega) (by omega)) (congrArg m (nI_clamp (n := 7) (by omega))) ?_
        refine z_bipush (v := 20) X dX12_freezesOf_168 (by decide) ?_
        refine z_icmp_le X 180 dX12_freezesOf_170 (by decide) (fun zc15 => ?_) (fun zc15 => ?_)
        · refine z_iload X 3 dX12_freezesOf_180 rfl ?_
          refine z_iret X E dX12_freezesOf_182 (by omega) (by omega) ⟨?_, ?_, ?_⟩
          · rw [frz]; (repeat first | rw [if_pos (by first | assumption | omega | exact ⟨by assumption, by assumption⟩ | exact ⟨by omega, by assumption⟩ | exact Int32.not_le.mp (by assumption) | exact ⟨by assumption, Int32.not_le.mp (by assumption)⟩)] | rw [if_neg (by first | assumption | omega | exact fun q => absurd q.1 (by assumption) | exact fun q => absurd q.2 (by assumption) | exact fun q => absurd q.1 (by omega) | exact Int32.not_lt.mpr (by assumption) | exact fun q => absurd q.2 (Int32.not_lt.mpr (by assumption)))]); first | done | rfl
          · first | rfl | (funext zz; simp only [va_up]; (repeat' split) <;> first | rfl | (exfalso; omega) | simp_all)
          · rfl
        · refine z_iconst (v := 2) X dX12_freezesOf_173 (by decide) ?_
          refine z_iload X 3 dX12_freezesOf_174 rfl ?_
          refine z_imul X dX12_freezesOf_176 ?_
          refine z_goto X 182 dX12_freezesOf_177 (by decide) ?_
          refine z_iret X E dX12_freezesOf_182 (by omega) (by omega) ⟨?_, ?_, ?_⟩
          · rw [frz]; (repeat first | rw [if_pos (by first | assumption | omega | exact ⟨by assumption, by assumption⟩ | exact ⟨by omega, by assumption⟩ | exact Int32.not_le.mp (by assumption) | exact ⟨by assumption, Int32.not_le.mp (by assumption)⟩)] | rw [if_neg (by first | assumption | omega | exact fun q => absurd q.1 (by assumption) | exact fun q => absurd q.2 (by assumption) | exact fun q => absurd q.1 (by omega) | exact Int32.not_lt.mpr (by assumption) | exact fun q => absurd q.2 (Int32.not_lt.mpr (by assumption)))]); first | done | rfl
          · first | rfl | (funext zz; simp only [va_up]; (repeat' split) <;> first | rfl | (exfalso; omega) | simp_all)
          · rfl
    by_cases zc16 : m (20 + (2 * k)) = 6
    · refine z_tableIn (off := 106) X 183 dX12_freezesOf_77 (by rw [zc16]; decide) (by rw [zc16]; decide) (by rw [zc16]; decide) (by decide) ?_
      refine z_iload X 2 dX12_freezesOf_183 rfl ?_
      refine z_if_eq X 196 dX12_freezesOf_185 (by decide) (fun zc17 => ?_) (fun zc17 => ?_)
      · try replace zc17 := (nI_eq (a := 0) (b := 0) (by omega) (by omega)).mp zc17
        refine z_iconst (v := 0) X dX12_freezesOf_196 (by decide) ?_
        refine z_iload X 2 dX12_freezesOf_197 rfl ?_
        refine z_if_eq X 216 dX12_freezesOf_199 (by decide) (fun zc18 => ?_) (fun zc18 => ?_)
        · try replace zc18 := (nI_eq (a := 0) (b := 0) (by omega) (by omega)).mp zc18
          refine z_iconst (v := 0) X dX12_freezesOf_216 (by decide) ?_
          refine z_iadd X dX12_freezesOf_217 ?_
          refine z_iret X E dX12_freezesOf_218 (by omega) (by omega) ⟨?_, ?_, ?_⟩
          · rw [frz]; (repeat first | rw [if_pos (by first | assumption | omega | exact ⟨by assumption, by assumption⟩ | exact ⟨by omega, by assumption⟩ | exact Int32.not_le.mp (by assumption) | exact ⟨by assumption, Int32.not_le.mp (by assumption)⟩)] | rw [if_neg (by first | assumption | omega | exact fun q => absurd q.1 (by assumption) | exact fun q => absurd q.2 (by assumption) | exact fun q => absurd q.1 (by omega) | exact Int32.not_lt.mpr (by assumption) | exact fun q => absurd q.2 (Int32.not_lt.mpr (by assumption)))]); first | done | rfl
          · first | rfl | (funext zz; simp only [va_up]; (repeat' split) <;> first | rfl | (exfalso; omega) | simp_all)
          · rfl
        · first | exact absurd zc18 (by decide) | exact absurd (by decide) zc18
      · first | exact absurd zc17 (by decide) | exact absurd (by decide) zc17
    refine z_tableOut X 219 dX12_freezesOf_77 (by have t0 := lv_neT zc7 (show (1 : Int32).toInt = 1 by decide); have t1 := lv_neT zc9 (show (2 : Int32).toInt = 2 by decide); have t2 := lv_neT zc10 (show (3 : Int32).toInt = 3 by decide); have t3 := lv_neT zc11 (show (4 : Int32).toInt = 4 by decide); have t4 := lv_neT zc13 (show (5 : Int32).toInt = 5 by decide); have t5 := lv_neT zc16 (show (6 : Int32).toInt = 6 by decide); omega) (by decide) ?_
    refine z_iload X 3 dX12_freezesOf_219 rfl ?_
    refine z_iret X E dX12_freezesOf_221 (by omega) (by omega) ⟨?_, ?_, ?_⟩
    · rw [frz]; (repeat first | rw [if_pos (by first | assumption | omega | exact ⟨by assumption, by assumption⟩ | exact ⟨by omega, by assumption⟩ | exact Int32.not_le.mp (by assumption) | exact ⟨by assumption, Int32.not_le.mp (by assumption)⟩)] | rw [if_neg (by first | assumption | omega | exact fun q => absurd q.1 (by assumption) | exact fun q => absurd q.2 (by assumption) | exact fun q => absurd q.1 (by omega) | exact Int32.not_lt.mpr (by assumption) | exact fun q => absurd q.2 (Int32.not_lt.mpr (by assumption)))]); first | done | rfl
    · first | rfl | (funext zz; simp only [va_up]; (repeat' split) <;> first | rfl | (exfalso; omega) | simp_all)
    · rfl
  · try replace zc1 := (nI_eq (a := c) (b := len - 1) (by omega) (by omega)).mp zc1
    refine z_iconst (v := 1) X dX12_freezesOf_31 (by decide) ?_
    refine z_goto X 36 dX12_freezesOf_32 (by decide) ?_
    refine z_istore (ls' := [(8, .int 1), (7, .int (((m ((20 + (2 * k)) + 1)) * cold) / 100)), (6, .int (m ((20 + (2 * k)) + 1))), (0, .ref a), (1, .int (nI k)), (2, .int (nI c)), (3, .int w), (4, .int s), (5, .int cold)]) X dX12_freezesOf_36 (by decide) rfl ?_
    refine z_iload X 1 dX12_freezesOf_38 rfl ?_
    refine z_bipush (v := 10) X dX12_freezesOf_40 (by decide) ?_
    refine z_aload_n X 3 dX12_freezesOf_42 rfl ?_
    refine z_bipush (v := 7) X dX12_freezesOf_43 (by decide) ?_
    refine z_iald2 (v := m 7) X dX12_freezesOf_45 K0 (vp_in_nI (n := 7) (by omega) (by omega)) (congrArg m (nI_clamp (n := 7) (by omega))) ?_
    refine z_iadd X dX12_freezesOf_46 ?_
    refine z_imul X dX12_freezesOf_47 ?_
    refine z_bipush (v := 10) X dX12_freezesOf_48 (by decide) ?_
    refine z_idiv X dX12_freezesOf_50 (by first | decide | exact ne_lt1 (Int32.not_lt.mpr (by assumption))) ?_
    refine z_istore (ls' := [(9, .int (((((m ((20 + (2 * k)) + 1)) * cold) / 100) * (10 + (m 7))) / 10)), (8, .int 1), (7, .int (((m ((20 + (2 * k)) + 1)) * cold) / 100)), (6, .int (m ((20 + (2 * k)) + 1))), (0, .ref a), (1, .int (nI k)), (2, .int (nI c)), (3, .int w), (4, .int s), (5, .int cold)]) X dX12_freezesOf_51 (by decide) rfl ?_
    refine z_iload X 0 dX12_freezesOf_53 rfl ?_
    refine z_iload X 3 dX12_freezesOf_55 rfl ?_
    refine z_aload_n X 4 dX12_freezesOf_57 rfl ?_
    refine z_iload_n X 6 dX12_freezesOf_58 rfl ?_
    refine z_callS X (r_standsOut (κ := κ) (n := n) (a := (a)) (m := (m)) (c := (c)) K0 (by first | assumption | omega) (by first | assumption | omega) (by first | assumption | omega)) mk_X12_standsOut dX12_freezesOf_59 wd_1023 wd_1024 rfl rfl (Nat.le_of_ble_eq_true rfl) (Nat.le_of_ble_eq_true rfl) (Nat.le_of_ble_eq_true rfl) (by omega) (by omega) (fun q zh19 zm21 zp22 => ?_)
    obtain ⟨rfl, ze20, zn23⟩ := zp22
    subst zm21
    subst zh19
    refine z_st (st' := [.int (soR m len c), .int (m ((20 + (2 * k)) + 1)), .int (((((m ((20 + (2 * k)) + 1)) * cold) / 100) * (10 + (m 7))) / 10)]) rfl ?_
    refine z_imul X dX12_freezesOf_62 ?_
    refine z_bipush (v := 100) X dX12_freezesOf_63 (by decide) ?_
    refine z_idiv X dX12_freezesOf_65 (by first | decide | exact ne_lt1 (Int32.not_lt.mpr (by assumption))) ?_
    refine z_iadd X dX12_freezesOf_66 ?_
    refine z_istore (ls' := [(10, .int ((((((m ((20 + (2 * k)) + 1)) * cold) / 100) * (10 + (m 7))) / 10) + (((m ((20 + (2 * k)) + 1)) * (soR m len c)) / 100))), (9, .int (((((m ((20 + (2 * k)) + 1)) * cold) / 100) * (10 + (m 7))) / 10)), (8, .int 1), (7, .int (((m ((20 + (2 * k)) + 1)) * cold) / 100)), (6, .int (m ((20 + (2 * k)) + 1))), (0, .ref a), (1, .int (nI k)), (2, .int (nI c)), (3, .int w), (4, .int s), (5, .int cold)]) X dX12_freezesOf_67 (by decide) rfl ?_
    refine z_aload_n X 5 dX12_freezesOf_69 rfl ?_
    refine z_bipush (v := 20) X dX12_freezesOf_70 (by decide) ?_
    refine z_iconst (v := 2) X dX12_freezesOf_72 (by decide) ?_
    refine z_iload_n X 6 dX12_freezesOf_73 rfl ?_
    refine z_imul X dX12_freezesOf_74 ?_
    refine z_toe (y := nI (2 * k)) (pk_mul (2) (k)) ?_
    refine z_iadd X dX12_freezesOf_75 ?_
    refine z_toe (y := nI (20 + (2 * k))) (nI_add (20) (2 * k)) ?_
    refine z_iald2 (v := m (20 + (2 * k))) X dX12_freezesOf_76 K0 (vp_in_nI (n := 20 + (2 * k)) (by omega) (by omega)) (congrArg m (nI_clamp (n := 20 + (2 * k)) (by omega))) ?_
    by_cases zc24 : m (20 + (2 * k)) = 1
    · refine z_tableIn (off := 39) X 116 dX12_freezesOf_77 (by rw [zc24]; decide) (by rw [zc24]; decide) (by rw [zc24]; decide) (by decide) ?_
      refine z_iload X 2 dX12_freezesOf_116 rfl ?_
      refine z_if_eq X 129 dX12_freezesOf_118 (by decide) (fun zc25 => ?_) (fun zc25 => ?_)
      · first | exact absurd zc25 (by decide) | exact absurd (by decide) zc25
      · try replace zc25 := mt (nI_eq (a := 1) (b := 0) (by omega) (by omega)).mpr zc25
        refine z_bipush (v := 10) X dX12_freezesOf_121 (by decide) ?_
        refine z_iload X 3 dX12_freezesOf_123 rfl ?_
        refine z_imul X dX12_freezesOf_125 ?_
        refine z_goto X 130 dX12_freezesOf_126 (by decide) ?_
        refine z_iret X E dX12_freezesOf_130 (by omega) (by omega) ⟨?_, ?_, ?_⟩
        · rw [frz]; (repeat first | rw [if_pos (by first | assumption | omega | exact ⟨by assumption, by assumption⟩ | exact ⟨by omega, by assumption⟩ | exact Int32.not_le.mp (by assumption) | exact ⟨by assumption, Int32.not_le.mp (by assumption)⟩)] | rw [if_neg (by first | assumption | omega | exact fun q => absurd q.1 (by assumption) | exact fun q => absurd q.2 (by assumption) | exact fun q => absurd q.1 (by omega) | exact Int32.not_lt.mpr (by assumption) | exact fun q => absurd q.2 (Int32.not_lt.mpr (by assumption)))]); first | done | rfl
        · first | rfl | (funext zz; simp only [va_up]; (repeat' split) <;> first | rfl | (exfalso; omega) | simp_all)
        · rfl
    by_cases zc26 : m (20 + (2 * k)) = 2
    · refine z_tableIn (off := 54) X 131 dX12_freezesOf_77 (by rw [zc26]; decide) (by rw [zc26]; decide) (by rw [zc26]; decide) (by decide) ?_
      refine z_iload X 1 dX12_freezesOf_131 rfl ?_
      refine z_iret X E dX12_freezesOf_133 (by omega) (by omega) ⟨?_, ?_, ?_⟩
      · rw [frz]; (repeat first | rw [if_pos (by first | assumption | omega | exact ⟨by assumption, by assumption⟩ | exact ⟨by omega, by assumption⟩ | exact Int32.not_le.mp (by assumption) | exact ⟨by assumption, Int32.not_le.mp (by assumption)⟩)] | rw [if_neg (by first | assumption | omega | exact fun q => absurd q.1 (by assumption) | exact fun q => absurd q.2 (by assumption) | exact fun q => absurd q.1 (by omega) | exact Int32.not_lt.mpr (by assumption) | exact fun q => absurd q.2 (Int32.not_lt.mpr (by assumption)))]); first | done | rfl
      · first | rfl | (funext zz; simp only [va_up]; (repeat' split) <;> first | rfl | (exfalso; omega) | simp_all)
      · rfl
    by_cases zc27 : m (20 + (2 * k)) = 3
    · refine z_tableIn (off := 57) X 134 dX12_freezesOf_77 (by rw [zc27]; decide) (by rw [zc27]; decide) (by rw [zc27]; decide) (by decide) ?_
      refine z_iload X 0 dX12_freezesOf_134 rfl ?_
      refine z_iret X E dX12_freezesOf_136 (by omega) (by omega) ⟨?_, ?_, ?_⟩
      · rw [frz]; (repeat first | rw [if_pos (by first | assumption | omega | exact ⟨by assumption, by assumption⟩ | exact ⟨by omega, by assumption⟩ | exact Int32.not_le.mp (by assumption) | exact ⟨by assumption, Int32.not_le.mp (by assumption)⟩)] | rw [if_neg (by first | assumption | omega | exact fun q => absurd q.1 (by assumption) | exact fun q => absurd q.2 (by assumption) | exact fun q => absurd q.1 (by omega) | exact Int32.not_lt.mpr (by assumption) | exact fun q => absurd q.2 (Int32.not_lt.mpr (by assumption)))]); first | done | rfl
      · first | rfl | (funext zz; simp only [va_up]; (repeat' split) <;> first | rfl | (exfalso; omega) | simp_all)
      · rfl
    by_cases zc28 : m (20 + (2 * k)) = 4
    · refine z_tableIn (off := 60) X 137 dX12_freezesOf_77 (by rw [zc28]; decide) (by rw [zc28]; decide) (by rw [zc28]; decide) (by decide) ?_
      refine z_iload X 0 dX12_freezesOf_137 rfl ?_
      refine z_iload X 4 dX12_freezesOf_139 rfl ?_
      refine z_iload X 9 dX12_freezesOf_141 rfl ?_
      refine z_imul X dX12_freezesOf_143 ?_
      refine z_iload_n X 8 dX12_freezesOf_144 rfl ?_
      refine z_iconst (v := 1) X dX12_freezesOf_145 (by decide) ?_
      refine z_icmp_ge X 153 dX12_freezesOf_146 (by decide) (fun zc29 => ?_) (fun zc29 => ?_)
      · refine z_iload_n X 8 dX12_freezesOf_153 rfl ?_
        refine z_idiv X dX12_freezesOf_154 (by first | decide | exact ne_lt1 (Int32.not_lt.mpr (by assumption))) ?_
        refine z_isub X dX12_freezesOf_155 ?_
        refine z_iret X E dX12_freezesOf_156 (by omega) (by omega) ⟨?_, ?_, ?_⟩
        · rw [frz]; (repeat first | rw [if_pos (by first | assumption | omega | exact ⟨by assumption, by assumption⟩ | exact ⟨by omega, by assumption⟩ | exact Int32.not_le.mp (by assumption) | exact ⟨by assumption, Int32.not_le.mp (by assumption)⟩)] | rw [if_neg (by first | assumption | omega | exact fun q => absurd q.1 (by assumption) | exact fun q => absurd q.2 (by assumption) | exact fun q => absurd q.1 (by omega) | exact Int32.not_lt.mpr (by assumption) | exact fun q => absurd q.2 (Int32.not_lt.mpr (by assumption)))]); first | done | rfl
        · first | rfl | (funext zz; simp only [va_up]; (repeat' split) <;> first | rfl | (exfalso; omega) | simp_all)
        · rfl
      · refine z_iconst (v := 1) X dX12_freezesOf_149 (by decide) ?_
        refine z_goto X 154 dX12_freezesOf_150 (by decide) ?_
        refine z_idiv X dX12_freezesOf_154 (by first | decide | exact ne_lt1 (Int32.not_lt.mpr (by assumption))) ?_
        refine z_isub X dX12_freezesOf_155 ?_
        refine z_iret X E dX12_freezesOf_156 (by omega) (by omega) ⟨?_, ?_, ?_⟩
        · rw [frz]; (repeat first | rw [if_pos (by first | assumption | omega | exact ⟨by assumption, by assumption⟩ | exact ⟨by omega, by assumption⟩ | exact Int32.not_le.mp (by assumption) | exact ⟨by assumption, Int32.not_le.mp (by assumption)⟩)] | rw [if_neg (by first | assumption | omega | exact fun q => absurd q.1 (by assumption) | exact fun q => absurd q.2 (by assumption) | exact fun q => absurd q.1 (by omega) | exact Int32.not_lt.mpr (by assumption) | exact fun q => absurd q.2 (Int32.not_lt.mpr (by assumption)))]); first | done | rfl
        · first | rfl | (funext zz; simp only [va_up]; (repeat' split) <;> first | rfl | (exfalso; omega) | simp_all)
        · rfl
    by_cases zc30 : m (20 + (2 * k)) = 5
    · refine z_tableIn (off := 80) X 157 dX12_freezesOf_77 (by rw [zc30]; decide) (by rw [zc30]; decide) (by rw [zc30]; decide) (by decide) ?_
      refine z_iload_n X 7 dX12_freezesOf_157 rfl ?_
      refine z_iconst (v := 2) X dX12_freezesOf_158 (by decide) ?_
      refine z_irem X dX12_freezesOf_159 (by decide) ?_
      refine z_iconst (v := 1) X dX12_freezesOf_160 (by decide) ?_
      refine z_icmp_ne X 180 dX12_freezesOf_161 (by decide) (fun zc31 => ?_) (fun zc31 => ?_)
      · refine z_iload X 3 dX12_freezesOf_180 rfl ?_
        refine z_iret X E dX12_freezesOf_182 (by omega) (by omega) ⟨?_, ?_, ?_⟩
        · rw [frz]; (repeat first | rw [if_pos (by first | assumption | omega | exact ⟨by assumption, by assumption⟩ | exact ⟨by omega, by assumption⟩ | exact Int32.not_le.mp (by assumption) | exact ⟨by assumption, Int32.not_le.mp (by assumption)⟩)] | rw [if_neg (by first | assumption | omega | exact fun q => absurd q.1 (by assumption) | exact fun q => absurd q.2 (by assumption) | exact fun q => absurd q.1 (by omega) | exact Int32.not_lt.mpr (by assumption) | exact fun q => absurd q.2 (Int32.not_lt.mpr (by assumption)))]); first | done | rfl
        · first | rfl | (funext zz; simp only [va_up]; (repeat' split) <;> first | rfl | (exfalso; omega) | simp_all)
        · rfl
      · refine z_aload_n X 5 dX12_freezesOf_164 rfl ?_
        refine z_bipush (v := 7) X dX12_freezesOf_165 (by decide) ?_
        refine z_iald2 (v := m 7) X dX12_freezesOf_167 K0 (vp_in_nI (n := 7) (by omega) (by omega)) (congrArg m (nI_clamp (n := 7) (by omega))) ?_
        refine z_bipush (v := 20) X dX12_freezesOf_168 (by decide) ?_
        refine z_icmp_le X 180 dX12_freezesOf_170 (by decide) (fun zc32 => ?_) (fun zc32 => ?_)
        · refine z_iload X 3 dX12_freezesOf_180 rfl ?_
          refine z_iret X E dX12_freezesOf_182 (by omega) (by omega) ⟨?_, ?_, ?_⟩
          · rw [frz]; (repeat first | rw [if_pos (by first | assumption | omega | exact ⟨by assumption, by assumption⟩ | exact ⟨by omega, by assumption⟩ | exact Int32.not_le.mp (by assumption) | exact ⟨by assumption, Int32.not_le.mp (by assumption)⟩)] | rw [if_neg (by first | assumption | omega | exact fun q => absurd q.1 (by assumption) | exact fun q => absurd q.2 (by assumption) | exact fun q => absurd q.1 (by omega) | exact Int32.not_lt.mpr (by assumption) | exact fun q => absurd q.2 (Int32.not_lt.mpr (by assumption)))]); first | done | rfl
          · first | rfl | (funext zz; simp only [va_up]; (repeat' split) <;> first | rfl | (exfalso; omega) | simp_all)
          · rfl
        · refine z_iconst (v := 2) X dX12_freezesOf_173 (by decide) ?_
          refine z_iload X 3 dX12_freezesOf_174 rfl ?_
          refine z_imul X dX12_freezesOf_176 ?_
          refine z_goto X 182 dX12_freezesOf_177 (by decide) ?_
          refine z_iret X E dX12_freezesOf_182 (by omega) (by omega) ⟨?_, ?_, ?_⟩
          · rw [frz]; (repeat first | rw [if_pos (by first | assumption | omega | exact ⟨by assumption, by assumption⟩ | exact ⟨by omega, by assumption⟩ | exact Int32.not_le.mp (by assumption) | exact ⟨by assumption, Int32.not_le.mp (by assumption)⟩)] | rw [if_neg (by first | assumption | omega | exact fun q => absurd q.1 (by assumption) | exact fun q => absurd q.2 (by assumption) | exact fun q => absurd q.1 (by omega) | exact Int32.not_lt.mpr (by assumption) | exact fun q => absurd q.2 (Int32.not_lt.mpr (by assumption)))]); first | done | rfl
          · first | rfl | (funext zz; simp only [va_up]; (repeat' split) <;> first | rfl | (exfalso; omega) | simp_all)
          · rfl
    by_cases zc33 : m (20 + (2 * k)) = 6
    · refine z_tableIn (off := 106) X 183 dX12_freezesOf_77 (by rw [zc33]; decide) (by rw [zc33]; decide) (by rw [zc33]; decide) (by decide) ?_
      refine z_iload X 2 dX12_freezesOf_183 rfl ?_
      refine z_if_eq X 196 dX12_freezesOf_185 (by decide) (fun zc34 => ?_) (fun zc34 => ?_)
      · first | exact absurd zc34 (by decide) | exact absurd (by decide) zc34
      · try replace zc34 := mt (nI_eq (a := 1) (b := 0) (by omega) (by omega)).mpr zc34
        refine z_bipush (v := 10) X dX12_freezesOf_188 (by decide) ?_
        refine z_iload X 3 dX12_freezesOf_190 rfl ?_
        refine z_imul X dX12_freezesOf_192 ?_
        refine z_goto X 197 dX12_freezesOf_193 (by decide) ?_
        refine z_iload X 2 dX12_freezesOf_197 rfl ?_
        refine z_if_eq X 216 dX12_freezesOf_199 (by decide) (fun zc35 => ?_) (fun zc35 => ?_)
        · first | exact absurd zc35 (by decide) | exact absurd (by decide) zc35
        · try replace zc35 := mt (nI_eq (a := 1) (b := 0) (by omega) (by omega)).mpr zc35
          refine z_aload_n X 5 dX12_freezesOf_202 rfl ?_
          refine z_iconst (v := 0) X dX12_freezesOf_203 (by decide) ?_
          refine z_iald2 (v := m 0) X dX12_freezesOf_204 K0 (vp_in_nI (n := 0) (by omega) (by omega)) (congrArg m (nI_clamp (n := 0) (by omega))) ?_
          refine z_bipush (v := 7) X dX12_freezesOf_205 (by decide) ?_
          refine z_irem X dX12_freezesOf_207 (by decide) ?_
          refine z_if_ne X 216 dX12_freezesOf_208 (by decide) (fun zc36 => ?_) (fun zc36 => ?_)
          · refine z_iconst (v := 0) X dX12_freezesOf_216 (by decide) ?_
            refine z_iadd X dX12_freezesOf_217 ?_
            refine z_iret X E dX12_freezesOf_218 (by omega) (by omega) ⟨?_, ?_, ?_⟩
            · rw [frz]; (repeat first | rw [if_pos (by first | assumption | omega | exact ⟨by assumption, by assumption⟩ | exact ⟨by omega, by assumption⟩ | exact Int32.not_le.mp (by assumption) | exact ⟨by assumption, Int32.not_le.mp (by assumption)⟩)] | rw [if_neg (by first | assumption | omega | exact fun q => absurd q.1 (by assumption) | exact fun q => absurd q.2 (by assumption) | exact fun q => absurd q.1 (by omega) | exact Int32.not_lt.mpr (by assumption) | exact fun q => absurd q.2 (Int32.not_lt.mpr (by assumption)))]); first | done | rfl
            · first | rfl | (funext zz; simp only [va_up]; (repeat' split) <;> first | rfl | (exfalso; omega) | simp_all)
            · rfl
          · refine z_iload X 4 dX12_freezesOf_211 rfl ?_
            refine z_goto X 217 dX12_freezesOf_213 (by decide) ?_
            refine z_iadd X dX12_freezesOf_217 ?_
            refine z_iret X E dX12_freezesOf_218 (by omega) (by omega) ⟨?_, ?_, ?_⟩
            · rw [frz]; (repeat first | rw [if_pos (by first | assumption | omega | exact ⟨by assumption, by assumption⟩ | exact ⟨by omega, by assumption⟩ | exact Int32.not_le.mp (by assumption) | exact ⟨by assumption, Int32.not_le.mp (by assumption)⟩)] | rw [if_neg (by first | assumption | omega | exact fun q => absurd q.1 (by assumption) | exact fun q => absurd q.2 (by assumption) | exact fun q => absurd q.1 (by omega) | exact Int32.not_lt.mpr (by assumption) | exact fun q => absurd q.2 (Int32.not_lt.mpr (by assumption)))]); first | done | rfl
            · first | rfl | (funext zz; simp only [va_up]; (repeat' split) <;> first | rfl | (exfalso; omega) | simp_all)
            · rfl
    refine z_tableOut X 219 dX12_freezesOf_77 (by have t0 := lv_neT zc24 (show (1 : Int32).toInt = 1 by decide); have t1 := lv_neT zc26 (show (2 : Int32).toInt = 2 by decide); have t2 := lv_neT zc27 (show (3 : Int32).toInt = 3 by decide); have t3 := lv_neT zc28 (show (4 : Int32).toInt = 4 by decide); have t4 := lv_neT zc30 (show (5 : Int32).toInt = 5 by decide); have t5 := lv_neT zc33 (show (6 : Int32).toInt = 6 by decide); omega) (by decide) ?_
    refine z_iload X 3 dX12_freezesOf_219 rfl ?_
    refine z_iret X E dX12_freezesOf_221 (by omega) (by omega) ⟨?_, ?_, ?_⟩
    · rw [frz]; (repeat first | rw [if_pos (by first | assumption | omega | exact ⟨by assumption, by assumption⟩ | exact ⟨by omega, by assumption⟩ | exact Int32.not_le.mp (by assumption) | exact ⟨by assumption, Int32.not_le.mp (by assumption)⟩)] | rw [if_neg (by first | assumption | omega | exact fun q => absurd q.1 (by assumption) | exact fun q => absurd q.2 (by assumption) | exact fun q => absurd q.1 (by omega) | exact Int32.not_lt.mpr (by assumption) | exact fun q => absurd q.2 (Int32.not_lt.mpr (by assumption)))]); first | done | rfl
    · first | rfl | (funext zz; simp only [va_up]; (repeat' split) <;> first | rfl | (exfalso; omega) | simp_all)
    · rfl
def saltR (m : Nat → Int32) (len : Nat) : Int32 := sumN (fun c => m (140 + c)) len
def massR (m : Nat → Int32) (len : Nat) : Int32 := sumN (fun c => m (100 + c)) len + saltR m len / 1000
set_option maxHeartbeats 4000000 in
set_option maxRecDepth 100000 in
theorem r_saltOf {κ : Wc} {l : Launch} {h : Mm} {n : Nat} {a : Nat} {m : Nat → Int32} {len : Nat} (K0 : h a = arI κ 340 m) (q1 : m 1 = nI len) (q2 : 1 ≤ len) (q3 : len ≤ 40) : Con κ l yX12_saltOf cX12_saltOf 3 (some .int) 1 0 0 [.ref a] h n (fun q h' n' => q = some (.int (saltR m len)) ∧ h' = h ∧ n' = n) := by
  refine Con.of mk_X12_saltOf (Nat.le_of_ble_eq_true rfl) (fun G hG X E => ?_)
  subst hG
  refine z_ls (ls' := [(0, .ref a)]) rfl ?_
  refine z_iconst (v := 0) X dX12_saltOf_0 (by decide) ?_
  refine z_istore_n (ls' := [(1, .int 0), (0, .ref a)]) X dX12_saltOf_1 (by decide) rfl ?_
  refine z_iconst (v := 0) X dX12_saltOf_2 (by decide) ?_
  refine z_istore_n (ls' := [(2, .int 0), (1, .int 0), (0, .ref a)]) X dX12_saltOf_3 (by decide) rfl ?_
  have L4 : ∀ (jj : Nat)  (i : Nat), (len - i < jj) → (hi : i ≤ len) → Z κ G 3 4 [(0, .ref a), (1, .int (sumN (fun c => m (140 + c)) i)), (2, .int (nI i))] [] h n 0 (0) := by
    intro jj
    induction jj with
    | zero => intro  i hmu; exact absurd hmu (Nat.not_lt_zero _)
    | succ jj ih4 =>
      intro  i hmu  hi
      refine z_iload_n X 2 dX12_saltOf_4 rfl ?_
      refine z_aload_n X 0 dX12_saltOf_5 rfl ?_
      refine z_iconst (v := 1) X dX12_saltOf_6 (by decide) ?_
      refine z_iald2 (v := m 1) X dX12_saltOf_7 K0 (vp_in_nI (n := 1) (by omega) (by omega)) (congrArg m (nI_clamp (n := 1) (by omega))) ?_
      refine z_toe (y := nI len) (q1) ?_
      refine z_icmp_ge X 27 dX12_saltOf_8 (by decide) (fun zc2 => ?_) (fun zc2 => ?_)
      · try replace zc2 := (nI_leI (a := len) (b := i) (by omega) (by omega)).mp zc2
        refine z_iload_n X 1 dX12_saltOf_27 rfl ?_
        refine z_iret X E dX12_saltOf_28 (by omega) (by omega) ⟨?_, ?_, ?_⟩
        · rw [saltR, show i = len by omega]
        · first | rfl | (funext zz; simp only [va_up]; (repeat' split) <;> first | rfl | (exfalso; omega) | simp_all)
        · rfl
      · try replace zc2 := mt (nI_leI (a := len) (b := i) (by omega) (by omega)).mpr zc2
        refine z_iload_n X 1 dX12_saltOf_11 rfl ?_
        refine z_aload_n X 0 dX12_saltOf_12 rfl ?_
        refine z_sipush (v := 140) X dX12_saltOf_13 (by decide) ?_
        refine z_iload_n X 2 dX12_saltOf_16 rfl ?_
        refine z_iadd X dX12_saltOf_17 ?_
        refine z_toe (y := nI (140 + i)) (nI_add (140) (i)) ?_
        refine z_iald2 (v := m (140 + i)) X dX12_saltOf_18 K0 (vp_in_nI (n := 140 + i) (by omega) (by omega)) (congrArg m (nI_clamp (n := 140 + i) (by omega))) ?_
        refine z_iadd X dX12_saltOf_19 ?_
        refine z_istore_n (ls' := [(1, .int ((sumN (fun c => m (140 + c)) i) + (m (140 + i)))), (0, .ref a), (2, .int (nI i))]) X dX12_saltOf_20 (by decide) rfl ?_
        refine z_iinc (v := nI (i + 1)) (ls' := [(2, .int (nI (i + 1))), (1, .int ((sumN (fun c => m (140 + c)) i) + (m (140 + i)))), (0, .ref a)]) X 2 dX12_saltOf_21 rfl (nI_1 (i)) (by decide) rfl ?_
        refine z_goto X 4 dX12_saltOf_24 (by decide) ?_
        refine z_sub (ls' := [(0, .ref a), (1, .int ((sumN (fun c => m (140 + c)) i) + (m (140 + i)))), (2, .int (nI (i + 1)))]) [2, 1, 0] rfl ?_
        exact ih4 (i + 1) (by omega) (by first | assumption | rfl | omega)
  refine z_sub (ls' := [(0, .ref a), (1, .int 0), (2, .int 0)]) [2, 1, 0] rfl ?_
  exact L4 _ 0 (Nat.lt_succ_self _) (by first | assumption | rfl | omega)
set_option maxHeartbeats 4000000 in
set_option maxRecDepth 100000 in
theorem r_massOf {κ : Wc} {l : Launch} {h : Mm} {n : Nat} {a : Nat} {m : Nat → Int32} {len : Nat} (K0 : h a = arI κ 340 m) (q1 : m 1 = nI len) (q2 : 1 ≤ len) (q3 : len ≤ 40) : Con κ l yX12_massOf cX12_massOf 3 (some .int) 2 0 0 [.ref a] h n (fun q h' n' => q = some (.int (massR m len)) ∧ h' = h ∧ n' = n) := by
  refine Con.of mk_X12_massOf (Nat.le_of_ble_eq_true rfl) (fun G hG X E => ?_)
  subst hG
  refine z_ls (ls' := [(0, .ref a)]) rfl ?_
  refine z_iconst (v := 0) X dX12_massOf_0 (by decide) ?_
  refine z_istore_n (ls' := [(1, .int 0), (0, .ref a)]) X dX12_massOf_1 (by decide) rfl ?_
  refine z_iconst (v := 0) X dX12_massOf_2 (by decide) ?_
  refine z_istore_n (ls' := [(2, .int 0), (1, .int 0), (0, .ref a)]) X dX12_massOf_3 (by decide) rfl ?_
  have L4 : ∀ (jj : Nat)  (i : Nat), (len - i < jj) → (hi : i ≤ len) → Z κ G 3 4 [(0, .ref a), (1, .int (sumN (fun c => m (100 + c)) i)), (2, .int (nI i))] [] h n 0 (0) := by
    intro jj
    induction jj with
    | zero => intro  i hmu; exact absurd hmu (Nat.not_lt_zero _)
    | succ jj ih4 =>
      intro  i hmu  hi
      refine z_iload_n X 2 dX12_massOf_4 rfl ?_
      refine z_aload_n X 0 dX12_massOf_5 rfl ?_
      refine z_iconst (v := 1) X dX12_massOf_6 (by decide) ?_
      refine z_iald2 (v := m 1) X dX12_massOf_7 K0 (vp_in_nI (n := 1) (by omega) (by omega)) (congrArg m (nI_clamp (n := 1) (by omega))) ?_
      refine z_toe (y := nI len) (q1) ?_
      refine z_icmp_ge X 26 dX12_massOf_8 (by decide) (fun zc2 => ?_) (fun zc2 => ?_)
      · try replace zc2 := (nI_leI (a := len) (b := i) (by omega) (by omega)).mp zc2
        refine z_iload_n X 1 dX12_massOf_26 rfl ?_
        refine z_aload_n X 0 dX12_massOf_27 rfl ?_
        refine z_callS X (r_saltOf (κ := κ) (n := n) (a := (a)) (m := (m)) K0 (by first | assumption | omega) (by first | assumption | omega) (by first | assumption | omega)) mk_X12_saltOf dX12_massOf_28 wd_1181 wd_1182 rfl rfl (Nat.le_of_ble_eq_true rfl) (Nat.le_of_ble_eq_true rfl) (Nat.le_of_ble_eq_true rfl) (by omega) (by omega) (fun q zh3 zm5 zp6 => ?_)
        obtain ⟨rfl, ze4, zn7⟩ := zp6
        subst zm5
        subst zh3
        refine z_st (st' := [.int (saltR m len), .int (sumN (fun c => m (100 + c)) i)]) rfl ?_
        refine z_sipush (v := 1000) X dX12_massOf_31 (by decide) ?_
        refine z_idiv X dX12_massOf_34 (by decide) ?_
        refine z_iadd X dX12_massOf_35 ?_
        refine z_iret X E dX12_massOf_36 (by omega) (by omega) ⟨?_, ?_, ?_⟩
        · rw [massR, show i = len by omega]
        · first | rfl | (funext zz; simp only [va_up]; (repeat' split) <;> first | rfl | (exfalso; omega) | simp_all)
        · rfl
      · try replace zc2 := mt (nI_leI (a := len) (b := i) (by omega) (by omega)).mpr zc2
        refine z_iload_n X 1 dX12_massOf_11 rfl ?_
        refine z_aload_n X 0 dX12_massOf_12 rfl ?_
        refine z_bipush (v := 100) X dX12_massOf_13 (by decide) ?_
        refine z_iload_n X 2 dX12_massOf_15 rfl ?_
        refine z_iadd X dX12_massOf_16 ?_
        refine z_toe (y := nI (100 + i)) (nI_add (100) (i)) ?_
        refine z_iald2 (v := m (100 + i)) X dX12_massOf_17 K0 (vp_in_nI (n := 100 + i) (by omega) (by omega)) (congrArg m (nI_clamp (n := 100 + i) (by omega))) ?_
        refine z_iadd X dX12_massOf_18 ?_
        refine z_istore_n (ls' := [(1, .int ((sumN (fun c => m (100 + c)) i) + (m (100 + i)))), (0, .ref a), (2, .int (nI i))]) X dX12_massOf_19 (by decide) rfl ?_
        refine z_iinc (v := nI (i + 1)) (ls' := [(2, .int (nI (i + 1))), (1, .int ((sumN (fun c => m (100 + c)) i) + (m (100 + i)))), (0, .ref a)]) X 2 dX12_massOf_20 rfl (nI_1 (i)) (by decide) rfl ?_
        refine z_goto X 4 dX12_massOf_23 (by decide) ?_
        refine z_sub (ls' := [(0, .ref a), (1, .int ((sumN (fun c => m (100 + c)) i) + (m (100 + i)))), (2, .int (nI (i + 1)))]) [2, 1, 0] rfl ?_
        exact ih4 (i + 1) (by omega) (by first | assumption | rfl | omega)
  refine z_sub (ls' := [(0, .ref a), (1, .int 0), (2, .int 0)]) [2, 1, 0] rfl ?_
  exact L4 _ 0 (Nat.lt_succ_self _) (by first | assumption | rfl | omega)
set_option maxHeartbeats 4000000 in
set_option maxRecDepth 100000 in
theorem r_mass {κ : Wc} {l : Launch} {h : Mm} {n : Nat} {o : Nat} {d : Nat → Int32} {len : Nat} {im : Int32} {ba : Int32} {at_ : Int32} {sz : Int32} {fa : Int32} {op : Int32} {rm : Int32} {ti : Int32} {tm : Int32} {wh : Int32} (K0 : h o = some (.inr (12, [.ref (o + 1), .ref (o + 2), .ref (o + 3), .int im, .ref (o + 4), .int ba, .int at_, .int sz, .int fa, .int op, .ref (o + 5), .ref (o + 6), .int rm, .ref (o + 7), .ref (o + 8), .int ti, .ref (o + 9), .int tm, .int wh, .ref (o + 10), .ref (o + 11), .ref (o + 12), .ref (o + 13)]))) (K1 : h (o + 1) = arI κ 340 d) (q1 : d 1 = nI len) (q2 : 1 ≤ len) (q3 : len ≤ 40) : Con κ l yX12_mass cX12_mass 1 (some .int) 3 0 0 [.ref o] h n (fun q h' n' => q = some (.int (massR d len)) ∧ h' = h ∧ n' = n) := by
  refine Con.of mk_X12_mass (Nat.le_of_ble_eq_true rfl) (fun G hG X E => ?_)
  subst hG
  refine z_ls (ls' := [(0, .ref o)]) rfl ?_
  refine z_aload_n X 0 dX12_mass_0 rfl ?_
  refine z_get X fl_X12_7_12 dX12_mass_1 K0 rfl ?_
  refine z_callS X (r_massOf (κ := κ) (n := n) (a := (o + 1)) (m := (d)) K1 (by first | assumption | omega) (by first | assumption | omega) (by first | assumption | omega)) mk_X12_massOf dX12_mass_4 wd_1178 wd_1179 rfl rfl (Nat.le_of_ble_eq_true rfl) (Nat.le_of_ble_eq_true rfl) (Nat.le_of_ble_eq_true rfl) (by omega) (by omega) (fun q zh1 zm3 zp4 => ?_)
  obtain ⟨rfl, ze2, zn5⟩ := zp4
  subst zm3
  subst zh1
  refine z_st (st' := [.int (massR d len)]) rfl ?_
  refine z_iret X E dX12_mass_7 (by omega) (by omega) ⟨?_, ?_, ?_⟩
  · rfl
  · first | rfl | (funext zz; simp only [va_up]; (repeat' split) <;> first | rfl | (exfalso; omega) | simp_all)
  · rfl
