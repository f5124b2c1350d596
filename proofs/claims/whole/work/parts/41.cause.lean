theorem z_aastO {κ : Wc} {G : Gm} {cc : ByteArray} {nL d mc ms : Nat} {own : String} {pc : Nat} {ls : Lc} {st : List Value} {h : Mm} {n ca sl : Nat} (X : Ok κ G cc nL own d mc ms) {a t N : Nat} {E : String} {o : Option Nat} {f : Nat → Option Nat} {i : Int32} (hd : decode cc pc = .ok (.aastore, 1)) (he : h a = some (.inl (κ.2.1 t, N, .inr (.inr (.inr (.inr f)))))) (ht : (wT κ)[t]? = some (κ.2.1 t, .object E)) (ho : o = none ∨ ∃ (v ci M : Nat) (C : String) (T : u_T) (vs : List Value), o = some v ∧ h v = some (.inr (ci, vs)) ∧ vwCl[ci]? = some (C, T, M) ∧ (C = E ∨ Cond.castable C E ∈ nwL)) (hi : vp_in i N) {h' : Mm} (hh : va_up h a (some (.inl (κ.2.1 t, N, .inr (.inr (.inr (.inr (va_up f i.toNatClampNeg o))))))) = h') (kk : Z κ G nL (pc + 1) ls st h' n ca sl) : Z κ G nL pc ls (va_rf o :: .int i :: .ref a :: st) h n ca sl := by
  rcases ho with rfl | ⟨v, ci, M, C, T, vs, rfl, h1, h2, h3⟩
  · exact z_aastN X hd he ht hi hh kk
  · exact z_aast X hd he ht h1 h2 h3 hi hh kk
/-- the class of a kind -/
def ciK (kd : Nat) : Nat := match kd with
  | 1 => 10
  | 2 => 8
  | 3 => 5
  | 4 => 7
  | 5 => 4
  | 6 => 1
  | _ => 0
theorem lt7 {k : Nat} (h : k < 7) : k = 0 ∨ k = 1 ∨ k = 2 ∨ k = 3 ∨ k = 4 ∨ k = 5 ∨ k = 6 := by omega
/-- what a cause of a kind freezes -/
def frK (kd : Nat) (q cold wind now : Int32) (m : Nat → Int32) (len c : Nat) (w s : Int32) : Int32 := match kd with
  | 1 => if c + 1 = len then 10 * frP q cold else 0
  | 2 => frS q cold wind
  | 3 => frR q cold wind (soR m len c)
  | 4 => frR q cold wind (soR m len c) - q * s / (if w < 1 then 1 else w)
  | 5 => if nI c - nI c / 2 * 2 = 1 ∧ 20 < wind then 2 * frP q cold else frP q cold
  | 6 => (if c + 1 = len then 10 * frP q cold else 0) + (if c + 1 = len ∧ now - now / 7 * 7 = 0 then q else 0)
  | _ => frP q cold
theorem frz_K {m : Nat → Int32} {len k c kd : Nat} {w s cold : Int32} (h : m (20 + 2 * k) = nI kd) (hk : kd < 7) : frz m len k c w s cold = frK kd (m (20 + 2 * k + 1)) cold (m 7) (m 0) m len c w s := by
  unfold frz
  rw [h]
  rcases lt7 hk with rfl | rfl | rfl | rfl | rfl | rfl | rfl <;> rfl
theorem mx1_ne (w : Int32) : ¬ (if w < 1 then (1 : Int32) else w) = 0 := by
  by_cases h : w < 1
  · rw [if_pos h]; decide
  · rw [if_neg h]; exact ne_lt1 h
set_option maxHeartbeats 4000000 in
set_option maxRecDepth 100000 in
theorem k_init_0_0 {κ : Wc} {l : Launch} {h : Mm} {n : Nat} {a : Nat} {kd : Int32} {nb : Int32} {em : Int32} (K0 : h a = some (.inr (0, [.int 0, .int 0, .int 0])))  : Con κ l yX0_init cX0_init 4 none 2 0 0 [.ref a, .int kd, .int nb, .int em] h n (fun q h' n' => q = none ∧ h' = va_up h a (some (.inr (0, [.int kd, .int nb, .int em]))) ∧ n' = n) := by
  refine Con.of mk_X0_init (Nat.le_of_ble_eq_true rfl) (fun G hG X E => ?_)
  subst hG
  refine z_ls (ls' := [(0, .ref a), (1, .int kd), (2, .int nb), (3, .int em)]) rfl ?_
  refine z_aload_n X 0 dX0_init_0 rfl ?_
  refine z_objInit X dX0_init_1 wd_329 wd_80 wd_81 (Nat.le_of_ble_eq_true rfl) (Nat.le_of_ble_eq_true rfl) ?_
  refine z_aload_n X 0 dX0_init_4 rfl ?_
  refine z_iload_n X 1 dX0_init_5 rfl ?_
  refine z_putF X E fp_X0_7_0 dX0_init_6 K0 (by first | rfl | decide) (by first | rfl | decide) (Nat.le_of_ble_eq_true rfl) rfl ?_
  obtain ⟨zh1, ze2⟩ : ∃ z : Mm, z = va_up h a (some (.inr (0, [.int kd, .int 0, .int 0]))) := ⟨_, rfl⟩
  refine z_heap (h' := zh1) ze2.symm ?_
  have zK3 := up_at ze2
  refine z_aload_n X 0 dX0_init_9 rfl ?_
  refine z_iload_n X 2 dX0_init_10 rfl ?_
  refine z_putF X E fp_X0_13_0 dX0_init_11 zK3 (by first | rfl | decide) (by first | rfl | decide) (Nat.le_of_ble_eq_true rfl) rfl ?_
  obtain ⟨zh4, ze5⟩ : ∃ z : Mm, z = va_up zh1 a (some (.inr (0, [.int kd, .int nb, .int 0]))) := ⟨_, rfl⟩
  refine z_heap (h' := zh4) ze5.symm ?_
  have zK6 := up_at ze5
  refine z_aload_n X 0 dX0_init_14 rfl ?_
  refine z_iload_n X 3 dX0_init_15 rfl ?_
  refine z_putF X E fp_X0_16_0 dX0_init_16 zK6 (by first | rfl | decide) (by first | rfl | decide) (Nat.le_of_ble_eq_true rfl) rfl ?_
  obtain ⟨zh7, ze8⟩ : ∃ z : Mm, z = va_up zh4 a (some (.inr (0, [.int kd, .int nb, .int em]))) := ⟨_, rfl⟩
  refine z_heap (h' := zh7) ze8.symm ?_
  have zK9 := up_at ze8
  refine z_vret X E dX0_init_19 (by omega) (by omega) ⟨?_, ?_, ?_⟩
  · rfl
  · funext zz; by_cases zq0 : zz = a; (rw [zq0, va_up_self]; exact zK9); rw [va_up_ne _ _ zq0]; rw [ze8, ze5, ze2]; simp only [va_up, if_neg zq0]
  · rfl
set_option maxHeartbeats 4000000 in
set_option maxRecDepth 100000 in
theorem k_init_0_1 {κ : Wc} {l : Launch} {h : Mm} {n : Nat} {a : Nat} {kd : Int32} {nb : Int32} {em : Int32} (K0 : h a = some (.inr (10, [.int 0, .int 0, .int 0])))  : Con κ l yX0_init cX0_init 4 none 2 0 0 [.ref a, .int kd, .int nb, .int em] h n (fun q h' n' => q = none ∧ h' = va_up h a (some (.inr (10, [.int kd, .int nb, .int em]))) ∧ n' = n) := by
  refine Con.of mk_X0_init (Nat.le_of_ble_eq_true rfl) (fun G hG X E => ?_)
  subst hG
  refine z_ls (ls' := [(0, .ref a), (1, .int kd), (2, .int nb), (3, .int em)]) rfl ?_
  refine z_aload_n X 0 dX0_init_0 rfl ?_
  refine z_objInit X dX0_init_1 wd_329 wd_80 wd_81 (Nat.le_of_ble_eq_true rfl) (Nat.le_of_ble_eq_true rfl) ?_
  refine z_aload_n X 0 dX0_init_4 rfl ?_
  refine z_iload_n X 1 dX0_init_5 rfl ?_
  refine z_putF X E fp_X0_7_10 dX0_init_6 K0 (by first | rfl | decide) (by first | rfl | decide) (Nat.le_of_ble_eq_true rfl) rfl ?_
  obtain ⟨zh1, ze2⟩ : ∃ z : Mm, z = va_up h a (some (.inr (10, [.int kd, .int 0, .int 0]))) := ⟨_, rfl⟩
  refine z_heap (h' := zh1) ze2.symm ?_
  have zK3 := up_at ze2
  refine z_aload_n X 0 dX0_init_9 rfl ?_
  refine z_iload_n X 2 dX0_init_10 rfl ?_
  refine z_putF X E fp_X0_13_10 dX0_init_11 zK3 (by first | rfl | decide) (by first | rfl | decide) (Nat.le_of_ble_eq_true rfl) rfl ?_
  obtain ⟨zh4, ze5⟩ : ∃ z : Mm, z = va_up zh1 a (some (.inr (10, [.int kd, .int nb, .int 0]))) := ⟨_, rfl⟩
  refine z_heap (h' := zh4) ze5.symm ?_
  have zK6 := up_at ze5
  refine z_aload_n X 0 dX0_init_14 rfl ?_
  refine z_iload_n X 3 dX0_init_15 rfl ?_
  refine z_putF X E fp_X0_16_10 dX0_init_16 zK6 (by first | rfl | decide) (by first | rfl | decide) (Nat.le_of_ble_eq_true rfl) rfl ?_
  obtain ⟨zh7, ze8⟩ : ∃ z : Mm, z = va_up zh4 a (some (.inr (10, [.int kd, .int nb, .int em]))) := ⟨_, rfl⟩
  refine z_heap (h' := zh7) ze8.symm ?_
  have zK9 := up_at ze8
  refine z_vret X E dX0_init_19 (by omega) (by omega) ⟨?_, ?_, ?_⟩
  · rfl
  · funext zz; by_cases zq0 : zz = a; (rw [zq0, va_up_self]; exact zK9); rw [va_up_ne _ _ zq0]; rw [ze8, ze5, ze2]; simp only [va_up, if_neg zq0]
  · rfl
set_option maxHeartbeats 4000000 in
set_option maxRecDepth 100000 in
theorem k_init_1_1 {κ : Wc} {l : Launch} {h : Mm} {n : Nat} {a : Nat} {kd : Int32} {nb : Int32} {em : Int32} (K0 : h a = some (.inr (10, [.int 0, .int 0, .int 0])))  : Con κ l yX10_init cX10_init 4 none 3 0 0 [.ref a, .int kd, .int nb, .int em] h n (fun q h' n' => q = none ∧ h' = va_up h a (some (.inr (10, [.int kd, .int nb, .int em]))) ∧ n' = n) := by
  refine Con.of mk_X10_init (Nat.le_of_ble_eq_true rfl) (fun G hG X E => ?_)
  subst hG
  refine z_ls (ls' := [(0, .ref a), (1, .int kd), (2, .int nb), (3, .int em)]) rfl ?_
  refine z_aload_n X 0 dX10_init_0 rfl ?_
  refine z_iload_n X 1 dX10_init_1 rfl ?_
  refine z_iload_n X 2 dX10_init_2 rfl ?_
  refine z_iload_n X 3 dX10_init_3 rfl ?_
  refine z_callI X (k_init_0_1 (κ := κ) (n := n) (a := (a)) (kd := (kd)) (nb := (nb)) (em := (em)) K0 ) mk_X0_init dX10_init_4 wd_326 wd_327 rfl rfl rfl (Nat.le_of_ble_eq_true rfl) (Nat.le_of_ble_eq_true rfl) (Nat.le_of_ble_eq_true rfl) (by omega) (by omega) (fun q zh1 zm3 zp4 => ?_)
  obtain ⟨rfl, ze2, zn5⟩ := zp4
  subst zm3
  refine z_st (st' := []) rfl ?_
  have zK6 : zh1 a = some (.inr (10, [.int kd, .int nb, .int em])) := by rw [ze2]; exact va_up_self _ _ _
  refine z_vret X E dX10_init_7 (by omega) (by omega) ⟨?_, ?_, ?_⟩
  · rfl
  · funext zz; by_cases zq0 : zz = a; (rw [zq0, va_up_self]; exact zK6); rw [va_up_ne _ _ zq0]; rw [ze2]; simp only [va_up, if_neg zq0]
  · rfl
set_option maxHeartbeats 4000000 in
set_option maxRecDepth 100000 in
theorem k_init_0_2 {κ : Wc} {l : Launch} {h : Mm} {n : Nat} {a : Nat} {kd : Int32} {nb : Int32} {em : Int32} (K0 : h a = some (.inr (8, [.int 0, .int 0, .int 0])))  : Con κ l yX0_init cX0_init 4 none 2 0 0 [.ref a, .int kd, .int nb, .int em] h n (fun q h' n' => q = none ∧ h' = va_up h a (some (.inr (8, [.int kd, .int nb, .int em]))) ∧ n' = n) := by
  refine Con.of mk_X0_init (Nat.le_of_ble_eq_true rfl) (fun G hG X E => ?_)
  subst hG
  refine z_ls (ls' := [(0, .ref a), (1, .int kd), (2, .int nb), (3, .int em)]) rfl ?_
  refine z_aload_n X 0 dX0_init_0 rfl ?_
  refine z_objInit X dX0_init_1 wd_329 wd_80 wd_81 (Nat.le_of_ble_eq_true rfl) (Nat.le_of_ble_eq_true rfl) ?_
  refine z_aload_n X 0 dX0_init_4 rfl ?_
  refine z_iload_n X 1 dX0_init_5 rfl ?_
  refine z_putF X E fp_X0_7_8 dX0_init_6 K0 (by first | rfl | decide) (by first | rfl | decide) (Nat.le_of_ble_eq_true rfl) rfl ?_
  obtain ⟨zh1, ze2⟩ : ∃ z : Mm, z = va_up h a (some (.inr (8, [.int kd, .int 0, .int 0]))) := ⟨_, rfl⟩
  refine z_heap (h' := zh1) ze2.symm ?_
  have zK3 := up_at ze2
  refine z_aload_n X 0 dX0_init_9 rfl ?_
  refine z_iload_n X 2 dX0_init_10 rfl ?_
  refine z_putF X E fp_X0_13_8 dX0_init_11 zK3 (by first | rfl | decide) (by first | rfl | decide) (Nat.le_of_ble_eq_true rfl) rfl ?_
  obtain ⟨zh4, ze5⟩ : ∃ z : Mm, z = va_up zh1 a (some (.inr (8, [.int kd, .int nb, .int 0]))) := ⟨_, rfl⟩
  refine z_heap (h' := zh4) ze5.symm ?_
  have zK6 := up_at ze5
  refine z_aload_n X 0 dX0_init_14 rfl ?_
  refine z_iload_n X 3 dX0_init_15 rfl ?_
  refine z_putF X E fp_X0_16_8 dX0_init_16 zK6 (by first | rfl | decide) (by first | rfl | decide) (Nat.le_of_ble_eq_true rfl) rfl ?_
  obtain ⟨zh7, ze8⟩ : ∃ z : Mm, z = va_up zh4 a (some (.inr (8, [.int kd, .int nb, .int em]))) := ⟨_, rfl⟩
  refine z_heap (h' := zh7) ze8.symm ?_
  have zK9 := up_at ze8
  refine z_vret X E dX0_init_19 (by omega) (by omega) ⟨?_, ?_, ?_⟩
  · rfl
  · funext zz; by_cases zq0 : zz = a; (rw [zq0, va_up_self]; exact zK9); rw [va_up_ne _ _ zq0]; rw [ze8, ze5, ze2]; simp only [va_up, if_neg zq0]
  · rfl
set_option maxHeartbeats 4000000 in
set_option maxRecDepth 100000 in
theorem k_init_2_2 {κ : Wc} {l : Launch} {h : Mm} {n : Nat} {a : Nat} {kd : Int32} {nb : Int32} {em : Int32} (K0 : h a = some (.inr (8, [.int 0, .int 0, .int 0])))  : Con κ l yX8_init cX8_init 4 none 3 0 0 [.ref a, .int kd, .int nb, .int em] h n (fun q h' n' => q = none ∧ h' = va_up h a (some (.inr (8, [.int kd, .int nb, .int em]))) ∧ n' = n) := by
  refine Con.of mk_X8_init (Nat.le_of_ble_eq_true rfl) (fun G hG X E => ?_)
  subst hG
  refine z_ls (ls' := [(0, .ref a), (1, .int kd), (2, .int nb), (3, .int em)]) rfl ?_
  refine z_aload_n X 0 dX8_init_0 rfl ?_
  refine z_iload_n X 1 dX8_init_1 rfl ?_
  refine z_iload_n X 2 dX8_init_2 rfl ?_
  refine z_iload_n X 3 dX8_init_3 rfl ?_
  refine z_callI X (k_init_0_2 (κ := κ) (n := n) (a := (a)) (kd := (kd)) (nb := (nb)) (em := (em)) K0 ) mk_X0_init dX8_init_4 wd_357 wd_327 rfl rfl rfl (Nat.le_of_ble_eq_true rfl) (Nat.le_of_ble_eq_true rfl) (Nat.le_of_ble_eq_true rfl) (by omega) (by omega) (fun q zh1 zm3 zp4 => ?_)
  obtain ⟨rfl, ze2, zn5⟩ := zp4
  subst zm3
  refine z_st (st' := []) rfl ?_
  have zK6 : zh1 a = some (.inr (8, [.int kd, .int nb, .int em])) := by rw [ze2]; exact va_up_self _ _ _
  refine z_vret X E dX8_init_7 (by omega) (by omega) ⟨?_, ?_, ?_⟩
  · rfl
  · funext zz; by_cases zq0 : zz = a; (rw [zq0, va_up_self]; exact zK6); rw [va_up_ne _ _ zq0]; rw [ze2]; simp only [va_up, if_neg zq0]
  · rfl
set_option maxHeartbeats 4000000 in
set_option maxRecDepth 100000 in
theorem k_init_0_3 {κ : Wc} {l : Launch} {h : Mm} {n : Nat} {a : Nat} {kd : Int32} {nb : Int32} {em : Int32} (K0 : h a = some (.inr (5, [.int 0, .int 0, .int 0])))  : Con κ l yX0_init cX0_init 4 none 2 0 0 [.ref a, .int kd, .int nb, .int em] h n (fun q h' n' => q = none ∧ h' = va_up h a (some (.inr (5, [.int kd, .int nb, .int em]))) ∧ n' = n) := by
  refine Con.of mk_X0_init (Nat.le_of_ble_eq_true rfl) (fun G hG X E => ?_)
  subst hG
  refine z_ls (ls' := [(0, .ref a), (1, .int kd), (2, .int nb), (3, .int em)]) rfl ?_
  refine z_aload_n X 0 dX0_init_0 rfl ?_
  refine z_objInit X dX0_init_1 wd_329 wd_80 wd_81 (Nat.le_of_ble_eq_true rfl) (Nat.le_of_ble_eq_true rfl) ?_
  refine z_aload_n X 0 dX0_init_4 rfl ?_
  refine z_iload_n X 1 dX0_init_5 rfl ?_
  refine z_putF X E fp_X0_7_5 dX0_init_6 K0 (by first | rfl | decide) (by first | rfl | decide) (Nat.le_of_ble_eq_true rfl) rfl ?_
  obtain ⟨zh1, ze2⟩ : ∃ z : Mm, z = va_up h a (some (.inr (5, [.int kd, .int 0, .int 0]))) := ⟨_, rfl⟩
  refine z_heap (h' := zh1) ze2.symm ?_
  have zK3 := up_at ze2
  refine z_aload_n X 0 dX0_init_9 rfl ?_
  refine z_iload_n X 2 dX0_init_10 rfl ?_
  refine z_putF X E fp_X0_13_5 dX0_init_11 zK3 (by first | rfl | decide) (by first | rfl | decide) (Nat.le_of_ble_eq_true rfl) rfl ?_
  obtain ⟨zh4, ze5⟩ : ∃ z : Mm, z = va_up zh1 a (some (.inr (5, [.int kd, .int nb, .int 0]))) := ⟨_, rfl⟩
  refine z_heap (h' := zh4) ze5.symm ?_
  have zK6 := up_at ze5
  refine z_aload_n X 0 dX0_init_14 rfl ?_
  refine z_iload_n X 3 dX0_init_15 rfl ?_
  refine z_putF X E fp_X0_16_5 dX0_init_16 zK6 (by first | rfl | decide) (by first | rfl | decide) (Nat.le_of_ble_eq_true rfl) rfl ?_
  obtain ⟨zh7, ze8⟩ : ∃ z : Mm, z = va_up zh4 a (some (.inr (5, [.int kd, .int nb, .int em]))) := ⟨_, rfl⟩
  refine z_heap (h' := zh7) ze8.symm ?_
  have zK9 := up_at ze8
  refine z_vret X E dX0_init_19 (by omega) (by omega) ⟨?_, ?_, ?_⟩
  · rfl
  · funext zz; by_cases zq0 : zz = a; (rw [zq0, va_up_self]; exact zK9); rw [va_up_ne _ _ zq0]; rw [ze8, ze5, ze2]; simp only [va_up, if_neg zq0]
  · rfl
set_option maxHeartbeats 4000000 in
set_option maxRecDepth 100000 in
theorem k_init_2_3 {κ : Wc} {l : Launch} {h : Mm} {n : Nat} {a : Nat} {kd : Int32} {nb : Int32} {em : Int32} (K0 : h a = some (.inr (5, [.int 0, .int 0, .int 0])))  : Con κ l yX8_init cX8_init 4 none 3 0 0 [.ref a, .int kd, .int nb, .int em] h n (fun q h' n' => q = none ∧ h' = va_up h a (some (.inr (5, [.int kd, .int nb, .int em]))) ∧ n' = n) := by
  refine Con.of mk_X8_init (Nat.le_of_ble_eq_true rfl) (fun G hG X E => ?_)
  subst hG
  refine z_ls (ls' := [(0, .ref a), (1, .int kd), (2, .int nb), (3, .int em)]) rfl ?_
  refine z_aload_n X 0 dX8_init_0 rfl ?_
  refine z_iload_n X 1 dX8_init_1 rfl ?_
  refine z_iload_n X 2 dX8_init_2 rfl ?_
  refine z_iload_n X 3 dX8_init_3 rfl ?_
  refine z_callI X (k_init_0_3 (κ := κ) (n := n) (a := (a)) (kd := (kd)) (nb := (nb)) (em := (em)) K0 ) mk_X0_init dX8_init_4 wd_357 wd_327 rfl rfl rfl (Nat.le_of_ble_eq_true rfl) (Nat.le_of_ble_eq_true rfl) (Nat.le_of_ble_eq_true rfl) (by omega) (by omega) (fun q zh1 zm3 zp4 => ?_)
  obtain ⟨rfl, ze2, zn5⟩ := zp4
  subst zm3
  refine z_st (st' := []) rfl ?_
  have zK6 : zh1 a = some (.inr (5, [.int kd, .int nb, .int em])) := by rw [ze2]; exact va_up_self _ _ _
  refine z_vret X E dX8_init_7 (by omega) (by omega) ⟨?_, ?_, ?_⟩
  · rfl
  · funext zz; by_cases zq0 : zz = a; (rw [zq0, va_up_self]; exact zK6); rw [va_up_ne _ _ zq0]; rw [ze2]; simp only [va_up, if_neg zq0]
  · rfl
set_option maxHeartbeats 4000000 in
set_option maxRecDepth 100000 in
theorem k_init_3_3 {κ : Wc} {l : Launch} {h : Mm} {n : Nat} {a : Nat} {kd : Int32} {nb : Int32} {em : Int32} (K0 : h a = some (.inr (5, [.int 0, .int 0, .int 0])))  : Con κ l yX5_init cX5_init 4 none 4 0 0 [.ref a, .int kd, .int nb, .int em] h n (fun q h' n' => q = none ∧ h' = va_up h a (some (.inr (5, [.int kd, .int nb, .int em]))) ∧ n' = n) := by
  refine Con.of mk_X5_init (Nat.le_of_ble_eq_true rfl) (fun G hG X E => ?_)
  subst hG
  refine z_ls (ls' := [(0, .ref a), (1, .int kd), (2, .int nb), (3, .int em)]) rfl ?_
  refine z_aload_n X 0 dX5_init_0 rfl ?_
  refine z_iload_n X 1 dX5_init_1 rfl ?_
  refine z_iload_n X 2 dX5_init_2 rfl ?_
  refine z_iload_n X 3 dX5_init_3 rfl ?_
  refine z_callI X (k_init_2_3 (κ := κ) (n := n) (a := (a)) (kd := (kd)) (nb := (nb)) (em := (em)) K0 ) mk_X8_init dX5_init_4 wd_367 wd_355 rfl rfl rfl (Nat.le_of_ble_eq_true rfl) (Nat.le_of_ble_eq_true rfl) (Nat.le_of_ble_eq_true rfl) (by omega) (by omega) (fun q zh1 zm3 zp4 => ?_)
  obtain ⟨rfl, ze2, zn5⟩ := zp4
  subst zm3
  refine z_st (st' := []) rfl ?_
  have zK6 : zh1 a = some (.inr (5, [.int kd, .int nb, .int em])) := by rw [ze2]; exact va_up_self _ _ _
  refine z_vret X E dX5_init_7 (by omega) (by omega) ⟨?_, ?_, ?_⟩
  · rfl
  · funext zz; by_cases zq0 : zz = a; (rw [zq0, va_up_self]; exact zK6); rw [va_up_ne _ _ zq0]; rw [ze2]; simp only [va_up, if_neg zq0]
  · rfl
set_option maxHeartbeats 4000000 in
set_option maxRecDepth 100000 in
theorem k_init_0_4 {κ : Wc} {l : Launch} {h : Mm} {n : Nat} {a : Nat} {kd : Int32} {nb : Int32} {em : Int32} (K0 : h a = some (.inr (7, [.int 0, .int 0, .int 0])))  : Con κ l yX0_init cX0_init 4 none 2 0 0 [.ref a, .int kd, .int nb, .int em] h n (fun q h' n' => q = none ∧ h' = va_up h a (some (.inr (7, [.int kd, .int nb, .int em]))) ∧ n' = n) := by
  refine Con.of mk_X0_init (Nat.le_of_ble_eq_true rfl) (fun G hG X E => ?_)
  subst hG
  refine z_ls (ls' := [(0, .ref a), (1, .int kd), (2, .int nb), (3, .int em)]) rfl ?_
  refine z_aload_n X 0 dX0_init_0 rfl ?_
  refine z_objInit X dX0_init_1 wd_329 wd_80 wd_81 (Nat.le_of_ble_eq_true rfl) (Nat.le_of_ble_eq_true rfl) ?_
  refine z_aload_n X 0 dX0_init_4 rfl ?_
  refine z_iload_n X 1 dX0_init_5 rfl ?_
  refine z_putF X E fp_X0_7_7 dX0_init_6 K0 (by first | rfl | decide) (by first | rfl | decide) (Nat.le_of_ble_eq_true rfl) rfl ?_
  obtain ⟨zh1, ze2⟩ : ∃ z : Mm, z = va_up h a (some (.inr (7, [.int kd, .int 0, .int 0]))) := ⟨_, rfl⟩
  refine z_heap (h' := zh1) ze2.symm ?_
  have zK3 := up_at ze2
  refine z_aload_n X 0 dX0_init_9 rfl ?_
  refine z_iload_n X 2 dX0_init_10 rfl ?_
  refine z_putF X E fp_X0_13_7 dX0_init_11 zK3 (by first | rfl | decide) (by first | rfl | decide) (Nat.le_of_ble_eq_true rfl) rfl ?_
  obtain ⟨zh4, ze5⟩ : ∃ z : Mm, z = va_up zh1 a (some (.inr (7, [.int kd, .int nb, .int 0]))) := ⟨_, rfl⟩
  refine z_heap (h' := zh4) ze5.symm ?_
  have zK6 := up_at ze5
  refine z_aload_n X 0 dX0_init_14 rfl ?_
  refine z_iload_n X 3 dX0_init_15 rfl ?_
  refine z_putF X E fp_X0_16_7 dX0_init_16 zK6 (by first | rfl | decide) (by first | rfl | decide) (Nat.le_of_ble_eq_true rfl) rfl ?_
  obtain ⟨zh7, ze8⟩ : ∃ z : Mm, z = va_up zh4 a (some (.inr (7, [.int kd, .int nb, .int em]))) := ⟨_, rfl⟩
  refine z_heap (h' := zh7) ze8.symm ?_
  have zK9 := up_at ze8
  refine z_vret X E dX0_init_19 (by omega) (by omega) ⟨?_, ?_, ?_⟩
  · rfl
  · funext zz; by_cases zq0 : zz = a; (rw [zq0, va_up_self]; exact zK9); rw [va_up_ne _ _ zq0]; rw [ze8, ze5, ze2]; simp only [va_up, if_neg zq0]
  · rfl
set_option maxHeartbeats 4000000 in
set_option maxRecDepth 100000 in
theorem k_init_2_4 {κ : Wc} {l : Launch} {h : Mm} {n : Nat} {a : Nat} {kd : Int32} {nb : Int32} {em : Int32} (K0 : h a = some (.inr (7, [.int 0, .int 0, .int 0])))  : Con κ l yX8_init cX8_init 4 none 3 0 0 [.ref a, .int kd, .int nb, .int em] h n (fun q h' n' => q = none ∧ h' = va_up h a (some (.inr (7, [.int kd, .int nb, .int em]))) ∧ n' = n) := by
  refine Con.of mk_X8_init (Nat.le_of_ble_eq_true rfl) (fun G hG X E => ?_)
  subst hG
  refine z_ls (ls' := [(0, .ref a), (1, .int kd), (2, .int nb), (3, .int em)]) rfl ?_
  refine z_aload_n X 0 dX8_init_0 rfl ?_
  refine z_iload_n X 1 dX8_init_1 rfl ?_
  refine z_iload_n X 2 dX8_init_2 rfl ?_
  refine z_iload_n X 3 dX8_init_3 rfl ?_
  refine z_callI X (k_init_0_4 (κ := κ) (n := n) (a := (a)) (kd := (kd)) (nb := (nb)) (em := (em)) K0 ) mk_X0_init dX8_init_4 wd_357 wd_327 rfl rfl rfl (Nat.le_of_ble_eq_true rfl) (Nat.le_of_ble_eq_true rfl) (Nat.le_of_ble_eq_true rfl) (by omega) (by omega) (fun q zh1 zm3 zp4 => ?_)
  obtain ⟨rfl, ze2, zn5⟩ := zp4
  subst zm3
  refine z_st (st' := []) rfl ?_
  have zK6 : zh1 a = some (.inr (7, [.int kd, .int nb, .int em])) := by rw [ze2]; exact va_up_self _ _ _
  refine z_vret X E dX8_init_7 (by omega) (by omega) ⟨?_, ?_, ?_⟩
  · rfl
  · funext zz; by_cases zq0 : zz = a; (rw [zq0, va_up_self]; exact zK6); rw [va_up_ne _ _ zq0]; rw [ze2]; simp only [va_up, if_neg zq0]
  · rfl
set_option maxHeartbeats 4000000 in
set_option maxRecDepth 100000 in
theorem k_init_3_4 {κ : Wc} {l : Launch} {h : Mm} {n : Nat} {a : Nat} {kd : Int32} {nb : Int32} {em : Int32} (K0 : h a = some (.inr (7, [.int 0, .int 0, .int 0])))  : Con κ l yX5_init cX5_init 4 none 4 0 0 [.ref a, .int kd, .int nb, .int em] h n (fun q h' n' => q = none ∧ h' = va_up h a (some (.inr (7, [.int kd, .int nb, .int em]))) ∧ n' = n) := by
  refine Con.of mk_X5_init (Nat.le_of_ble_eq_true rfl) (fun G hG X E => ?_)
  subst hG
  refine z_ls (ls' := [(0, .ref a), (1, .int kd), (2, .int nb), (3, .int em)]) rfl ?_
  refine z_aload_n X 0 dX5_init_0 rfl ?_
  refine z_iload_n X 1 dX5_init_1 rfl ?_
  refine z_iload_n X 2 dX5_init_2 rfl ?_
  refine z_iload_n X 3 dX5_init_3 rfl ?_
  refine z_callI X (k_init_2_4 (κ := κ) (n := n) (a := (a)) (kd := (kd)) (nb := (nb)) (em := (em)) K0 ) mk_X8_init dX5_init_4 wd_367 wd_355 rfl rfl rfl (Nat.le_of_ble_eq_true rfl) (Nat.le_of_ble_eq_true rfl) (Nat.le_of_ble_eq_true rfl) (by omega) (by omega) (fun q zh1 zm3 zp4 => ?_)
  obtain ⟨rfl, ze2, zn5⟩ := zp4
  subst zm3
  refine z_st (st' := []) rfl ?_
  have zK6 : zh1 a = some (.inr (7, [.int kd, .int nb, .int em])) := by rw [ze2]; exact va_up_self _ _ _
  refine z_vret X E dX5_init_7 (by omega) (by omega) ⟨?_, ?_, ?_⟩
  · rfl
  · funext zz; by_cases zq0 : zz = a; (rw [zq0, va_up_self]; exact zK6); rw [va_up_ne _ _ zq0]; rw [ze2]; simp only [va_up, if_neg zq0]
  · rfl
set_option maxHeartbeats 4000000 in
set_option maxRecDepth 100000 in
theorem k_init_4_4 {κ : Wc} {l : Launch} {h : Mm} {n : Nat} {a : Nat} {kd : Int32} {nb : Int32} {em : Int32} (K0 : h a = some (.inr (7, [.int 0, .int 0, .int 0])))  : Con κ l yX7_init cX7_init 4 none 5 0 0 [.ref a, .int kd, .int nb, .int em] h n (fun q h' n' => q = none ∧ h' = va_up h a (some (.inr (7, [.int kd, .int nb, .int em]))) ∧ n' = n) := by
  refine Con.of mk_X7_init (Nat.le_of_ble_eq_true rfl) (fun G hG X E => ?_)
  subst hG
  refine z_ls (ls' := [(0, .ref a), (1, .int kd), (2, .int nb), (3, .int em)]) rfl ?_
  refine z_aload_n X 0 dX7_init_0 rfl ?_
  refine z_iload_n X 1 dX7_init_1 rfl ?_
  refine z_iload_n X 2 dX7_init_2 rfl ?_
  refine z_iload_n X 3 dX7_init_3 rfl ?_
  refine z_callI X (k_init_3_4 (κ := κ) (n := n) (a := (a)) (kd := (kd)) (nb := (nb)) (em := (em)) K0 ) mk_X5_init dX7_init_4 wd_377 wd_365 rfl rfl rfl (Nat.le_of_ble_eq_true rfl) (Nat.le_of_ble_eq_true rfl) (Nat.le_of_ble_eq_true rfl) (by omega) (by omega) (fun q zh1 zm3 zp4 => ?_)
  obtain ⟨rfl, ze2, zn5⟩ := zp4
  subst zm3
  refine z_st (st' := []) rfl ?_
  have zK6 : zh1 a = some (.inr (7, [.int kd, .int nb, .int em])) := by rw [ze2]; exact va_up_self _ _ _
  refine z_vret X E dX7_init_7 (by omega) (by omega) ⟨?_, ?_, ?_⟩
  · rfl
  · funext zz; by_cases zq0 : zz = a; (rw [zq0, va_up_self]; exact zK6); rw [va_up_ne _ _ zq0]; rw [ze2]; simp only [va_up, if_neg zq0]
  · rfl
set_option maxHeartbeats 4000000 in
set_option maxRecDepth 100000 in
theorem k_init_0_5 {κ : Wc} {l : Launch} {h : Mm} {n : Nat} {a : Nat} {kd : Int32} {nb : Int32} {em : Int32} (K0 : h a = some (.inr (4, [.int 0, .int 0, .int 0])))  : Con κ l yX0_init cX0_init 4 none 2 0 0 [.ref a, .int kd, .int nb, .int em] h n (fun q h' n' => q = none ∧ h' = va_up h a (some (.inr (4, [.int kd, .int nb, .int em]))) ∧ n' = n) := by
  refine Con.of mk_X0_init (Nat.le_of_ble_eq_true rfl) (fun G hG X E => ?_)
  subst hG
  refine z_ls (ls' := [(0, .ref a), (1, .int kd), (2, .int nb), (3, .int em)]) rfl ?_
  refine z_aload_n X 0 dX0_init_0 rfl ?_
  refine z_objInit X dX0_init_1 wd_329 wd_80 wd_81 (Nat.le_of_ble_eq_true rfl) (Nat.le_of_ble_eq_true rfl) ?_
  refine z_aload_n X 0 dX0_init_4 rfl ?_
  refine z_iload_n X 1 dX0_init_5 rfl ?_
  refine z_putF X E fp_X0_7_4 dX0_init_6 K0 (by first | rfl | decide) (by first | rfl | decide) (Nat.le_of_ble_eq_true rfl) rfl ?_
  obtain ⟨zh1, ze2⟩ : ∃ z : Mm, z = va_up h a (some (.inr (4, [.int kd, .int 0, .int 0]))) := ⟨_, rfl⟩
  refine z_heap (h' := zh1) ze2.symm ?_
  have zK3 := up_at ze2
  refine z_aload_n X 0 dX0_init_9 rfl ?_
  refine z_iload_n X 2 dX0_init_10 rfl ?_
  refine z_putF X E fp_X0_13_4 dX0_init_11 zK3 (by first | rfl | decide) (by first | rfl | decide) (Nat.le_of_ble_eq_true rfl) rfl ?_
  obtain ⟨zh4, ze5⟩ : ∃ z : Mm, z = va_up zh1 a (some (.inr (4, [.int kd, .int nb, .int 0]))) := ⟨_, rfl⟩
  refine z_heap (h' := zh4) ze5.symm ?_
  have zK6 := up_at ze5
  refine z_aload_n X 0 dX0_init_14 rfl ?_
  refine z_iload_n X 3 dX0_init_15 rfl ?_
  refine z_putF X E fp_X0_16_4 dX0_init_16 zK6 (by first | rfl | decide) (by first | rfl | decide) (Nat.le_of_ble_eq_true rfl) rfl ?_
  obtain ⟨zh7, ze8⟩ : ∃ z : Mm, z = va_up zh4 a (some (.inr (4, [.int kd, .int nb, .int em]))) := ⟨_, rfl⟩
  refine z_heap (h' := zh7) ze8.symm ?_
  have zK9 := up_at ze8
  refine z_vret X E dX0_init_19 (by omega) (by omega) ⟨?_, ?_, ?_⟩
  · rfl
  · funext zz; by_cases zq0 : zz = a; (rw [zq0, va_up_self]; exact zK9); rw [va_up_ne _ _ zq0]; rw [ze8, ze5, ze2]; simp only [va_up, if_neg zq0]
  · rfl
set_option maxHeartbeats 4000000 in
set_option maxRecDepth 100000 in
theorem k_init_5_5 {κ : Wc} {l : Launch} {h : Mm} {n : Nat} {a : Nat} {kd : Int32} {nb : Int32} {em : Int32} (K0 : h a = some (.inr (4, [.int 0, .int 0, .int 0])))  : Con κ l yX4_init cX4_init 4 none 3 0 0 [.ref a, .int kd, .int nb, .int em] h n (fun q h' n' => q = none ∧ h' = va_up h a (some (.inr (4, [.int kd, .int nb, .int em]))) ∧ n' = n) := by
  refine Con.of mk_X4_init (Nat.le_of_ble_eq_true rfl) (fun G hG X E => ?_)
  subst hG
  refine z_ls (ls' := [(0, .ref a), (1, .int kd), (2, .int nb), (3, .int em)]) rfl ?_
  refine z_aload_n X 0 dX4_init_0 rfl ?_
  refine z_iload_n X 1 dX4_init_1 rfl ?_
  refine z_iload_n X 2 dX4_init_2 rfl ?_
  refine z_iload_n X 3 dX4_init_3 rfl ?_
  refine z_callI X (k_init_0_5 (κ := κ) (n := n) (a := (a)) (kd := (kd)) (nb := (nb)) (em := (em)) K0 ) mk_X0_init dX4_init_4 wd_387 wd_327 rfl rfl rfl (Nat.le_of_ble_eq_true rfl) (Nat.le_of_ble_eq_true rfl) (Nat.le_of_ble_eq_true rfl) (by omega) (by omega) (fun q zh1 zm3 zp4 => ?_)
  obtain ⟨rfl, ze2, zn5⟩ := zp4
  subst zm3
  refine z_st (st' := []) rfl ?_
  have zK6 : zh1 a = some (.inr (4, [.int kd, .int nb, .int em])) := by rw [ze2]; exact va_up_self _ _ _
  refine z_vret X E dX4_init_7 (by omega) (by omega) ⟨?_, ?_, ?_⟩
  · rfl
  · funext zz; by_cases zq0 : zz = a; (rw [zq0, va_up_self]; exact zK6); rw [va_up_ne _ _ zq0]; rw [ze2]; simp only [va_up, if_neg zq0]
  · rfl
set_option maxHeartbeats 4000000 in
set_option maxRecDepth 100000 in
theorem k_init_0_6 {κ : Wc} {l : Launch} {h : Mm} {n : Nat} {a : Nat} {kd : Int32} {nb : Int32} {em : Int32} (K0 : h a = some (.inr (1, [.int 0, .int 0, .int 0])))  : Con κ l yX0_init cX0_init 4 none 2 0 0 [.ref a, .int kd, .int nb, .int em] h n (fun q h' n' => q = none ∧ h' = va_up h a (some (.inr (1, [.int kd, .int nb, .int em]))) ∧ n' = n) := by
  refine Con.of mk_X0_init (Nat.le_of_ble_eq_true rfl) (fun G hG X E => ?_)
  subst hG
  refine z_ls (ls' := [(0, .ref a), (1, .int kd), (2, .int nb), (3, .int em)]) rfl ?_
  refine z_aload_n X 0 dX0_init_0 rfl ?_
  refine z_objInit X dX0_init_1 wd_329 wd_80 wd_81 (Nat.le_of_ble_eq_true rfl) (Nat.le_of_ble_eq_true rfl) ?_
  refine z_aload_n X 0 dX0_init_4 rfl ?_
  refine z_iload_n X 1 dX0_init_5 rfl ?_
  refine z_putF X E fp_X0_7_1 dX0_init_6 K0 (by first | rfl | decide) (by first | rfl | decide) (Nat.le_of_ble_eq_true rfl) rfl ?_
  obtain ⟨zh1, ze2⟩ : ∃ z : Mm, z = va_up h a (some (.inr (1, [.int kd, .int 0, .int 0]))) := ⟨_, rfl⟩
  refine z_heap (h' := zh1) ze2.symm ?_
  have zK3 := up_at ze2
  refine z_aload_n X 0 dX0_init_9 rfl ?_
  refine z_iload_n X 2 dX0_init_10 rfl ?_
  refine z_putF X E fp_X0_13_1 dX0_init_11 zK3 (by first | rfl | decide) (by first | rfl | decide) (Nat.le_of_ble_eq_true rfl) rfl ?_
  obtain ⟨zh4, ze5⟩ : ∃ z : Mm, z = va_up zh1 a (some (.inr (1, [.int kd, .int nb, .int 0]))) := ⟨_, rfl⟩
  refine z_heap (h' := zh4) ze5.symm ?_
  have zK6 := up_at ze5
  refine z_aload_n X 0 dX0_init_14 rfl ?_
  refine z_iload_n X 3 dX0_init_15 rfl ?_
  refine z_putF X E fp_X0_16_1 dX0_init_16 zK6 (by first | rfl | decide) (by first | rfl | decide) (Nat.le_of_ble_eq_true rfl) rfl ?_
  obtain ⟨zh7, ze8⟩ : ∃ z : Mm, z = va_up zh4 a (some (.inr (1, [.int kd, .int nb, .int em]))) := ⟨_, rfl⟩
  refine z_heap (h' := zh7) ze8.symm ?_
  have zK9 := up_at ze8
  refine z_vret X E dX0_init_19 (by omega) (by omega) ⟨?_, ?_, ?_⟩
  · rfl
  · funext zz; by_cases zq0 : zz = a; (rw [zq0, va_up_self]; exact zK9); rw [va_up_ne _ _ zq0]; rw [ze8, ze5, ze2]; simp only [va_up, if_neg zq0]
  · rfl
set_option maxHeartbeats 4000000 in
set_option maxRecDepth 100000 in
theorem k_init_1_6 {κ : Wc} {l : Launch} {h : Mm} {n : Nat} {a : Nat} {kd : Int32} {nb : Int32} {em : Int32} (K0 : h a = some (.inr (1, [.int 0, .int 0, .int 0])))  : Con κ l yX10_init cX10_init 4 none 3 0 0 [.ref a, .int kd, .int nb, .int em] h n (fun q h' n' => q = none ∧ h' = va_up h a (some (.inr (1, [.int kd, .int nb, .int em]))) ∧ n' = n) := by
  refine Con.of mk_X10_init (Nat.le_of_ble_eq_true rfl) (fun G hG X E => ?_)
  subst hG
  refine z_ls (ls' := [(0, .ref a), (1, .int kd), (2, .int nb), (3, .int em)]) rfl ?_
  refine z_aload_n X 0 dX10_init_0 rfl ?_
  refine z_iload_n X 1 dX10_init_1 rfl ?_
  refine z_iload_n X 2 dX10_init_2 rfl ?_
  refine z_iload_n X 3 dX10_init_3 rfl ?_
  refine z_callI X (k_init_0_6 (κ := κ) (n := n) (a := (a)) (kd := (kd)) (nb := (nb)) (em := (em)) K0 ) mk_X0_init dX10_init_4 wd_326 wd_327 rfl rfl rfl (Nat.le_of_ble_eq_true rfl) (Nat.le_of_ble_eq_true rfl) (Nat.le_of_ble_eq_true rfl) (by omega) (by omega) (fun q zh1 zm3 zp4 => ?_)
  obtain ⟨rfl, ze2, zn5⟩ := zp4
  subst zm3
  refine z_st (st' := []) rfl ?_
  have zK6 : zh1 a = some (.inr (1, [.int kd, .int nb, .int em])) := by rw [ze2]; exact va_up_self _ _ _
  refine z_vret X E dX10_init_7 (by omega) (by omega) ⟨?_, ?_, ?_⟩
  · rfl
  · funext zz; by_cases zq0 : zz = a; (rw [zq0, va_up_self]; exact zK6); rw [va_up_ne _ _ zq0]; rw [ze2]; simp only [va_up, if_neg zq0]
  · rfl
set_option maxHeartbeats 4000000 in
set_option maxRecDepth 100000 in
theorem k_init_6_6 {κ : Wc} {l : Launch} {h : Mm} {n : Nat} {a : Nat} {kd : Int32} {nb : Int32} {em : Int32} (K0 : h a = some (.inr (1, [.int 0, .int 0, .int 0])))  : Con κ l yX1_init cX1_init 4 none 4 0 0 [.ref a, .int kd, .int nb, .int em] h n (fun q h' n' => q = none ∧ h' = va_up h a (some (.inr (1, [.int kd, .int nb, .int em]))) ∧ n' = n) := by
  refine Con.of mk_X1_init (Nat.le_of_ble_eq_true rfl) (fun G hG X E => ?_)
  subst hG
  refine z_ls (ls' := [(0, .ref a), (1, .int kd), (2, .int nb), (3, .int em)]) rfl ?_
  refine z_aload_n X 0 dX1_init_0 rfl ?_
  refine z_iload_n X 1 dX1_init_1 rfl ?_
  refine z_iload_n X 2 dX1_init_2 rfl ?_
  refine z_iload_n X 3 dX1_init_3 rfl ?_
  refine z_callI X (k_init_1_6 (κ := κ) (n := n) (a := (a)) (kd := (kd)) (nb := (nb)) (em := (em)) K0 ) mk_X10_init dX1_init_4 wd_397 wd_324 rfl rfl rfl (Nat.le_of_ble_eq_true rfl) (Nat.le_of_ble_eq_true rfl) (Nat.le_of_ble_eq_true rfl) (by omega) (by omega) (fun q zh1 zm3 zp4 => ?_)
  obtain ⟨rfl, ze2, zn5⟩ := zp4
  subst zm3
  refine z_st (st' := []) rfl ?_
  have zK6 : zh1 a = some (.inr (1, [.int kd, .int nb, .int em])) := by rw [ze2]; exact va_up_self _ _ _
  refine z_vret X E dX1_init_7 (by omega) (by omega) ⟨?_, ?_, ?_⟩
  · rfl
  · funext zz; by_cases zq0 : zz = a; (rw [zq0, va_up_self]; exact zK6); rw [va_up_ne _ _ zq0]; rw [ze2]; simp only [va_up, if_neg zq0]
  · rfl
set_option maxHeartbeats 4000000 in
set_option maxRecDepth 100000 in
theorem k_freeze_0_0 {κ : Wc} {l : Launch} {h : Mm} {n : Nat} {i : Nat} {len : Nat} {m : Nat → Int32} {now : Int32} {dd : Int32} {dr : Int32} {cc : Int32} {on : Int32} {cold : Int32} {wind : Int32} {a : Nat} {kd : Int32} {nb : Int32} {em : Int32} {c : Nat} {w : Int32} {s : Int32} (K0 : h a = some (.inr (0, [.int kd, .int nb, .int em]))) (K1 : h i = some (.inr (2, [.ref (i + 1), .ref (i + 2), .ref (i + 3), .ref (i + 4), .ref (i + 5), .int (nI len), .int now, .int dd, .int dr, .int cc, .int on, .int cold, .int wind]))) (K2 : h (i + 1) = arI κ 40 (win 100 40 m)) (q2 : c < len) (q3 : len ≤ 40) : Con κ l yX0_freeze cX0_freeze 5 (some .int) 3 0 0 [.ref a, .ref i, .int (nI c), .int w, .int s] h n (fun q h' n' => q = some (.int (frK 0 em cold wind now m len c w s)) ∧ h' = h ∧ n' = n) := by
  refine Con.of mk_X0_freeze (Nat.le_of_ble_eq_true rfl) (fun G hG X E => ?_)
  subst hG
  refine z_ls (ls' := [(0, .ref a), (1, .ref i), (2, .int (nI c)), (3, .int w), (4, .int s)]) rfl ?_
  refine z_aload_n X 0 dX0_freeze_0 rfl ?_
  refine z_get X fl_X0_16_0 dX0_freeze_1 K0 rfl ?_
  refine z_aload_n X 1 dX0_freeze_4 rfl ?_
  refine z_get X fl_X0_19_2 dX0_freeze_5 K1 rfl ?_
  refine z_imul X dX0_freeze_8 ?_
  refine z_bipush (v := 100) X dX0_freeze_9 (by decide) ?_
  refine z_idiv X dX0_freeze_11 (by first | decide | exact mx1_ne _) ?_
  refine z_iret X E dX0_freeze_12 (by omega) (by omega) ⟨?_, ?_, ?_⟩
  · first | rfl | (simp only [frK]; (repeat first | rw [if_pos (by first | assumption | omega | exact ⟨by assumption, by assumption⟩ | exact ⟨by omega, by assumption⟩ | exact Int32.not_le.mp (by assumption) | exact ⟨by assumption, Int32.not_le.mp (by assumption)⟩)] | rw [if_neg (by first | assumption | omega | exact fun q => absurd q.1 (by assumption) | exact fun q => absurd q.2 (by assumption) | exact fun q => absurd q.1 (by omega) | exact Int32.not_lt.mpr (by assumption) | exact fun q => absurd q.2 (Int32.not_lt.mpr (by assumption)))]); first | done | rfl)
  · first | rfl | (funext zz; simp only [va_up]; (repeat' split) <;> first | rfl | (exfalso; omega) | simp_all)
  · rfl
set_option maxHeartbeats 4000000 in
set_option maxRecDepth 100000 in
theorem k_freeze_0_1 {κ : Wc} {l : Launch} {h : Mm} {n : Nat} {i : Nat} {len : Nat} {m : Nat → Int32} {now : Int32} {dd : Int32} {dr : Int32} {cc : Int32} {on : Int32} {cold : Int32} {wind : Int32} {a : Nat} {kd : Int32} {nb : Int32} {em : Int32} {c : Nat} {w : Int32} {s : Int32} (K0 : h a = some (.inr (10, [.int kd, .int nb, .int em]))) (K1 : h i = some (.inr (2, [.ref (i + 1), .ref (i + 2), .ref (i + 3), .ref (i + 4), .ref (i + 5), .int (nI len), .int now, .int dd, .int dr, .int cc, .int on, .int cold, .int wind]))) (K2 : h (i + 1) = arI κ 40 (win 100 40 m)) (q2 : c < len) (q3 : len ≤ 40) : Con κ l yX0_freeze cX0_freeze 5 (some .int) 3 0 0 [.ref a, .ref i, .int (nI c), .int w, .int s] h n (fun q h' n' => q = some (.int (frK 0 em cold wind now m len c w s)) ∧ h' = h ∧ n' = n) := by
  refine Con.of mk_X0_freeze (Nat.le_of_ble_eq_true rfl) (fun G hG X E => ?_)
  subst hG
  refine z_ls (ls' := [(0, .ref a), (1, .ref i), (2, .int (nI c)), (3, .int w), (4, .int s)]) rfl ?_
  refine z_aload_n X 0 dX0_freeze_0 rfl ?_
  refine z_get X fl_X0_16_10 dX0_freeze_1 K0 rfl ?_
  refine z_aload_n X 1 dX0_freeze_4 rfl ?_
  refine z_get X fl_X0_19_2 dX0_freeze_5 K1 rfl ?_
  refine z_imul X dX0_freeze_8 ?_
  refine z_bipush (v := 100) X dX0_freeze_9 (by decide) ?_
  refine z_idiv X dX0_freeze_11 (by first | decide | exact mx1_ne _) ?_
  refine z_iret X E dX0_freeze_12 (by omega) (by omega) ⟨?_, ?_, ?_⟩
  · first | rfl | (simp only [frK]; (repeat first | rw [if_pos (by first | assumption | omega | exact ⟨by assumption, by assumption⟩ | exact ⟨by omega, by assumption⟩ | exact Int32.not_le.mp (by assumption) | exact ⟨by assumption, Int32.not_le.mp (by assumption)⟩)] | rw [if_neg (by first | assumption | omega | exact fun q => absurd q.1 (by assumption) | exact fun q => absurd q.2 (by assumption) | exact fun q => absurd q.1 (by omega) | exact Int32.not_lt.mpr (by assumption) | exact fun q => absurd q.2 (Int32.not_lt.mpr (by assumption)))]); first | done | rfl)
  · first | rfl | (funext zz; simp only [va_up]; (repeat' split) <;> first | rfl | (exfalso; omega) | simp_all)
  · rfl
set_option maxHeartbeats 4000000 in
set_option maxRecDepth 100000 in
theorem k_freeze_1_1 {κ : Wc} {l : Launch} {h : Mm} {n : Nat} {i : Nat} {len : Nat} {m : Nat → Int32} {now : Int32} {dd : Int32} {dr : Int32} {cc : Int32} {on : Int32} {cold : Int32} {wind : Int32} {a : Nat} {kd : Int32} {nb : Int32} {em : Int32} {c : Nat} {w : Int32} {s : Int32} (K0 : h a = some (.inr (10, [.int kd, .int nb, .int em]))) (K1 : h i = some (.inr (2, [.ref (i + 1), .ref (i + 2), .ref (i + 3), .ref (i + 4), .ref (i + 5), .int (nI len), .int now, .int dd, .int dr, .int cc, .int on, .int cold, .int wind]))) (K2 : h (i + 1) = arI κ 40 (win 100 40 m)) (q2 : c < len) (q3 : len ≤ 40) : Con κ l yX10_freeze cX10_freeze 5 (some .int) 4 0 0 [.ref a, .ref i, .int (nI c), .int w, .int s] h n (fun q h' n' => q = some (.int (frK 1 em cold wind now m len c w s)) ∧ h' = h ∧ n' = n) := by
  refine Con.of mk_X10_freeze (Nat.le_of_ble_eq_true rfl) (fun G hG X E => ?_)
  subst hG
  refine z_ls (ls' := [(0, .ref a), (1, .ref i), (2, .int (nI c)), (3, .int w), (4, .int s)]) rfl ?_
  refine z_iload_n X 2 dX10_freeze_0 rfl ?_
  refine z_aload_n X 1 dX10_freeze_1 rfl ?_
  refine z_get X fl_X10_7_2 dX10_freeze_2 K1 rfl ?_
  refine z_iconst (v := 1) X dX10_freeze_5 (by decide) ?_
  refine z_isub X dX10_freeze_6 ?_
  refine z_toe (y := nI (len - 1)) (pk_sub (a := len) (b := 1) (by omega)) ?_
  refine z_icmp_ne X 25 dX10_freeze_7 (by decide) (fun zc1 => ?_) (fun zc1 => ?_)
  · try replace zc1 := mt (nI_eq (a := c) (b := len - 1) (by omega) (by omega)).mpr zc1
    refine z_iconst (v := 0) X dX10_freeze_25 (by decide) ?_
    refine z_iret X E dX10_freeze_26 (by omega) (by omega) ⟨?_, ?_, ?_⟩
    · first | rfl | (simp only [frK]; (repeat first | rw [if_pos (by first | assumption | omega | exact ⟨by assumption, by assumption⟩ | exact ⟨by omega, by assumption⟩ | exact Int32.not_le.mp (by assumption) | exact ⟨by assumption, Int32.not_le.mp (by assumption)⟩)] | rw [if_neg (by first | assumption | omega | exact fun q => absurd q.1 (by assumption) | exact fun q => absurd q.2 (by assumption) | exact fun q => absurd q.1 (by omega) | exact Int32.not_lt.mpr (by assumption) | exact fun q => absurd q.2 (Int32.not_lt.mpr (by assumption)))]); first | done | rfl)
    · first | rfl | (funext zz; simp only [va_up]; (repeat' split) <;> first | rfl | (exfalso; omega) | simp_all)
    · rfl
  · try replace zc1 := (nI_eq (a := c) (b := len - 1) (by omega) (by omega)).mp zc1
    refine z_bipush (v := 10) X dX10_freeze_10 (by decide) ?_
    refine z_aload_n X 0 dX10_freeze_12 rfl ?_
    refine z_aload_n X 1 dX10_freeze_13 rfl ?_
    refine z_iload_n X 2 dX10_freeze_14 rfl ?_
    refine z_iload_n X 3 dX10_freeze_15 rfl ?_
    refine z_iload X 4 dX10_freeze_16 rfl ?_
    refine z_callSU X (k_freeze_0_1 (κ := κ) (n := n) (i := (i)) (len := (len)) (m := (m)) (now := (now)) (dd := (dd)) (dr := (dr)) (cc := (cc)) (on := (on)) (cold := (cold)) (wind := (wind)) (a := (a)) (kd := (kd)) (nb := (nb)) (em := (em)) (c := (c)) (w := (w)) (s := (s)) K0 K1 K2 (by first | assumption | omega) (by first | assumption | omega)) mk_X0_freeze dX10_freeze_18 wd_476 wd_469 wd_351 wd_467 (by decide) K0 rfl rfl rfl (Nat.le_of_ble_eq_true rfl) (Nat.le_of_ble_eq_true rfl) (Nat.le_of_ble_eq_true rfl) (by omega) (by omega) (fun q zh2 zm4 zp5 => ?_)
    obtain ⟨rfl, ze3, zn6⟩ := zp5
    subst zm4
    subst zh2
    refine z_st (st' := [.int (frK 0 em cold wind now m len c w s), .int 10]) rfl ?_
    refine z_imul X dX10_freeze_21 ?_
    refine z_goto X 26 dX10_freeze_22 (by decide) ?_
    refine z_iret X E dX10_freeze_26 (by omega) (by omega) ⟨?_, ?_, ?_⟩
    · first | rfl | (simp only [frK]; (repeat first | rw [if_pos (by first | assumption | omega | exact ⟨by assumption, by assumption⟩ | exact ⟨by omega, by assumption⟩ | exact Int32.not_le.mp (by assumption) | exact ⟨by assumption, Int32.not_le.mp (by assumption)⟩)] | rw [if_neg (by first | assumption | omega | exact fun q => absurd q.1 (by assumption) | exact fun q => absurd q.2 (by assumption) | exact fun q => absurd q.1 (by omega) | exact Int32.not_lt.mpr (by assumption) | exact fun q => absurd q.2 (Int32.not_lt.mpr (by assumption)))]); first | done | rfl)
    · first | rfl | (funext zz; simp only [va_up]; (repeat' split) <;> first | rfl | (exfalso; omega) | simp_all)
    · rfl
set_option maxHeartbeats 4000000 in
set_option maxRecDepth 100000 in
theorem k_freeze_0_2 {κ : Wc} {l : Launch} {h : Mm} {n : Nat} {i : Nat} {len : Nat} {m : Nat → Int32} {now : Int32} {dd : Int32} {dr : Int32} {cc : Int32} {on : Int32} {cold : Int32} {wind : Int32} {a : Nat} {kd : Int32} {nb : Int32} {em : Int32} {c : Nat} {w : Int32} {s : Int32} (K0 : h a = some (.inr (8, [.int kd, .int nb, .int em]))) (K1 : h i = some (.inr (2, [.ref (i + 1), .ref (i + 2), .ref (i + 3), .ref (i + 4), .ref (i + 5), .int (nI len), .int now, .int dd, .int dr, .int cc, .int on, .int cold, .int wind]))) (K2 : h (i + 1) = arI κ 40 (win 100 40 m)) (q2 : c < len) (q3 : len ≤ 40) : Con κ l yX0_freeze cX0_freeze 5 (some .int) 3 0 0 [.ref a, .ref i, .int (nI c), .int w, .int s] h n (fun q h' n' => q = some (.int (frK 0 em cold wind now m len c w s)) ∧ h' = h ∧ n' = n) := by
  refine Con.of mk_X0_freeze (Nat.le_of_ble_eq_true rfl) (fun G hG X E => ?_)
  subst hG
  refine z_ls (ls' := [(0, .ref a), (1, .ref i), (2, .int (nI c)), (3, .int w), (4, .int s)]) rfl ?_
  refine z_aload_n X 0 dX0_freeze_0 rfl ?_
  refine z_get X fl_X0_16_8 dX0_freeze_1 K0 rfl ?_
  refine z_aload_n X 1 dX0_freeze_4 rfl ?_
  refine z_get X fl_X0_19_2 dX0_freeze_5 K1 rfl ?_
  refine z_imul X dX0_freeze_8 ?_
  refine z_bipush (v := 100) X dX0_freeze_9 (by decide) ?_
  refine z_idiv X dX0_freeze_11 (by first | decide | exact mx1_ne _) ?_
  refine z_iret X E dX0_freeze_12 (by omega) (by omega) ⟨?_, ?_, ?_⟩
  · first | rfl | (simp only [frK]; (repeat first | rw [if_pos (by first | assumption | omega | exact ⟨by assumption, by assumption⟩ | exact ⟨by omega, by assumption⟩ | exact Int32.not_le.mp (by assumption) | exact ⟨by assumption, Int32.not_le.mp (by assumption)⟩)] | rw [if_neg (by first | assumption | omega | exact fun q => absurd q.1 (by assumption) | exact fun q => absurd q.2 (by assumption) | exact fun q => absurd q.1 (by omega) | exact Int32.not_lt.mpr (by assumption) | exact fun q => absurd q.2 (Int32.not_lt.mpr (by assumption)))]); first | done | rfl)
  · first | rfl | (funext zz; simp only [va_up]; (repeat' split) <;> first | rfl | (exfalso; omega) | simp_all)
  · rfl
set_option maxHeartbeats 4000000 in
set_option maxRecDepth 100000 in
theorem k_freeze_2_2 {κ : Wc} {l : Launch} {h : Mm} {n : Nat} {i : Nat} {len : Nat} {m : Nat → Int32} {now : Int32} {dd : Int32} {dr : Int32} {cc : Int32} {on : Int32} {cold : Int32} {wind : Int32} {a : Nat} {kd : Int32} {nb : Int32} {em : Int32} {c : Nat} {w : Int32} {s : Int32} (K0 : h a = some (.inr (8, [.int kd, .int nb, .int em]))) (K1 : h i = some (.inr (2, [.ref (i + 1), .ref (i + 2), .ref (i + 3), .ref (i + 4), .ref (i + 5), .int (nI len), .int now, .int dd, .int dr, .int cc, .int on, .int cold, .int wind]))) (K2 : h (i + 1) = arI κ 40 (win 100 40 m)) (q2 : c < len) (q3 : len ≤ 40) : Con κ l yX8_freeze cX8_freeze 5 (some .int) 4 0 0 [.ref a, .ref i, .int (nI c), .int w, .int s] h n (fun q h' n' => q = some (.int (frK 2 em cold wind now m len c w s)) ∧ h' = h ∧ n' = n) := by
  refine Con.of mk_X8_freeze (Nat.le_of_ble_eq_true rfl) (fun G hG X E => ?_)
  subst hG
  refine z_ls (ls' := [(0, .ref a), (1, .ref i), (2, .int (nI c)), (3, .int w), (4, .int s)]) rfl ?_
  refine z_aload_n X 0 dX8_freeze_0 rfl ?_
  refine z_get X fl_X8_7_8 dX8_freeze_1 K0 rfl ?_
  refine z_aload_n X 1 dX8_freeze_4 rfl ?_
  refine z_get X fl_X8_13_2 dX8_freeze_5 K1 rfl ?_
  refine z_imul X dX8_freeze_8 ?_
  refine z_bipush (v := 100) X dX8_freeze_9 (by decide) ?_
  refine z_idiv X dX8_freeze_11 (by first | decide | exact mx1_ne _) ?_
  refine z_bipush (v := 10) X dX8_freeze_12 (by decide) ?_
  refine z_aload_n X 1 dX8_freeze_14 rfl ?_
  refine z_get X fl_X8_18_2 dX8_freeze_15 K1 rfl ?_
  refine z_iadd X dX8_freeze_18 ?_
  refine z_imul X dX8_freeze_19 ?_
  refine z_bipush (v := 10) X dX8_freeze_20 (by decide) ?_
  refine z_idiv X dX8_freeze_22 (by first | decide | exact mx1_ne _) ?_
  refine z_iret X E dX8_freeze_23 (by omega) (by omega) ⟨?_, ?_, ?_⟩
  · first | rfl | (simp only [frK]; (repeat first | rw [if_pos (by first | assumption | omega | exact ⟨by assumption, by assumption⟩ | exact ⟨by omega, by assumption⟩ | exact Int32.not_le.mp (by assumption) | exact ⟨by assumption, Int32.not_le.mp (by assumption)⟩)] | rw [if_neg (by first | assumption | omega | exact fun q => absurd q.1 (by assumption) | exact fun q => absurd q.2 (by assumption) | exact fun q => absurd q.1 (by omega) | exact Int32.not_lt.mpr (by assumption) | exact fun q => absurd q.2 (Int32.not_lt.mpr (by assumption)))]); first | done | rfl)
  · first | rfl | (funext zz; simp only [va_up]; (repeat' split) <;> first | rfl | (exfalso; omega) | simp_all)
  · rfl
set_option maxHeartbeats 4000000 in
set_option maxRecDepth 100000 in
theorem k_freeze_0_3 {κ : Wc} {l : Launch} {h : Mm} {n : Nat} {i : Nat} {len : Nat} {m : Nat → Int32} {now : Int32} {dd : Int32} {dr : Int32} {cc : Int32} {on : Int32} {cold : Int32} {wind : Int32} {a : Nat} {kd : Int32} {nb : Int32} {em : Int32} {c : Nat} {w : Int32} {s : Int32} (K0 : h a = some (.inr (5, [.int kd, .int nb, .int em]))) (K1 : h i = some (.inr (2, [.ref (i + 1), .ref (i + 2), .ref (i + 3), .ref (i + 4), .ref (i + 5), .int (nI len), .int now, .int dd, .int dr, .int cc, .int on, .int cold, .int wind]))) (K2 : h (i + 1) = arI κ 40 (win 100 40 m)) (q2 : c < len) (q3 : len ≤ 40) : Con κ l yX0_freeze cX0_freeze 5 (some .int) 3 0 0 [.ref a, .ref i, .int (nI c), .int w, .int s] h n (fun q h' n' => q = some (.int (frK 0 em cold wind now m len c w s)) ∧ h' = h ∧ n' = n) := by
  refine Con.of mk_X0_freeze (Nat.le_of_ble_eq_true rfl) (fun G hG X E => ?_)
  subst hG
  refine z_ls (ls' := [(0, .ref a), (1, .ref i), (2, .int (nI c)), (3, .int w), (4, .int s)]) rfl ?_
  refine z_aload_n X 0 dX0_freeze_0 rfl ?_
  refine z_get X fl_X0_16_5 dX0_freeze_1 K0 rfl ?_
  refine z_aload_n X 1 dX0_freeze_4 rfl ?_
  refine z_get X fl_X0_19_2 dX0_freeze_5 K1 rfl ?_
  refine z_imul X dX0_freeze_8 ?_
  refine z_bipush (v := 100) X dX0_freeze_9 (by decide) ?_
  refine z_idiv X dX0_freeze_11 (by first | decide | exact mx1_ne _) ?_
  refine z_iret X E dX0_freeze_12 (by omega) (by omega) ⟨?_, ?_, ?_⟩
  · first | rfl | (simp only [frK]; (repeat first | rw [if_pos (by first | assumption | omega | exact ⟨by assumption, by assumption⟩ | exact ⟨by omega, by assumption⟩ | exact Int32.not_le.mp (by assumption) | exact ⟨by assumption, Int32.not_le.mp (by assumption)⟩)] | rw [if_neg (by first | assumption | omega | exact fun q => absurd q.1 (by assumption) | exact fun q => absurd q.2 (by assumption) | exact fun q => absurd q.1 (by omega) | exact Int32.not_lt.mpr (by assumption) | exact fun q => absurd q.2 (Int32.not_lt.mpr (by assumption)))]); first | done | rfl)
  · first | rfl | (funext zz; simp only [va_up]; (repeat' split) <;> first | rfl | (exfalso; omega) | simp_all)
  · rfl
set_option maxHeartbeats 4000000 in
set_option maxRecDepth 100000 in
theorem k_freeze_2_3 {κ : Wc} {l : Launch} {h : Mm} {n : Nat} {i : Nat} {len : Nat} {m : Nat → Int32} {now : Int32} {dd : Int32} {dr : Int32} {cc : Int32} {on : Int32} {cold : Int32} {wind : Int32} {a : Nat} {kd : Int32} {nb : Int32} {em : Int32} {c : Nat} {w : Int32} {s : Int32} (K0 : h a = some (.inr (5, [.int kd, .int nb, .int em]))) (K1 : h i = some (.inr (2, [.ref (i + 1), .ref (i + 2), .ref (i + 3), .ref (i + 4), .ref (i + 5), .int (nI len), .int now, .int dd, .int dr, .int cc, .int on, .int cold, .int wind]))) (K2 : h (i + 1) = arI κ 40 (win 100 40 m)) (q2 : c < len) (q3 : len ≤ 40) : Con κ l yX8_freeze cX8_freeze 5 (some .int) 4 0 0 [.ref a, .ref i, .int (nI c), .int w, .int s] h n (fun q h' n' => q = some (.int (frK 2 em cold wind now m len c w s)) ∧ h' = h ∧ n' = n) := by
  refine Con.of mk_X8_freeze (Nat.le_of_ble_eq_true rfl) (fun G hG X E => ?_)
  subst hG
  refine z_ls (ls' := [(0, .ref a), (1, .ref i), (2, .int (nI c)), (3, .int w), (4, .int s)]) rfl ?_
  refine z_aload_n X 0 dX8_freeze_0 rfl ?_
  refine z_get X fl_X8_7_5 dX8_freeze_1 K0 rfl ?_
  refine z_aload_n X 1 dX8_freeze_4 rfl ?_
  refine z_get X fl_X8_13_2 dX8_freeze_5 K1 rfl ?_
  refine z_imul X dX8_freeze_8 ?_
  refine z_bipush (v := 100) X dX8_freeze_9 (by decide) ?_
  refine z_idiv X dX8_freeze_11 (by first | decide | exact mx1_ne _) ?_
  refine z_bipush (v := 10) X dX8_freeze_12 (by decide) ?_
  refine z_aload_n X 1 dX8_freeze_14 rfl ?_
  refine z_get X fl_X8_18_2 dX8_freeze_15 K1 rfl ?_
  refine z_iadd X dX8_freeze_18 ?_
  refine z_imul X dX8_freeze_19 ?_
  refine z_bipush (v := 10) X dX8_freeze_20 (by decide) ?_
  refine z_idiv X dX8_freeze_22 (by first | decide | exact mx1_ne _) ?_
  refine z_iret X E dX8_freeze_23 (by omega) (by omega) ⟨?_, ?_, ?_⟩
  · first | rfl | (simp only [frK]; (repeat first | rw [if_pos (by first | assumption | omega | exact ⟨by assumption, by assumption⟩ | exact ⟨by omega, by assumption⟩ | exact Int32.not_le.mp (by assumption) | exact ⟨by assumption, Int32.not_le.mp (by assumption)⟩)] | rw [if_neg (by first | assumption | omega | exact fun q => absurd q.1 (by assumption) | exact fun q => absurd q.2 (by assumption) | exact fun q => absurd q.1 (by omega) | exact Int32.not_lt.mpr (by assumption) | exact fun q => absurd q.2 (Int32.not_lt.mpr (by assumption)))]); first | done | rfl)
  · first | rfl | (funext zz; simp only [va_up]; (repeat' split) <;> first | rfl | (exfalso; omega) | simp_all)
  · rfl
set_option maxHeartbeats 4000000 in
set_option maxRecDepth 100000 in
theorem k_freeze_3_3 {κ : Wc} {l : Launch} {h : Mm} {n : Nat} {i : Nat} {len : Nat} {m : Nat → Int32} {now : Int32} {dd : Int32} {dr : Int32} {cc : Int32} {on : Int32} {cold : Int32} {wind : Int32} {a : Nat} {kd : Int32} {nb : Int32} {em : Int32} {c : Nat} {w : Int32} {s : Int32} (K0 : h a = some (.inr (5, [.int kd, .int nb, .int em]))) (K1 : h i = some (.inr (2, [.ref (i + 1), .ref (i + 2), .ref (i + 3), .ref (i + 4), .ref (i + 5), .int (nI len), .int now, .int dd, .int dr, .int cc, .int on, .int cold, .int wind]))) (K2 : h (i + 1) = arI κ 40 (win 100 40 m)) (q2 : c < len) (q3 : len ≤ 40) : Con κ l yX5_freeze cX5_freeze 5 (some .int) 5 0 0 [.ref a, .ref i, .int (nI c), .int w, .int s] h n (fun q h' n' => q = some (.int (frK 3 em cold wind now m len c w s)) ∧ h' = h ∧ n' = n) := by
  refine Con.of mk_X5_freeze (Nat.le_of_ble_eq_true rfl) (fun G hG X E => ?_)
  subst hG
  refine z_ls (ls' := [(0, .ref a), (1, .ref i), (2, .int (nI c)), (3, .int w), (4, .int s)]) rfl ?_
  refine z_aload_n X 0 dX5_freeze_0 rfl ?_
  refine z_aload_n X 1 dX5_freeze_1 rfl ?_
  refine z_iload_n X 2 dX5_freeze_2 rfl ?_
  refine z_iload_n X 3 dX5_freeze_3 rfl ?_
  refine z_iload X 4 dX5_freeze_4 rfl ?_
  refine z_callSU X (k_freeze_2_3 (κ := κ) (n := n) (i := (i)) (len := (len)) (m := (m)) (now := (now)) (dd := (dd)) (dr := (dr)) (cc := (cc)) (on := (on)) (cold := (cold)) (wind := (wind)) (a := (a)) (kd := (kd)) (nb := (nb)) (em := (em)) (c := (c)) (w := (w)) (s := (s)) K0 K1 K2 (by first | assumption | omega) (by first | assumption | omega)) mk_X8_freeze dX5_freeze_6 wd_484 wd_1373 wd_371 wd_485 (by decide) K0 rfl rfl rfl (Nat.le_of_ble_eq_true rfl) (Nat.le_of_ble_eq_true rfl) (Nat.le_of_ble_eq_true rfl) (by omega) (by omega) (fun q zh1 zm3 zp4 => ?_)
  obtain ⟨rfl, ze2, zn5⟩ := zp4
  subst zm3
  subst zh1
  refine z_st (st' := [.int (frK 2 em cold wind now m len c w s)]) rfl ?_
  refine z_aload_n X 0 dX5_freeze_9 rfl ?_
  refine z_get X fl_X5_11_5 dX5_freeze_10 K0 rfl ?_
  refine z_aload_n X 1 dX5_freeze_13 rfl ?_
  refine z_iload_n X 2 dX5_freeze_14 rfl ?_
  refine z_callV X (c_standsOut (κ := κ) (n := n) (i := (i)) (len := (len)) (m := (m)) (now := (now)) (dd := (dd)) (dr := (dr)) (cc := (cc)) (on := (on)) (cold := (cold)) (wind := (wind)) (c := (c)) K1 K2 (by first | assumption | omega) (by first | assumption | omega)) mk_X2_standsOut dX5_freeze_15 wd_487 wd_275 wd_276 rfl K1 rfl rfl rfl (Nat.le_of_ble_eq_true rfl) (Nat.le_of_ble_eq_true rfl) (Nat.le_of_ble_eq_true rfl) (by omega) (by omega) (fun q zh6 zm8 zp9 => ?_)
  obtain ⟨rfl, ze7, zn10⟩ := zp9
  subst zm8
  subst zh6
  refine z_st (st' := [.int (soR m len c), .int em, .int (frK 2 em cold wind now m len c w s)]) rfl ?_
  refine z_imul X dX5_freeze_18 ?_
  refine z_bipush (v := 100) X dX5_freeze_19 (by decide) ?_
  refine z_idiv X dX5_freeze_21 (by first | decide | exact mx1_ne _) ?_
  refine z_iadd X dX5_freeze_22 ?_
  refine z_iret X E dX5_freeze_23 (by omega) (by omega) ⟨?_, ?_, ?_⟩
  · first | rfl | (simp only [frK]; (repeat first | rw [if_pos (by first | assumption | omega | exact ⟨by assumption, by assumption⟩ | exact ⟨by omega, by assumption⟩ | exact Int32.not_le.mp (by assumption) | exact ⟨by assumption, Int32.not_le.mp (by assumption)⟩)] | rw [if_neg (by first | assumption | omega | exact fun q => absurd q.1 (by assumption) | exact fun q => absurd q.2 (by assumption) | exact fun q => absurd q.1 (by omega) | exact Int32.not_lt.mpr (by assumption) | exact fun q => absurd q.2 (Int32.not_lt.mpr (by assumption)))]); first | done | rfl)
  · first | rfl | (funext zz; simp only [va_up]; (repeat' split) <;> first | rfl | (exfalso; omega) | simp_all)
  · rfl
set_option maxHeartbeats 4000000 in
set_option maxRecDepth 100000 in
theorem k_freeze_0_4 {κ : Wc} {l : Launch} {h : Mm} {n : Nat} {i : Nat} {len : Nat} {m : Nat → Int32} {now : Int32} {dd : Int32} {dr : Int32} {cc : Int32} {on : Int32} {cold : Int32} {wind : Int32} {a : Nat} {kd : Int32} {nb : Int32} {em : Int32} {c : Nat} {w : Int32} {s : Int32} (K0 : h a = some (.inr (7, [.int kd, .int nb, .int em]))) (K1 : h i = some (.inr (2, [.ref (i + 1), .ref (i + 2), .ref (i + 3), .ref (i + 4), .ref (i + 5), .int (nI len), .int now, .int dd, .int dr, .int cc, .int on, .int cold, .int wind]))) (K2 : h (i + 1) = arI κ 40 (win 100 40 m)) (q2 : c < len) (q3 : len ≤ 40) : Con κ l yX0_freeze cX0_freeze 5 (some .int) 3 0 0 [.ref a, .ref i, .int (nI c), .int w, .int s] h n (fun q h' n' => q = some (.int (frK 0 em cold wind now m len c w s)) ∧ h' = h ∧ n' = n) := by
  refine Con.of mk_X0_freeze (Nat.le_of_ble_eq_true rfl) (fun G hG X E => ?_)
  subst hG
  refine z_ls (ls' := [(0, .ref a), (1, .ref i), (2, .int (nI c)), (3, .int w), (4, .int s)]) rfl ?_
  refine z_aload_n X 0 dX0_freeze_0 rfl ?_
  refine z_get X fl_X0_16_7 dX0_freeze_1 K0 rfl ?_
  refine z_aload_n X 1 dX0_freeze_4 rfl ?_
  refine z_get X fl_X0_19_2 dX0_freeze_5 K1 rfl ?_
  refine z_imul X dX0_freeze_8 ?_
  refine z_bipush (v := 100) X dX0_freeze_9 (by decide) ?_
  refine z_idiv X dX0_freeze_11 (by first | decide | exact mx1_ne _) ?_
  refine z_iret X E dX0_freeze_12 (by omega) (by omega) ⟨?_, ?_, ?_⟩
  · first | rfl | (simp only [frK]; (repeat first | rw [if_pos (by first | assumption | omega | exact ⟨by assumption, by assumption⟩ | exact ⟨by omega, by assumption⟩ | exact Int32.not_le.mp (by assumption) | exact ⟨by assumption, Int32.not_le.mp (by assumption)⟩)] | rw [if_neg (by first | assumption | omega | exact fun q => absurd q.1 (by assumption) | exact fun q => absurd q.2 (by assumption) | exact fun q => absurd q.1 (by omega) | exact Int32.not_lt.mpr (by assumption) | exact fun q => absurd q.2 (Int32.not_lt.mpr (by assumption)))]); first | done | rfl)
  · first | rfl | (funext zz; simp only [va_up]; (repeat' split) <;> first | rfl | (exfalso; omega) | simp_all)
  · rfl
set_option maxHeartbeats 4000000 in
set_option maxRecDepth 100000 in
theorem k_freeze_2_4 {κ : Wc} {l : Launch} {h : Mm} {n : Nat} {i : Nat} {len : Nat} {m : Nat → Int32} {now : Int32} {dd : Int32} {dr : Int32} {cc : Int32} {on : Int32} {cold : Int32} {wind : Int32} {a : Nat} {kd : Int32} {nb : Int32} {em : Int32} {c : Nat} {w : Int32} {s : Int32} (K0 : h a = some (.inr (7, [.int kd, .int nb, .int em]))) (K1 : h i = some (.inr (2, [.ref (i + 1), .ref (i + 2), .ref (i + 3), .ref (i + 4), .ref (i + 5), .int (nI len), .int now, .int dd, .int dr, .int cc, .int on, .int cold, .int wind]))) (K2 : h (i + 1) = arI κ 40 (win 100 40 m)) (q2 : c < len) (q3 : len ≤ 40) : Con κ l yX8_freeze cX8_freeze 5 (some .int) 4 0 0 [.ref a, .ref i, .int (nI c), .int w, .int s] h n (fun q h' n' => q = some (.int (frK 2 em cold wind now m len c w s)) ∧ h' = h ∧ n' = n) := by
  refine Con.of mk_X8_freeze (Nat.le_of_ble_eq_true rfl) (fun G hG X E => ?_)
  subst hG
  refine z_ls (ls' := [(0, .ref a), (1, .ref i), (2, .int (nI c)), (3, .int w), (4, .int s)]) rfl ?_
  refine z_aload_n X 0 dX8_freeze_0 rfl ?_
  refine z_get X fl_X8_7_7 dX8_freeze_1 K0 rfl ?_
  refine z_aload_n X 1 dX8_freeze_4 rfl ?_
  refine z_get X fl_X8_13_2 dX8_freeze_5 K1 rfl ?_
  refine z_imul X dX8_freeze_8 ?_
  refine z_bipush (v := 100) X dX8_freeze_9 (by decide) ?_
  refine z_idiv X dX8_freeze_11 (by first | decide | exact mx1_ne _) ?_
  refine z_bipush (v := 10) X dX8_freeze_12 (by decide) ?_
  refine z_aload_n X 1 dX8_freeze_14 rfl ?_
  refine z_get X fl_X8_18_2 dX8_freeze_15 K1 rfl ?_
  refine z_iadd X dX8_freeze_18 ?_
  refine z_imul X dX8_freeze_19 ?_
  refine z_bipush (v := 10) X dX8_freeze_20 (by decide) ?_
  refine z_idiv X dX8_freeze_22 (by first | decide | exact mx1_ne _) ?_
  refine z_iret X E dX8_freeze_23 (by omega) (by omega) ⟨?_, ?_, ?_⟩
  · first | rfl | (simp only [frK]; (repeat first | rw [if_pos (by first | assumption | omega | exact ⟨by assumption, by assumption⟩ | exact ⟨by omega, by assumption⟩ | exact Int32.not_le.mp (by assumption) | exact ⟨by assumption, Int32.not_le.mp (by assumption)⟩)] | rw [if_neg (by first | assumption | omega | exact fun q => absurd q.1 (by assumption) | exact fun q => absurd q.2 (by assumption) | exact fun q => absurd q.1 (by omega) | exact Int32.not_lt.mpr (by assumption) | exact fun q => absurd q.2 (Int32.not_lt.mpr (by assumption)))]); first | done | rfl)
  · first | rfl | (funext zz; simp only [va_up]; (repeat' split) <;> first | rfl | (exfalso; omega) | simp_all)
  · rfl
set_option maxHeartbeats 4000000 in
set_option maxRecDepth 100000 in
theorem k_freeze_3_4 {κ : Wc} {l : Launch} {h : Mm} {n : Nat} {i : Nat} {len : Nat} {m : Nat → Int32} {now : Int32} {dd : Int32} {dr : Int32} {cc : Int32} {on : Int32} {cold : Int32} {wind : Int32} {a : Nat} {kd : Int32} {nb : Int32} {em : Int32} {c : Nat} {w : Int32} {s : Int32} (K0 : h a = some (.inr (7, [.int kd, .int nb, .int em]))) (K1 : h i = some (.inr (2, [.ref (i + 1), .ref (i + 2), .ref (i + 3), .ref (i + 4), .ref (i + 5), .int (nI len), .int now, .int dd, .int dr, .int cc, .int on, .int cold, .int wind]))) (K2 : h (i + 1) = arI κ 40 (win 100 40 m)) (q2 : c < len) (q3 : len ≤ 40) : Con κ l yX5_freeze cX5_freeze 5 (some .int) 5 0 0 [.ref a, .ref i, .int (nI c), .int w, .int s] h n (fun q h' n' => q = some (.int (frK 3 em cold wind now m len c w s)) ∧ h' = h ∧ n' = n) := by
  refine Con.of mk_X5_freeze (Nat.le_of_ble_eq_true rfl) (fun G hG X E => ?_)
  subst hG
  refine z_ls (ls' := [(0, .ref a), (1, .ref i), (2, .int (nI c)), (3, .int w), (4, .int s)]) rfl ?_
  refine z_aload_n X 0 dX5_freeze_0 rfl ?_
  refine z_aload_n X 1 dX5_freeze_1 rfl ?_
  refine z_iload_n X 2 dX5_freeze_2 rfl ?_
  refine z_iload_n X 3 dX5_freeze_3 rfl ?_
  refine z_iload X 4 dX5_freeze_4 rfl ?_
  refine z_callSU X (k_freeze_2_4 (κ := κ) (n := n) (i := (i)) (len := (len)) (m := (m)) (now := (now)) (dd := (dd)) (dr := (dr)) (cc := (cc)) (on := (on)) (cold := (cold)) (wind := (wind)) (a := (a)) (kd := (kd)) (nb := (nb)) (em := (em)) (c := (c)) (w := (w)) (s := (s)) K0 K1 K2 (by first | assumption | omega) (by first | assumption | omega)) mk_X8_freeze dX5_freeze_6 wd_484 wd_1373 wd_371 wd_485 (by decide) K0 rfl rfl rfl (Nat.le_of_ble_eq_true rfl) (Nat.le_of_ble_eq_true rfl) (Nat.le_of_ble_eq_true rfl) (by omega) (by omega) (fun q zh1 zm3 zp4 => ?_)
  obtain ⟨rfl, ze2, zn5⟩ := zp4
  subst zm3
  subst zh1
  refine z_st (st' := [.int (frK 2 em cold wind now m len c w s)]) rfl ?_
  refine z_aload_n X 0 dX5_freeze_9 rfl ?_
  refine z_get X fl_X5_11_7 dX5_freeze_10 K0 rfl ?_
  refine z_aload_n X 1 dX5_freeze_13 rfl ?_
  refine z_iload_n X 2 dX5_freeze_14 rfl ?_
  refine z_callV X (c_standsOut (κ := κ) (n := n) (i := (i)) (len := (len)) (m := (m)) (now := (now)) (dd := (dd)) (dr := (dr)) (cc := (cc)) (on := (on)) (cold := (cold)) (wind := (wind)) (c := (c)) K1 K2 (by first | assumption | omega) (by first | assumption | omega)) mk_X2_standsOut dX5_freeze_15 wd_487 wd_275 wd_276 rfl K1 rfl rfl rfl (Nat.le_of_ble_eq_true rfl) (Nat.le_of_ble_eq_true rfl) (Nat.le_of_ble_eq_true rfl) (by omega) (by omega) (fun q zh6 zm8 zp9 => ?_)
  obtain ⟨rfl, ze7, zn10⟩ := zp9
  subst zm8
  subst zh6
  refine z_st (st' := [.int (soR m len c), .int em, .int (frK 2 em cold wind now m len c w s)]) rfl ?_
  refine z_imul X dX5_freeze_18 ?_
  refine z_bipush (v := 100) X dX5_freeze_19 (by decide) ?_
  refine z_idiv X dX5_freeze_21 (by first | decide | exact mx1_ne _) ?_
  refine z_iadd X dX5_freeze_22 ?_
  refine z_iret X E dX5_freeze_23 (by omega) (by omega) ⟨?_, ?_, ?_⟩
  · first | rfl | (simp only [frK]; (repeat first | rw [if_pos (by first | assumption | omega | exact ⟨by assumption, by assumption⟩ | exact ⟨by omega, by assumption⟩ | exact Int32.not_le.mp (by assumption) | exact ⟨by assumption, Int32.not_le.mp (by assumption)⟩)] | rw [if_neg (by first | assumption | omega | exact fun q => absurd q.1 (by assumption) | exact fun q => absurd q.2 (by assumption) | exact fun q => absurd q.1 (by omega) | exact Int32.not_lt.mpr (by assumption) | exact fun q => absurd q.2 (Int32.not_lt.mpr (by assumption)))]); first | done | rfl)
  · first | rfl | (funext zz; simp only [va_up]; (repeat' split) <;> first | rfl | (exfalso; omega) | simp_all)
  · rfl
set_option maxHeartbeats 4000000 in
set_option maxRecDepth 100000 in
theorem k_freeze_4_4 {κ : Wc} {l : Launch} {h : Mm} {n : Nat} {i : Nat} {len : Nat} {m : Nat → Int32} {now : Int32} {dd : Int32} {dr : Int32} {cc : Int32} {on : Int32} {cold : Int32} {wind : Int32} {a : Nat} {kd : Int32} {nb : Int32} {em : Int32} {c : Nat} {w : Int32} {s : Int32} (K0 : h a = some (.inr (7, [.int kd, .int nb, .int em]))) (K1 : h i = some (.inr (2, [.ref (i + 1), .ref (i + 2), .ref (i + 3), .ref (i + 4), .ref (i + 5), .int (nI len), .int now, .int dd, .int dr, .int cc, .int on, .int cold, .int wind]))) (K2 : h (i + 1) = arI κ 40 (win 100 40 m)) (q2 : c < len) (q3 : len ≤ 40) : Con κ l yX7_freeze cX7_freeze 5 (some .int) 6 0 0 [.ref a, .ref i, .int (nI c), .int w, .int s] h n (fun q h' n' => q = some (.int (frK 4 em cold wind now m len c w s)) ∧ h' = h ∧ n' = n) := by
  refine Con.of mk_X7_freeze (Nat.le_of_ble_eq_true rfl) (fun G hG X E => ?_)
  subst hG
  refine z_ls (ls' := [(0, .ref a), (1, .ref i), (2, .int (nI c)), (3, .int w), (4, .int s)]) rfl ?_
  refine z_aload_n X 0 dX7_freeze_0 rfl ?_
  refine z_aload_n X 1 dX7_freeze_1 rfl ?_
  refine z_iload_n X 2 dX7_freeze_2 rfl ?_
  refine z_iload_n X 3 dX7_freeze_3 rfl ?_
  refine z_iload X 4 dX7_freeze_4 rfl ?_
  refine z_callSU X (k_freeze_3_4 (κ := κ) (n := n) (i := (i)) (len := (len)) (m := (m)) (now := (now)) (dd := (dd)) (dr := (dr)) (cc := (cc)) (on := (on)) (cold := (cold)) (wind := (wind)) (a := (a)) (kd := (kd)) (nb := (nb)) (em := (em)) (c := (c)) (w := (w)) (s := (s)) K0 K1 K2 (by first | assumption | omega) (by first | assumption | omega)) mk_X5_freeze dX7_freeze_6 wd_491 wd_1374 wd_381 wd_482 (by decide) K0 rfl rfl rfl (Nat.le_of_ble_eq_true rfl) (Nat.le_of_ble_eq_true rfl) (Nat.le_of_ble_eq_true rfl) (by omega) (by omega) (fun q zh1 zm3 zp4 => ?_)
  obtain ⟨rfl, ze2, zn5⟩ := zp4
  subst zm3
  subst zh1
  refine z_st (st' := [.int (frK 3 em cold wind now m len c w s)]) rfl ?_
  refine z_aload_n X 0 dX7_freeze_9 rfl ?_
  refine z_get X fl_X7_11_7 dX7_freeze_10 K0 rfl ?_
  refine z_iload X 4 dX7_freeze_13 rfl ?_
  refine z_imul X dX7_freeze_15 ?_
  refine z_iload_n X 3 dX7_freeze_16 rfl ?_
  refine z_iconst (v := 1) X dX7_freeze_17 (by decide) ?_
  refine z_mmax X dX7_freeze_18 wd_492 wd_173 wd_63 wd_174 (Nat.le_of_ble_eq_true rfl) (Nat.le_of_ble_eq_true rfl) (Nat.le_of_ble_eq_true rfl) (Nat.le_of_ble_eq_true rfl) ?_
  refine z_idiv X dX7_freeze_21 (by first | decide | exact mx1_ne _) ?_
  refine z_isub X dX7_freeze_22 ?_
  refine z_iret X E dX7_freeze_23 (by omega) (by omega) ⟨?_, ?_, ?_⟩
  · first | rfl | (simp only [frK]; (repeat first | rw [if_pos (by first | assumption | omega | exact ⟨by assumption, by assumption⟩ | exact ⟨by omega, by assumption⟩ | exact Int32.not_le.mp (by assumption) | exact ⟨by assumption, Int32.not_le.mp (by assumption)⟩)] | rw [if_neg (by first | assumption | omega | exact fun q => absurd q.1 (by assumption) | exact fun q => absurd q.2 (by assumption) | exact fun q => absurd q.1 (by omega) | exact Int32.not_lt.mpr (by assumption) | exact fun q => absurd q.2 (Int32.not_lt.mpr (by assumption)))]); first | done | rfl)
  · first | rfl | (funext zz; simp only [va_up]; (repeat' split) <;> first | rfl | (exfalso; omega) | simp_all)
  · rfl
set_option maxHeartbeats 4000000 in
set_option maxRecDepth 100000 in
theorem k_freeze_0_5 {κ : Wc} {l : Launch} {h : Mm} {n : Nat} {i : Nat} {len : Nat} {m : Nat → Int32} {now : Int32} {dd : Int32} {dr : Int32} {cc : Int32} {on : Int32} {cold : Int32} {wind : Int32} {a : Nat} {kd : Int32} {nb : Int32} {em : Int32} {c : Nat} {w : Int32} {s : Int32} (K0 : h a = some (.inr (4, [.int kd, .int nb, .int em]))) (K1 : h i = some (.inr (2, [.ref (i + 1), .ref (i + 2), .ref (i + 3), .ref (i + 4), .ref (i + 5), .int (nI len), .int now, .int dd, .int dr, .int cc, .int on, .int cold, .int wind]))) (K2 : h (i + 1) = arI κ 40 (win 100 40 m)) (q2 : c < len) (q3 : len ≤ 40) : Con κ l yX0_freeze cX0_freeze 5 (some .int) 3 0 0 [.ref a, .ref i, .int (nI c), .int w, .int s] h n (fun q h' n' => q = some (.int (frK 0 em cold wind now m len c w s)) ∧ h' = h ∧ n' = n) := by
  refine Con.of mk_X0_freeze (Nat.le_of_ble_eq_true rfl) (fun G hG X E => ?_)
  subst hG
  refine z_ls (ls' := [(0, .ref a), (1, .ref i), (2, .int (nI c)), (3, .int w), (4, .int s)]) rfl ?_
  refine z_aload_n X 0 dX0_freeze_0 rfl ?_
  refine z_get X fl_X0_16_4 dX0_freeze_1 K0 rfl ?_
  refine z_aload_n X 1 dX0_freeze_4 rfl ?_
  refine z_get X fl_X0_19_2 dX0_freeze_5 K1 rfl ?_
  refine z_imul X dX0_freeze_8 ?_
  refine z_bipush (v := 100) X dX0_freeze_9 (by decide) ?_
  refine z_idiv X dX0_freeze_11 (by first | decide | exact mx1_ne _) ?_
  refine z_iret X E dX0_freeze_12 (by omega) (by omega) ⟨?_, ?_, ?_⟩
  · first | rfl | (simp only [frK]; (repeat first | rw [if_pos (by first | assumption | omega | exact ⟨by assumption, by assumption⟩ | exact ⟨by omega, by assumption⟩ | exact Int32.not_le.mp (by assumption) | exact ⟨by assumption, Int32.not_le.mp (by assumption)⟩)] | rw [if_neg (by first | assumption | omega | exact fun q => absurd q.1 (by assumption) | exact fun q => absurd q.2 (by assumption) | exact fun q => absurd q.1 (by omega) | exact Int32.not_lt.mpr (by assumption) | exact fun q => absurd q.2 (Int32.not_lt.mpr (by assumption)))]); first | done | rfl)
  · first | rfl | (funext zz; simp only [va_up]; (repeat' split) <;> first | rfl | (exfalso; omega) | simp_all)
  · rfl
set_option maxHeartbeats 4000000 in
set_option maxRecDepth 100000 in
theorem k_freeze_5_5 {κ : Wc} {l : Launch} {h : Mm} {n : Nat} {i : Nat} {len : Nat} {m : Nat → Int32} {now : Int32} {dd : Int32} {dr : Int32} {cc : Int32} {on : Int32} {cold : Int32} {wind : Int32} {a : Nat} {kd : Int32} {nb : Int32} {em : Int32} {c : Nat} {w : Int32} {s : Int32} (K0 : h a = some (.inr (4, [.int kd, .int nb, .int em]))) (K1 : h i = some (.inr (2, [.ref (i + 1), .ref (i + 2), .ref (i + 3), .ref (i + 4), .ref (i + 5), .int (nI len), .int now, .int dd, .int dr, .int cc, .int on, .int cold, .int wind]))) (K2 : h (i + 1) = arI κ 40 (win 100 40 m)) (q2 : c < len) (q3 : len ≤ 40) : Con κ l yX4_freeze cX4_freeze 6 (some .int) 4 0 0 [.ref a, .ref i, .int (nI c), .int w, .int s] h n (fun q h' n' => q = some (.int (frK 5 em cold wind now m len c w s)) ∧ h' = h ∧ n' = n) := by
  refine Con.of mk_X4_freeze (Nat.le_of_ble_eq_true rfl) (fun G hG X E => ?_)
  subst hG
  refine z_ls (ls' := [(0, .ref a), (1, .ref i), (2, .int (nI c)), (3, .int w), (4, .int s)]) rfl ?_
  refine z_aload_n X 0 dX4_freeze_0 rfl ?_
  refine z_aload_n X 1 dX4_freeze_1 rfl ?_
  refine z_iload_n X 2 dX4_freeze_2 rfl ?_
  refine z_iload_n X 3 dX4_freeze_3 rfl ?_
  refine z_iload X 4 dX4_freeze_4 rfl ?_
  refine z_callSU X (k_freeze_0_5 (κ := κ) (n := n) (i := (i)) (len := (len)) (m := (m)) (now := (now)) (dd := (dd)) (dr := (dr)) (cc := (cc)) (on := (on)) (cold := (cold)) (wind := (wind)) (a := (a)) (kd := (kd)) (nb := (nb)) (em := (em)) (c := (c)) (w := (w)) (s := (s)) K0 K1 K2 (by first | assumption | omega) (by first | assumption | omega)) mk_X0_freeze dX4_freeze_6 wd_480 wd_469 wd_391 wd_467 (by decide) K0 rfl rfl rfl (Nat.le_of_ble_eq_true rfl) (Nat.le_of_ble_eq_true rfl) (Nat.le_of_ble_eq_true rfl) (by omega) (by omega) (fun q zh1 zm3 zp4 => ?_)
  obtain ⟨rfl, ze2, zn5⟩ := zp4
  subst zm3
  subst zh1
  refine z_st (st' := [.int (frK 0 em cold wind now m len c w s)]) rfl ?_
  refine z_istore (ls' := [(5, .int (frK 0 em cold wind now m len c w s)), (0, .ref a), (1, .ref i), (2, .int (nI c)), (3, .int w), (4, .int s)]) X dX4_freeze_9 (by decide) rfl ?_
  refine z_aload_n X 2 dX4_freeze_11 rfl ?_
  refine z_get X fl_X4_11_2 dX4_freeze_12 K1 rfl ?_
  refine z_bipush (v := 20) X dX4_freeze_15 (by decide) ?_
  refine z_icmp_le X 34 dX4_freeze_17 (by decide) (fun zc6 => ?_) (fun zc6 => ?_)
  · refine z_iload X 0 dX4_freeze_34 rfl ?_
    refine z_iret X E dX4_freeze_36 (by omega) (by omega) ⟨?_, ?_, ?_⟩
    · first | rfl | (simp only [frK]; (repeat first | rw [if_pos (by first | assumption | omega | exact ⟨by assumption, by assumption⟩ | exact ⟨by omega, by assumption⟩ | exact Int32.not_le.mp (by assumption) | exact ⟨by assumption, Int32.not_le.mp (by assumption)⟩)] | rw [if_neg (by first | assumption | omega | exact fun q => absurd q.1 (by assumption) | exact fun q => absurd q.2 (by assumption) | exact fun q => absurd q.1 (by omega) | exact Int32.not_lt.mpr (by assumption) | exact fun q => absurd q.2 (Int32.not_lt.mpr (by assumption)))]); first | done | rfl)
    · first | rfl | (funext zz; simp only [va_up]; (repeat' split) <;> first | rfl | (exfalso; omega) | simp_all)
    · rfl
  · refine z_iload_n X 3 dX4_freeze_20 rfl ?_
    refine z_iconst (v := 2) X dX4_freeze_21 (by decide) ?_
    refine z_irem X dX4_freeze_22 (by first | decide | exact mx1_ne _) ?_
    refine z_iconst (v := 1) X dX4_freeze_23 (by decide) ?_
    refine z_icmp_ne X 34 dX4_freeze_24 (by decide) (fun zc7 => ?_) (fun zc7 => ?_)
    · refine z_iload X 0 dX4_freeze_34 rfl ?_
      refine z_iret X E dX4_freeze_36 (by omega) (by omega) ⟨?_, ?_, ?_⟩
      · first | rfl | (simp only [frK]; (repeat first | rw [if_pos (by first | assumption | omega | exact ⟨by assumption, by assumption⟩ | exact ⟨by omega, by assumption⟩ | exact Int32.not_le.mp (by assumption) | exact ⟨by assumption, Int32.not_le.mp (by assumption)⟩)] | rw [if_neg (by first | assumption | omega | exact fun q => absurd q.1 (by assumption) | exact fun q => absurd q.2 (by assumption) | exact fun q => absurd q.1 (by omega) | exact Int32.not_lt.mpr (by assumption) | exact fun q => absurd q.2 (Int32.not_lt.mpr (by assumption)))]); first | done | rfl)
      · first | rfl | (funext zz; simp only [va_up]; (repeat' split) <;> first | rfl | (exfalso; omega) | simp_all)
      · rfl
    · refine z_iconst (v := 2) X dX4_freeze_27 (by decide) ?_
      refine z_iload X 0 dX4_freeze_28 rfl ?_
      refine z_imul X dX4_freeze_30 ?_
      refine z_goto X 36 dX4_freeze_31 (by decide) ?_
      refine z_iret X E dX4_freeze_36 (by omega) (by omega) ⟨?_, ?_, ?_⟩
      · first | rfl | (simp only [frK]; (repeat first | rw [if_pos (by first | assumption | omega | exact ⟨by assumption, by assumption⟩ | exact ⟨by omega, by assumption⟩ | exact Int32.not_le.mp (by assumption) | exact ⟨by assumption, Int32.not_le.mp (by assumption)⟩)] | rw [if_neg (by first | assumption | omega | exact fun q => absurd q.1 (by assumption) | exact fun q => absurd q.2 (by assumption) | exact fun q => absurd q.1 (by omega) | exact Int32.not_lt.mpr (by assumption) | exact fun q => absurd q.2 (Int32.not_lt.mpr (by assumption)))]); first | done | rfl)
      · first | rfl | (funext zz; simp only [va_up]; (repeat' split) <;> first | rfl | (exfalso; omega) | simp_all)
      · rfl
set_option maxHeartbeats 4000000 in
set_option maxRecDepth 100000 in
theorem k_freeze_0_6 {κ : Wc} {l : Launch} {h : Mm} {n : Nat} {i : Nat} {len : Nat} {m : Nat → Int32} {now : Int32} {dd : Int32} {dr : Int32} {cc : Int32} {on : Int32} {cold : Int32} {wind : Int32} {a : Nat} {kd : Int32} {nb : Int32} {em : Int32} {c : Nat} {w : Int32} {s : Int32} (K0 : h a = some (.inr (1, [.int kd, .int nb, .int em]))) (K1 : h i = some (.inr (2, [.ref (i + 1), .ref (i + 2), .ref (i + 3), .ref (i + 4), .ref (i + 5), .int (nI len), .int now, .int dd, .int dr, .int cc, .int on, .int cold, .int wind]))) (K2 : h (i + 1) = arI κ 40 (win 100 40 m)) (q2 : c < len) (q3 : len ≤ 40) : Con κ l yX0_freeze cX0_freeze 5 (some .int) 3 0 0 [.ref a, .ref i, .int (nI c), .int w, .int s] h n (fun q h' n' => q = some (.int (frK 0 em cold wind now m len c w s)) ∧ h' = h ∧ n' = n) := by
  refine Con.of mk_X0_freeze (Nat.le_of_ble_eq_true rfl) (fun G hG X E => ?_)
  subst hG
  refine z_ls (ls' := [(0, .ref a), (1, .ref i), (2, .int (nI c)), (3, .int w), (4, .int s)]) rfl ?_
  refine z_aload_n X 0 dX0_freeze_0 rfl ?_
  refine z_get X fl_X0_16_1 dX0_freeze_1 K0 rfl ?_
  refine z_aload_n X 1 dX0_freeze_4 rfl ?_
  refine z_get X fl_X0_19_2 dX0_freeze_5 K1 rfl ?_
  refine z_imul X dX0_freeze_8 ?_
  refine z_bipush (v := 100) X dX0_freeze_9 (by decide) ?_
  refine z_idiv X dX0_freeze_11 (by first | decide | exact mx1_ne _) ?_
  refine z_iret X E dX0_freeze_12 (by omega) (by omega) ⟨?_, ?_, ?_⟩
  · first | rfl | (simp only [frK]; (repeat first | rw [if_pos (by first | assumption | omega | exact ⟨by assumption, by assumption⟩ | exact ⟨by omega, by assumption⟩ | exact Int32.not_le.mp (by assumption) | exact ⟨by assumption, Int32.not_le.mp (by assumption)⟩)] | rw [if_neg (by first | assumption | omega | exact fun q => absurd q.1 (by assumption) | exact fun q => absurd q.2 (by assumption) | exact fun q => absurd q.1 (by omega) | exact Int32.not_lt.mpr (by assumption) | exact fun q => absurd q.2 (Int32.not_lt.mpr (by assumption)))]); first | done | rfl)
  · first | rfl | (funext zz; simp only [va_up]; (repeat' split) <;> first | rfl | (exfalso; omega) | simp_all)
  · rfl
set_option maxHeartbeats 4000000 in
set_option maxRecDepth 100000 in
theorem k_freeze_1_6 {κ : Wc} {l : Launch} {h : Mm} {n : Nat} {i : Nat} {len : Nat} {m : Nat → Int32} {now : Int32} {dd : Int32} {dr : Int32} {cc : Int32} {on : Int32} {cold : Int32} {wind : Int32} {a : Nat} {kd : Int32} {nb : Int32} {em : Int32} {c : Nat} {w : Int32} {s : Int32} (K0 : h a = some (.inr (1, [.int kd, .int nb, .int em]))) (K1 : h i = some (.inr (2, [.ref (i + 1), .ref (i + 2), .ref (i + 3), .ref (i + 4), .ref (i + 5), .int (nI len), .int now, .int dd, .int dr, .int cc, .int on, .int cold, .int wind]))) (K2 : h (i + 1) = arI κ 40 (win 100 40 m)) (q2 : c < len) (q3 : len ≤ 40) : Con κ l yX10_freeze cX10_freeze 5 (some .int) 4 0 0 [.ref a, .ref i, .int (nI c), .int w, .int s] h n (fun q h' n' => q = some (.int (frK 1 em cold wind now m len c w s)) ∧ h' = h ∧ n' = n) := by
  refine Con.of mk_X10_freeze (Nat.le_of_ble_eq_true rfl) (fun G hG X E => ?_)
  subst hG
  refine z_ls (ls' := [(0, .ref a), (1, .ref i), (2, .int (nI c)), (3, .int w), (4, .int s)]) rfl ?_
  refine z_iload_n X 2 dX10_freeze_0 rfl ?_
  refine z_aload_n X 1 dX10_freeze_1 rfl ?_
  refine z_get X fl_X10_7_2 dX10_freeze_2 K1 rfl ?_
  refine z_iconst (v := 1) X dX10_freeze_5 (by decide) ?_
  refine z_isub X dX10_freeze_6 ?_
  refine z_toe (y := nI (len - 1)) (pk_sub (a := len) (b := 1) (by omega)) ?_
  refine z_icmp_ne X 25 dX10_freeze_7 (by decide) (fun zc1 => ?_) (fun zc1 => ?_)
  · try replace zc1 := mt (nI_eq (a := c) (b := len - 1) (by omega) (by omega)).mpr zc1
    refine z_iconst (v := 0) X dX10_freeze_25 (by decide) ?_
    refine z_iret X E dX10_freeze_26 (by omega) (by omega) ⟨?_, ?_, ?_⟩
    · first | rfl | (simp only [frK]; (repeat first | rw [if_pos (by first | assumption | omega | exact ⟨by assumption, by assumption⟩ | exact ⟨by omega, by assumption⟩ | exact Int32.not_le.mp (by assumption) | exact ⟨by assumption, Int32.not_le.mp (by assumption)⟩)] | rw [if_neg (by first | assumption | omega | exact fun q => absurd q.1 (by assumption) | exact fun q => absurd q.2 (by assumption) | exact fun q => absurd q.1 (by omega) | exact Int32.not_lt.mpr (by assumption) | exact fun q => absurd q.2 (Int32.not_lt.mpr (by assumption)))]); first | done | rfl)
    · first | rfl | (funext zz; simp only [va_up]; (repeat' split) <;> first | rfl | (exfalso; omega) | simp_all)
    · rfl
  · try replace zc1 := (nI_eq (a := c) (b := len - 1) (by omega) (by omega)).mp zc1
    refine z_bipush (v := 10) X dX10_freeze_10 (by decide) ?_
    refine z_aload_n X 0 dX10_freeze_12 rfl ?_
    refine z_aload_n X 1 dX10_freeze_13 rfl ?_
    refine z_iload_n X 2 dX10_freeze_14 rfl ?_
    refine z_iload_n X 3 dX10_freeze_15 rfl ?_
    refine z_iload X 4 dX10_freeze_16 rfl ?_
    refine z_callSU X (k_freeze_0_6 (κ := κ) (n := n) (i := (i)) (len := (len)) (m := (m)) (now := (now)) (dd := (dd)) (dr := (dr)) (cc := (cc)) (on := (on)) (cold := (cold)) (wind := (wind)) (a := (a)) (kd := (kd)) (nb := (nb)) (em := (em)) (c := (c)) (w := (w)) (s := (s)) K0 K1 K2 (by first | assumption | omega) (by first | assumption | omega)) mk_X0_freeze dX10_freeze_18 wd_476 wd_469 wd_351 wd_467 (by decide) K0 rfl rfl rfl (Nat.le_of_ble_eq_true rfl) (Nat.le_of_ble_eq_true rfl) (Nat.le_of_ble_eq_true rfl) (by omega) (by omega) (fun q zh2 zm4 zp5 => ?_)
    obtain ⟨rfl, ze3, zn6⟩ := zp5
    subst zm4
    subst zh2
    refine z_st (st' := [.int (frK 0 em cold wind now m len c w s), .int 10]) rfl ?_
    refine z_imul X dX10_freeze_21 ?_
    refine z_goto X 26 dX10_freeze_22 (by decide) ?_
    refine z_iret X E dX10_freeze_26 (by omega) (by omega) ⟨?_, ?_, ?_⟩
    · first | rfl | (simp only [frK]; (repeat first | rw [if_pos (by first | assumption | omega | exact ⟨by assumption, by assumption⟩ | exact ⟨by omega, by assumption⟩ | exact Int32.not_le.mp (by assumption) | exact ⟨by assumption, Int32.not_le.mp (by assumption)⟩)] | rw [if_neg (by first | assumption | omega | exact fun q => absurd q.1 (by assumption) | exact fun q => absurd q.2 (by assumption) | exact fun q => absurd q.1 (by omega) | exact Int32.not_lt.mpr (by assumption) | exact fun q => absurd q.2 (Int32.not_lt.mpr (by assumption)))]); first | done | rfl)
    · first | rfl | (funext zz; simp only [va_up]; (repeat' split) <;> first | rfl | (exfalso; omega) | simp_all)
    · rfl
set_option maxHeartbeats 4000000 in
set_option maxRecDepth 100000 in
theorem k_freeze_6_6 {κ : Wc} {l : Launch} {h : Mm} {n : Nat} {i : Nat} {len : Nat} {m : Nat → Int32} {now : Int32} {dd : Int32} {dr : Int32} {cc : Int32} {on : Int32} {cold : Int32} {wind : Int32} {a : Nat} {kd : Int32} {nb : Int32} {em : Int32} {c : Nat} {w : Int32} {s : Int32} (K0 : h a = some (.inr (1, [.int kd, .int nb, .int em]))) (K1 : h i = some (.inr (2, [.ref (i + 1), .ref (i + 2), .ref (i + 3), .ref (i + 4), .ref (i + 5), .int (nI len), .int now, .int dd, .int dr, .int cc, .int on, .int cold, .int wind]))) (K2 : h (i + 1) = arI κ 40 (win 100 40 m)) (q2 : c < len) (q3 : len ≤ 40) : Con κ l yX1_freeze cX1_freeze 6 (some .int) 5 0 0 [.ref a, .ref i, .int (nI c), .int w, .int s] h n (fun q h' n' => q = some (.int (frK 6 em cold wind now m len c w s)) ∧ h' = h ∧ n' = n) := by
  refine Con.of mk_X1_freeze (Nat.le_of_ble_eq_true rfl) (fun G hG X E => ?_)
  subst hG
  refine z_ls (ls' := [(0, .ref a), (1, .ref i), (2, .int (nI c)), (3, .int w), (4, .int s)]) rfl ?_
  refine z_iload_n X 2 dX1_freeze_0 rfl ?_
  refine z_aload_n X 1 dX1_freeze_1 rfl ?_
  refine z_get X fl_X1_7_2 dX1_freeze_2 K1 rfl ?_
  refine z_iconst (v := 1) X dX1_freeze_5 (by decide) ?_
  refine z_isub X dX1_freeze_6 ?_
  refine z_toe (y := nI (len - 1)) (pk_sub (a := len) (b := 1) (by omega)) ?_
  refine z_icmp_ne X 24 dX1_freeze_7 (by decide) (fun zc1 => ?_) (fun zc1 => ?_)
  · try replace zc1 := mt (nI_eq (a := c) (b := len - 1) (by omega) (by omega)).mpr zc1
    refine z_iconst (v := 0) X dX1_freeze_24 (by decide) ?_
    refine z_istore (ls' := [(5, .int 0), (0, .ref a), (1, .ref i), (2, .int (nI c)), (3, .int w), (4, .int s)]) X dX1_freeze_25 (by decide) rfl ?_
    refine z_aload_n X 1 dX1_freeze_27 rfl ?_
    refine z_aload_n X 2 dX1_freeze_28 rfl ?_
    refine z_iload_n X 3 dX1_freeze_29 rfl ?_
    refine z_iload_n X 4 dX1_freeze_30 rfl ?_
    refine z_iload X 5 dX1_freeze_31 rfl ?_
    refine z_callSU X (k_freeze_1_6 (κ := κ) (n := n) (i := (i)) (len := (len)) (m := (m)) (now := (now)) (dd := (dd)) (dr := (dr)) (cc := (cc)) (on := (on)) (cold := (cold)) (wind := (wind)) (a := (a)) (kd := (kd)) (nb := (nb)) (em := (em)) (c := (c)) (w := (w)) (s := (s)) K0 K1 K2 (by first | assumption | omega) (by first | assumption | omega)) mk_X10_freeze dX1_freeze_33 wd_473 wd_1372 wd_401 wd_474 (by decide) K0 rfl rfl rfl (Nat.le_of_ble_eq_true rfl) (Nat.le_of_ble_eq_true rfl) (Nat.le_of_ble_eq_true rfl) (by omega) (by omega) (fun q zh2 zm4 zp5 => ?_)
    obtain ⟨rfl, ze3, zn6⟩ := zp5
    subst zm4
    subst zh2
    refine z_st (st' := [.int (frK 1 em cold wind now m len c w s)]) rfl ?_
    refine z_iload X 0 dX1_freeze_36 rfl ?_
    refine z_if_eq X 48 dX1_freeze_38 (by decide) (fun zc7 => ?_) (fun zc7 => ?_)
    · try replace zc7 := (nI_eq (a := 0) (b := 0) (by omega) (by omega)).mp zc7
      refine z_iconst (v := 0) X dX1_freeze_48 (by decide) ?_
      refine z_iadd X dX1_freeze_49 ?_
      refine z_iret X E dX1_freeze_50 (by omega) (by omega) ⟨?_, ?_, ?_⟩
      · first | rfl | (simp only [frK]; (repeat first | rw [if_pos (by first | assumption | omega | exact ⟨by assumption, by assumption⟩ | exact ⟨by omega, by assumption⟩ | exact Int32.not_le.mp (by assumption) | exact ⟨by assumption, Int32.not_le.mp (by assumption)⟩)] | rw [if_neg (by first | assumption | omega | exact fun q => absurd q.1 (by assumption) | exact fun q => absurd q.2 (by assumption) | exact fun q => absurd q.1 (by omega) | exact Int32.not_lt.mpr (by assumption) | exact fun q => absurd q.2 (Int32.not_lt.mpr (by assumption)))]); first | done | rfl)
      · first | rfl | (funext zz; simp only [va_up]; (repeat' split) <;> first | rfl | (exfalso; omega) | simp_all)
      · rfl
    · first | exact absurd zc7 (by decide) | exact absurd (by decide) zc7
  · try replace zc1 := (nI_eq (a := c) (b := len - 1) (by omega) (by omega)).mp zc1
    refine z_aload_n X 1 dX1_freeze_10 rfl ?_
    refine z_get X fl_X1_13_2 dX1_freeze_11 K1 rfl ?_
    refine z_bipush (v := 7) X dX1_freeze_14 (by decide) ?_
    refine z_irem X dX1_freeze_16 (by first | decide | exact mx1_ne _) ?_
    refine z_if_ne X 24 dX1_freeze_17 (by decide) (fun zc8 => ?_) (fun zc8 => ?_)
    · refine z_iconst (v := 0) X dX1_freeze_24 (by decide) ?_
      refine z_istore (ls' := [(5, .int 0), (0, .ref a), (1, .ref i), (2, .int (nI c)), (3, .int w), (4, .int s)]) X dX1_freeze_25 (by decide) rfl ?_
      refine z_aload_n X 1 dX1_freeze_27 rfl ?_
      refine z_aload_n X 2 dX1_freeze_28 rfl ?_
      refine z_iload_n X 3 dX1_freeze_29 rfl ?_
      refine z_iload_n X 4 dX1_freeze_30 rfl ?_
      refine z_iload X 5 dX1_freeze_31 rfl ?_
      refine z_callSU X (k_freeze_1_6 (κ := κ) (n := n) (i := (i)) (len := (len)) (m := (m)) (now := (now)) (dd := (dd)) (dr := (dr)) (cc := (cc)) (on := (on)) (cold := (cold)) (wind := (wind)) (a := (a)) (kd := (kd)) (nb := (nb)) (em := (em)) (c := (c)) (w := (w)) (s := (s)) K0 K1 K2 (by first | assumption | omega) (by first | assumption | omega)) mk_X10_freeze dX1_freeze_33 wd_473 wd_1372 wd_401 wd_474 (by decide) K0 rfl rfl rfl (Nat.le_of_ble_eq_true rfl) (Nat.le_of_ble_eq_true rfl) (Nat.le_of_ble_eq_true rfl) (by omega) (by omega) (fun q zh9 zm11 zp12 => ?_)
      obtain ⟨rfl, ze10, zn13⟩ := zp12
      subst zm11
      subst zh9
      refine z_st (st' := [.int (frK 1 em cold wind now m len c w s)]) rfl ?_
      refine z_iload X 0 dX1_freeze_36 rfl ?_
      refine z_if_eq X 48 dX1_freeze_38 (by decide) (fun zc14 => ?_) (fun zc14 => ?_)
      · try replace zc14 := (nI_eq (a := 0) (b := 0) (by omega) (by omega)).mp zc14
        refine z_iconst (v := 0) X dX1_freeze_48 (by decide) ?_
        refine z_iadd X dX1_freeze_49 ?_
        refine z_iret X E dX1_freeze_50 (by omega) (by omega) ⟨?_, ?_, ?_⟩
        · first | rfl | (simp only [frK]; (repeat first | rw [if_pos (by first | assumption | omega | exact ⟨by assumption, by assumption⟩ | exact ⟨by omega, by assumption⟩ | exact Int32.not_le.mp (by assumption) | exact ⟨by assumption, Int32.not_le.mp (by assumption)⟩)] | rw [if_neg (by first | assumption | omega | exact fun q => absurd q.1 (by assumption) | exact fun q => absurd q.2 (by assumption) | exact fun q => absurd q.1 (by omega) | exact Int32.not_lt.mpr (by assumption) | exact fun q => absurd q.2 (Int32.not_lt.mpr (by assumption)))]); first | done | rfl)
        · first | rfl | (funext zz; simp only [va_up]; (repeat' split) <;> first | rfl | (exfalso; omega) | simp_all)
        · rfl
      · first | exact absurd zc14 (by decide) | exact absurd (by decide) zc14
    · refine z_iconst (v := 1) X dX1_freeze_20 (by decide) ?_
      refine z_goto X 25 dX1_freeze_21 (by decide) ?_
      refine z_istore (ls' := [(5, .int 1), (0, .ref a), (1, .ref i), (2, .int (nI c)), (3, .int w), (4, .int s)]) X dX1_freeze_25 (by decide) rfl ?_
      refine z_aload_n X 1 dX1_freeze_27 rfl ?_
      refine z_aload_n X 2 dX1_freeze_28 rfl ?_
      refine z_iload_n X 3 dX1_freeze_29 rfl ?_
      refine z_iload_n X 4 dX1_freeze_30 rfl ?_
      refine z_iload X 5 dX1_freeze_31 rfl ?_
      refine z_callSU X (k_freeze_1_6 (κ := κ) (n := n) (i := (i)) (len := (len)) (m := (m)) (now := (now)) (dd := (dd)) (dr := (dr)) (cc := (cc)) (on := (on)) (cold := (cold)) (wind := (wind)) (a := (a)) (kd := (kd)) (nb := (nb)) (em := (em)) (c := (c)) (w := (w)) (s := (s)) K0 K1 K2 (by first | assumption | omega) (by first | assumption | omega)) mk_X10_freeze dX1_freeze_33 wd_473 wd_1372 wd_401 wd_474 (by decide) K0 rfl rfl rfl (Nat.le_of_ble_eq_true rfl) (Nat.le_of_ble_eq_true rfl) (Nat.le_of_ble_eq_true rfl) (by omega) (by omega) (fun q zh15 zm17 zp18 => ?_)
      obtain ⟨rfl, ze16, zn19⟩ := zp18
      subst zm17
      subst zh15
      refine z_st (st' := [.int (frK 1 em cold wind now m len c w s)]) rfl ?_
      refine z_iload X 0 dX1_freeze_36 rfl ?_
      refine z_if_eq X 48 dX1_freeze_38 (by decide) (fun zc20 => ?_) (fun zc20 => ?_)
      · first | exact absurd zc20 (by decide) | exact absurd (by decide) zc20
      · try replace zc20 := mt (nI_eq (a := 1) (b := 0) (by omega) (by omega)).mpr zc20
        refine z_aload_n X 1 dX1_freeze_41 rfl ?_
        refine z_get X fl_X1_20_1 dX1_freeze_42 K0 rfl ?_
        refine z_goto X 49 dX1_freeze_45 (by decide) ?_
        refine z_iadd X dX1_freeze_49 ?_
        refine z_iret X E dX1_freeze_50 (by omega) (by omega) ⟨?_, ?_, ?_⟩
        · first | rfl | (simp only [frK]; (repeat first | rw [if_pos (by first | assumption | omega | exact ⟨by assumption, by assumption⟩ | exact ⟨by omega, by assumption⟩ | exact Int32.not_le.mp (by assumption) | exact ⟨by assumption, Int32.not_le.mp (by assumption)⟩)] | rw [if_neg (by first | assumption | omega | exact fun q => absurd q.1 (by assumption) | exact fun q => absurd q.2 (by assumption) | exact fun q => absurd q.1 (by omega) | exact Int32.not_lt.mpr (by assumption) | exact fun q => absurd q.2 (Int32.not_lt.mpr (by assumption)))]); first | done | rfl)
        · first | rfl | (funext zz; simp only [va_up]; (repeat' split) <;> first | rfl | (exfalso; omega) | simp_all)
        · rfl
set_option maxHeartbeats 4000000 in
set_option maxRecDepth 100000 in
theorem k_runs_0_0 {κ : Wc} {l : Launch} {h : Mm} {n : Nat} {a : Nat} {kd : Int32} {nb : Int32} {em : Int32} {x : Int32} {r : Nat} {tn : Nat} {bt : Int32} {tr : Nat → Int32} (K0 : h a = some (.inr (0, [.int kd, .int nb, .int em]))) (K1 : h r = some (.inr (6, [.ref (r + 1), .int (nI tn), .int bt]))) (K2 : h (r + 1) = arI κ 40 tr) (p2 : r + 1 < a ∨ a < r) (p1 : tn + (bRuns 0).length ≤ 40) : Con κ l yX0_runs cX0_runs 3 (some .int) 5 0 0 [.ref a, .int x, .ref r] h n (fun q h' n' => q = some (.int (vRuns 0 nb x)) ∧ h' = va_up (va_up h r (some (.inr (6, [.ref (r + 1), .int (nI (tn + (bRuns 0).length)), .int bt])))) (r + 1) (arI κ 40 (wrs tr tn (bRuns 0))) ∧ n' = n) := by
  refine Con.of mk_X0_runs (Nat.le_of_ble_eq_true rfl) (fun G hG X E => ?_)
  subst hG
  refine z_ls (ls' := [(0, .ref a), (1, .int x), (2, .ref r)]) rfl ?_
  refine z_aload_n X 2 dX0_runs_0 rfl ?_
  refine z_bipush (v := 10) X dX0_runs_1 (by decide) ?_
  refine z_callV X (c_Row_add (κ := κ) (n := n) (r := (r)) (k := (tn)) (bt := (bt)) (v := (10)) (N := (40)) (f := (tr)) K1 K2 (by (simp only [bRuns, bMoves, bChills, bTells, List.length_cons, List.length_append, List.length_nil] at *; omega)) (by omega)) mk_X6_add dX0_runs_3 wd_791 wd_501 wd_502 rfl K1 rfl rfl rfl (Nat.le_of_ble_eq_true rfl) (Nat.le_of_ble_eq_true rfl) (Nat.le_of_ble_eq_true rfl) (by omega) (by omega) (fun q zh1 zm3 zp4 => ?_)
  obtain ⟨rfl, ze2, zn5⟩ := zp4
  subst zm3
  refine z_st (st' := []) rfl ?_
  have zK6 : zh1 a = some (.inr (0, [.int kd, .int nb, .int em])) := by rw [ze2]; rw [va_up_ne _ _ (show a ≠ r + 1 by omega)]; rw [va_up_ne _ _ (show a ≠ r by omega)]; exact K0
  have zK7 : zh1 r = some (.inr (6, [.ref (r + 1), .int (nI (tn + 1)), .int bt])) := by rw [ze2]; rw [va_up_ne _ _ (show r ≠ r + 1 by omega)]; exact va_up_self _ _ _
  have zK8 : zh1 (r + 1) = arI κ 40 (upd tr tn 10) := by rw [ze2]; exact va_up_self _ _ _
  refine z_iload_n X 1 dX0_runs_6 rfl ?_
  refine z_aload_n X 0 dX0_runs_7 rfl ?_
  refine z_get X fl_X0_13_0 dX0_runs_8 zK6 rfl ?_
  refine z_iadd X dX0_runs_11 ?_
  refine z_iret X E dX0_runs_12 (by omega) (by omega) ⟨?_, ?_, ?_⟩
  · rfl
  · rw [show wrs tr tn (bRuns 0) = upd tr tn 10 from rfl, show tn + (bRuns 0).length = tn + 1 from rfl]; funext zz; by_cases zq1 : zz = r + 1; (rw [zq1, va_up_self]; exact zK8); by_cases zq0 : zz = r; (rw [zq0, va_up_ne _ _ (show r ≠ r + 1 by omega), va_up_self]; exact zK7); rw [va_up_ne _ _ zq1, va_up_ne _ _ zq0]; rw [ze2]; simp only [va_up, if_neg zq0, if_neg zq1]
  · rfl
set_option maxHeartbeats 4000000 in
set_option maxRecDepth 100000 in
theorem k_runs_0_1 {κ : Wc} {l : Launch} {h : Mm} {n : Nat} {a : Nat} {kd : Int32} {nb : Int32} {em : Int32} {x : Int32} {r : Nat} {tn : Nat} {bt : Int32} {tr : Nat → Int32} (K0 : h a = some (.inr (10, [.int kd, .int nb, .int em]))) (K1 : h r = some (.inr (6, [.ref (r + 1), .int (nI tn), .int bt]))) (K2 : h (r + 1) = arI κ 40 tr) (p2 : r + 1 < a ∨ a < r) (p1 : tn + (bRuns 0).length ≤ 40) : Con κ l yX0_runs cX0_runs 3 (some .int) 5 0 0 [.ref a, .int x, .ref r] h n (fun q h' n' => q = some (.int (vRuns 0 nb x)) ∧ h' = va_up (va_up h r (some (.inr (6, [.ref (r + 1), .int (nI (tn + (bRuns 0).length)), .int bt])))) (r + 1) (arI κ 40 (wrs tr tn (bRuns 0))) ∧ n' = n) := by
  refine Con.of mk_X0_runs (Nat.le_of_ble_eq_true rfl) (fun G hG X E => ?_)
  subst hG
  refine z_ls (ls' := [(0, .ref a), (1, .int x), (2, .ref r)]) rfl ?_
  refine z_aload_n X 2 dX0_runs_0 rfl ?_
  refine z_bipush (v := 10) X dX0_runs_1 (by decide) ?_
  refine z_callV X (c_Row_add (κ := κ) (n := n) (r := (r)) (k := (tn)) (bt := (bt)) (v := (10)) (N := (40)) (f := (tr)) K1 K2 (by (simp only [bRuns, bMoves, bChills, bTells, List.length_cons, List.length_append, List.length_nil] at *; omega)) (by omega)) mk_X6_add dX0_runs_3 wd_791 wd_501 wd_502 rfl K1 rfl rfl rfl (Nat.le_of_ble_eq_true rfl) (Nat.le_of_ble_eq_true rfl) (Nat.le_of_ble_eq_true rfl) (by omega) (by omega) (fun q zh1 zm3 zp4 => ?_)
  obtain ⟨rfl, ze2, zn5⟩ := zp4
  subst zm3
  refine z_st (st' := []) rfl ?_
  have zK6 : zh1 a = some (.inr (10, [.int kd, .int nb, .int em])) := by rw [ze2]; rw [va_up_ne _ _ (show a ≠ r + 1 by omega)]; rw [va_up_ne _ _ (show a ≠ r by omega)]; exact K0
  have zK7 : zh1 r = some (.inr (6, [.ref (r + 1), .int (nI (tn + 1)), .int bt])) := by rw [ze2]; rw [va_up_ne _ _ (show r ≠ r + 1 by omega)]; exact va_up_self _ _ _
  have zK8 : zh1 (r + 1) = arI κ 40 (upd tr tn 10) := by rw [ze2]; exact va_up_self _ _ _
  refine z_iload_n X 1 dX0_runs_6 rfl ?_
  refine z_aload_n X 0 dX0_runs_7 rfl ?_
  refine z_get X fl_X0_13_10 dX0_runs_8 zK6 rfl ?_
  refine z_iadd X dX0_runs_11 ?_
  refine z_iret X E dX0_runs_12 (by omega) (by omega) ⟨?_, ?_, ?_⟩
  · rfl
  · rw [show wrs tr tn (bRuns 0) = upd tr tn 10 from rfl, show tn + (bRuns 0).length = tn + 1 from rfl]; funext zz; by_cases zq1 : zz = r + 1; (rw [zq1, va_up_self]; exact zK8); by_cases zq0 : zz = r; (rw [zq0, va_up_ne _ _ (show r ≠ r + 1 by omega), va_up_self]; exact zK7); rw [va_up_ne _ _ zq1, va_up_ne _ _ zq0]; rw [ze2]; simp only [va_up, if_neg zq0, if_neg zq1]
  · rfl
set_option maxHeartbeats 4000000 in
set_option maxRecDepth 100000 in
theorem k_runs_0_2 {κ : Wc} {l : Launch} {h : Mm} {n : Nat} {a : Nat} {kd : Int32} {nb : Int32} {em : Int32} {x : Int32} {r : Nat} {tn : Nat} {bt : Int32} {tr : Nat → Int32} (K0 : h a = some (.inr (8, [.int kd, .int nb, .int em]))) (K1 : h r = some (.inr (6, [.ref (r + 1), .int (nI tn), .int bt]))) (K2 : h (r + 1) = arI κ 40 tr) (p2 : r + 1 < a ∨ a < r) (p1 : tn + (bRuns 0).length ≤ 40) : Con κ l yX0_runs cX0_runs 3 (some .int) 5 0 0 [.ref a, .int x, .ref r] h n (fun q h' n' => q = some (.int (vRuns 0 nb x)) ∧ h' = va_up (va_up h r (some (.inr (6, [.ref (r + 1), .int (nI (tn + (bRuns 0).length)), .int bt])))) (r + 1) (arI κ 40 (wrs tr tn (bRuns 0))) ∧ n' = n) := by
  refine Con.of mk_X0_runs (Nat.le_of_ble_eq_true rfl) (fun G hG X E => ?_)
  subst hG
  refine z_ls (ls' := [(0, .ref a), (1, .int x), (2, .ref r)]) rfl ?_
  refine z_aload_n X 2 dX0_runs_0 rfl ?_
  refine z_bipush (v := 10) X dX0_runs_1 (by decide) ?_
  refine z_callV X (c_Row_add (κ := κ) (n := n) (r := (r)) (k := (tn)) (bt := (bt)) (v := (10)) (N := (40)) (f := (tr)) K1 K2 (by (simp only [bRuns, bMoves, bChills, bTells, List.length_cons, List.length_append, List.length_nil] at *; omega)) (by omega)) mk_X6_add dX0_runs_3 wd_791 wd_501 wd_502 rfl K1 rfl rfl rfl (Nat.le_of_ble_eq_true rfl) (Nat.le_of_ble_eq_true rfl) (Nat.le_of_ble_eq_true rfl) (by omega) (by omega) (fun q zh1 zm3 zp4 => ?_)
  obtain ⟨rfl, ze2, zn5⟩ := zp4
  subst zm3
  refine z_st (st' := []) rfl ?_
  have zK6 : zh1 a = some (.inr (8, [.int kd, .int nb, .int em])) := by rw [ze2]; rw [va_up_ne _ _ (show a ≠ r + 1 by omega)]; rw [va_up_ne _ _ (show a ≠ r by omega)]; exact K0
  have zK7 : zh1 r = some (.inr (6, [.ref (r + 1), .int (nI (tn + 1)), .int bt])) := by rw [ze2]; rw [va_up_ne _ _ (show r ≠ r + 1 by omega)]; exact va_up_self _ _ _
  have zK8 : zh1 (r + 1) = arI κ 40 (upd tr tn 10) := by rw [ze2]; exact va_up_self _ _ _
  refine z_iload_n X 1 dX0_runs_6 rfl ?_
  refine z_aload_n X 0 dX0_runs_7 rfl ?_
  refine z_get X fl_X0_13_8 dX0_runs_8 zK6 rfl ?_
  refine z_iadd X dX0_runs_11 ?_
  refine z_iret X E dX0_runs_12 (by omega) (by omega) ⟨?_, ?_, ?_⟩
  · rfl
  · rw [show wrs tr tn (bRuns 0) = upd tr tn 10 from rfl, show tn + (bRuns 0).length = tn + 1 from rfl]; funext zz; by_cases zq1 : zz = r + 1; (rw [zq1, va_up_self]; exact zK8); by_cases zq0 : zz = r; (rw [zq0, va_up_ne _ _ (show r ≠ r + 1 by omega), va_up_self]; exact zK7); rw [va_up_ne _ _ zq1, va_up_ne _ _ zq0]; rw [ze2]; simp only [va_up, if_neg zq0, if_neg zq1]
  · rfl
set_option maxHeartbeats 4000000 in
set_option maxRecDepth 100000 in
theorem k_runs_2_2 {κ : Wc} {l : Launch} {h : Mm} {n : Nat} {a : Nat} {kd : Int32} {nb : Int32} {em : Int32} {x : Int32} {r : Nat} {tn : Nat} {bt : Int32} {tr : Nat → Int32} (K0 : h a = some (.inr (8, [.int kd, .int nb, .int em]))) (K1 : h r = some (.inr (6, [.ref (r + 1), .int (nI tn), .int bt]))) (K2 : h (r + 1) = arI κ 40 tr) (p2 : r + 1 < a ∨ a < r) (p1 : tn + (bRuns 2).length ≤ 40) : Con κ l yX8_runs cX8_runs 3 (some .int) 6 0 0 [.ref a, .int x, .ref r] h n (fun q h' n' => q = some (.int (vRuns 2 nb x)) ∧ h' = va_up (va_up h r (some (.inr (6, [.ref (r + 1), .int (nI (tn + (bRuns 2).length)), .int bt])))) (r + 1) (arI κ 40 (wrs tr tn (bRuns 2))) ∧ n' = n) := by
  refine Con.of mk_X8_runs (Nat.le_of_ble_eq_true rfl) (fun G hG X E => ?_)
  subst hG
  refine z_ls (ls' := [(0, .ref a), (1, .int x), (2, .ref r)]) rfl ?_
  refine z_aload_n X 2 dX8_runs_0 rfl ?_
  refine z_bipush (v := 30) X dX8_runs_1 (by decide) ?_
  refine z_callV X (c_Row_add (κ := κ) (n := n) (r := (r)) (k := (tn)) (bt := (bt)) (v := (30)) (N := (40)) (f := (tr)) K1 K2 (by (simp only [bRuns, bMoves, bChills, bTells, List.length_cons, List.length_append, List.length_nil] at *; omega)) (by omega)) mk_X6_add dX8_runs_3 wd_785 wd_501 wd_502 rfl K1 rfl rfl rfl (Nat.le_of_ble_eq_true rfl) (Nat.le_of_ble_eq_true rfl) (Nat.le_of_ble_eq_true rfl) (by omega) (by omega) (fun q zh1 zm3 zp4 => ?_)
  obtain ⟨rfl, ze2, zn5⟩ := zp4
  subst zm3
  refine z_st (st' := []) rfl ?_
  have zK6 : zh1 a = some (.inr (8, [.int kd, .int nb, .int em])) := by rw [ze2]; rw [va_up_ne _ _ (show a ≠ r + 1 by omega)]; rw [va_up_ne _ _ (show a ≠ r by omega)]; exact K0
  have zK7 : zh1 r = some (.inr (6, [.ref (r + 1), .int (nI (tn + 1)), .int bt])) := by rw [ze2]; rw [va_up_ne _ _ (show r ≠ r + 1 by omega)]; exact va_up_self _ _ _
  have zK8 : zh1 (r + 1) = arI κ 40 (upd tr tn 30) := by rw [ze2]; exact va_up_self _ _ _
  refine z_aload_n X 0 dX8_runs_6 rfl ?_
  refine z_iload_n X 1 dX8_runs_7 rfl ?_
  refine z_aload_n X 2 dX8_runs_8 rfl ?_
  refine z_callSU X (k_runs_0_2 (κ := κ) (n := n) (a := (a)) (kd := (kd)) (nb := (nb)) (em := (em)) (x := (x)) (r := (r)) (tn := (tn + 1)) (bt := (bt)) (tr := (upd tr tn 30)) zK6 zK7 zK8 (by first | assumption | omega) (by (simp only [bRuns, bMoves, bChills, bTells, List.length_cons, List.length_append, List.length_nil] at *; omega))) mk_X0_runs dX8_runs_9 wd_786 wd_775 wd_361 wd_773 (by decide) zK6 rfl rfl rfl (Nat.le_of_ble_eq_true rfl) (Nat.le_of_ble_eq_true rfl) (Nat.le_of_ble_eq_true rfl) (by omega) (by omega) (fun q zh9 zm11 zp12 => ?_)
  obtain ⟨rfl, ze10, zn13⟩ := zp12
  subst zm11
  refine z_st (st' := [.int (vRuns 0 nb x)]) rfl ?_
  have zK14 : zh9 a = some (.inr (8, [.int kd, .int nb, .int em])) := by rw [ze10]; rw [va_up_ne _ _ (show a ≠ r + 1 by omega)]; rw [va_up_ne _ _ (show a ≠ r by omega)]; exact zK6
  have zK15 : zh9 r = some (.inr (6, [.ref (r + 1), .int (nI ((tn + 1) + (bRuns 0).length)), .int bt])) := by rw [ze10]; rw [va_up_ne _ _ (show r ≠ r + 1 by omega)]; exact va_up_self _ _ _
  have zK16 : zh9 (r + 1) = arI κ 40 (wrs (upd tr tn 30) (tn + 1) (bRuns 0)) := by rw [ze10]; exact va_up_self _ _ _
  refine z_iconst (v := 3) X dX8_runs_12 (by decide) ?_
  refine z_imul X dX8_runs_13 ?_
  refine z_iret X E dX8_runs_14 (by omega) (by omega) ⟨?_, ?_, ?_⟩
  · rfl
  · rw [show wrs tr tn (bRuns 2) = wrs (upd tr tn 30) (tn + 1) (bRuns 0) from rfl, show tn + (bRuns 2).length = (tn + 1) + (bRuns 0).length from rfl]; funext zz; by_cases zq1 : zz = r + 1; (rw [zq1, va_up_self]; exact zK16); by_cases zq0 : zz = r; (rw [zq0, va_up_ne _ _ (show r ≠ r + 1 by omega), va_up_self]; exact zK15); rw [va_up_ne _ _ zq1, va_up_ne _ _ zq0]; rw [ze10, ze2]; simp only [va_up, if_neg zq0, if_neg zq1]
  · rfl
set_option maxHeartbeats 4000000 in
set_option maxRecDepth 100000 in
theorem k_runs_0_3 {κ : Wc} {l : Launch} {h : Mm} {n : Nat} {a : Nat} {kd : Int32} {nb : Int32} {em : Int32} {x : Int32} {r : Nat} {tn : Nat} {bt : Int32} {tr : Nat → Int32} (K0 : h a = some (.inr (5, [.int kd, .int nb, .int em]))) (K1 : h r = some (.inr (6, [.ref (r + 1), .int (nI tn), .int bt]))) (K2 : h (r + 1) = arI κ 40 tr) (p2 : r + 1 < a ∨ a < r) (p1 : tn + (bRuns 0).length ≤ 40) : Con κ l yX0_runs cX0_runs 3 (some .int) 5 0 0 [.ref a, .int x, .ref r] h n (fun q h' n' => q = some (.int (vRuns 0 nb x)) ∧ h' = va_up (va_up h r (some (.inr (6, [.ref (r + 1), .int (nI (tn + (bRuns 0).length)), .int bt])))) (r + 1) (arI κ 40 (wrs tr tn (bRuns 0))) ∧ n' = n) := by
  refine Con.of mk_X0_runs (Nat.le_of_ble_eq_true rfl) (fun G hG X E => ?_)
  subst hG
  refine z_ls (ls' := [(0, .ref a), (1, .int x), (2, .ref r)]) rfl ?_
  refine z_aload_n X 2 dX0_runs_0 rfl ?_
  refine z_bipush (v := 10) X dX0_runs_1 (by decide) ?_
  refine z_callV X (c_Row_add (κ := κ) (n := n) (r := (r)) (k := (tn)) (bt := (bt)) (v := (10)) (N := (40)) (f := (tr)) K1 K2 (by (simp only [bRuns, bMoves, bChills, bTells, List.length_cons, List.length_append, List.length_nil] at *; omega)) (by omega)) mk_X6_add dX0_runs_3 wd_791 wd_501 wd_502 rfl K1 rfl rfl rfl (Nat.le_of_ble_eq_true rfl) (Nat.le_of_ble_eq_true rfl) (Nat.le_of_ble_eq_true rfl) (by omega) (by omega) (fun q zh1 zm3 zp4 => ?_)
  obtain ⟨rfl, ze2, zn5⟩ := zp4
  subst zm3
  refine z_st (st' := []) rfl ?_
  have zK6 : zh1 a = some (.inr (5, [.int kd, .int nb, .int em])) := by rw [ze2]; rw [va_up_ne _ _ (show a ≠ r + 1 by omega)]; rw [va_up_ne _ _ (show a ≠ r by omega)]; exact K0
  have zK7 : zh1 r = some (.inr (6, [.ref (r + 1), .int (nI (tn + 1)), .int bt])) := by rw [ze2]; rw [va_up_ne _ _ (show r ≠ r + 1 by omega)]; exact va_up_self _ _ _
  have zK8 : zh1 (r + 1) = arI κ 40 (upd tr tn 10) := by rw [ze2]; exact va_up_self _ _ _
  refine z_iload_n X 1 dX0_runs_6 rfl ?_
  refine z_aload_n X 0 dX0_runs_7 rfl ?_
  refine z_get X fl_X0_13_5 dX0_runs_8 zK6 rfl ?_
  refine z_iadd X dX0_runs_11 ?_
  refine z_iret X E dX0_runs_12 (by omega) (by omega) ⟨?_, ?_, ?_⟩
  · rfl
  · rw [show wrs tr tn (bRuns 0) = upd tr tn 10 from rfl, show tn + (bRuns 0).length = tn + 1 from rfl]; funext zz; by_cases zq1 : zz = r + 1; (rw [zq1, va_up_self]; exact zK8); by_cases zq0 : zz = r; (rw [zq0, va_up_ne _ _ (show r ≠ r + 1 by omega), va_up_self]; exact zK7); rw [va_up_ne _ _ zq1, va_up_ne _ _ zq0]; rw [ze2]; simp only [va_up, if_neg zq0, if_neg zq1]
  · rfl
set_option maxHeartbeats 4000000 in
set_option maxRecDepth 100000 in
theorem k_runs_2_3 {κ : Wc} {l : Launch} {h : Mm} {n : Nat} {a : Nat} {kd : Int32} {nb : Int32} {em : Int32} {x : Int32} {r : Nat} {tn : Nat} {bt : Int32} {tr : Nat → Int32} (K0 : h a = some (.inr (5, [.int kd, .int nb, .int em]))) (K1 : h r = some (.inr (6, [.ref (r + 1), .int (nI tn), .int bt]))) (K2 : h (r + 1) = arI κ 40 tr) (p2 : r + 1 < a ∨ a < r) (p1 : tn + (bRuns 2).length ≤ 40) : Con κ l yX8_runs cX8_runs 3 (some .int) 6 0 0 [.ref a, .int x, .ref r] h n (fun q h' n' => q = some (.int (vRuns 2 nb x)) ∧ h' = va_up (va_up h r (some (.inr (6, [.ref (r + 1), .int (nI (tn + (bRuns 2).length)), .int bt])))) (r + 1) (arI κ 40 (wrs tr tn (bRuns 2))) ∧ n' = n) := by
  refine Con.of mk_X8_runs (Nat.le_of_ble_eq_true rfl) (fun G hG X E => ?_)
  subst hG
  refine z_ls (ls' := [(0, .ref a), (1, .int x), (2, .ref r)]) rfl ?_
  refine z_aload_n X 2 dX8_runs_0 rfl ?_
  refine z_bipush (v := 30) X dX8_runs_1 (by decide) ?_
  refine z_callV X (c_Row_add (κ := κ) (n := n) (r := (r)) (k := (tn)) (bt := (bt)) (v := (30)) (N := (40)) (f := (tr)) K1 K2 (by (simp only [bRuns, bMoves, bChills, bTells, List.length_cons, List.length_append, List.length_nil] at *; omega)) (by omega)) mk_X6_add dX8_runs_3 wd_785 wd_501 wd_502 rfl K1 rfl rfl rfl (Nat.le_of_ble_eq_true rfl) (Nat.le_of_ble_eq_true rfl) (Nat.le_of_ble_eq_true rfl) (by omega) (by omega) (fun q zh1 zm3 zp4 => ?_)
  obtain ⟨rfl, ze2, zn5⟩ := zp4
  subst zm3
  refine z_st (st' := []) rfl ?_
  have zK6 : zh1 a = some (.inr (5, [.int kd, .int nb, .int em])) := by rw [ze2]; rw [va_up_ne _ _ (show a ≠ r + 1 by omega)]; rw [va_up_ne _ _ (show a ≠ r by omega)]; exact K0
  have zK7 : zh1 r = some (.inr (6, [.ref (r + 1), .int (nI (tn + 1)), .int bt])) := by rw [ze2]; rw [va_up_ne _ _ (show r ≠ r + 1 by omega)]; exact va_up_self _ _ _
  have zK8 : zh1 (r + 1) = arI κ 40 (upd tr tn 30) := by rw [ze2]; exact va_up_self _ _ _
  refine z_aload_n X 0 dX8_runs_6 rfl ?_
  refine z_iload_n X 1 dX8_runs_7 rfl ?_
  refine z_aload_n X 2 dX8_runs_8 rfl ?_
  refine z_callSU X (k_runs_0_3 (κ := κ) (n := n) (a := (a)) (kd := (kd)) (nb := (nb)) (em := (em)) (x := (x)) (r := (r)) (tn := (tn + 1)) (bt := (bt)) (tr := (upd tr tn 30)) zK6 zK7 zK8 (by first | assumption | omega) (by (simp only [bRuns, bMoves, bChills, bTells, List.length_cons, List.length_append, List.length_nil] at *; omega))) mk_X0_runs dX8_runs_9 wd_786 wd_775 wd_361 wd_773 (by decide) zK6 rfl rfl rfl (Nat.le_of_ble_eq_true rfl) (Nat.le_of_ble_eq_true rfl) (Nat.le_of_ble_eq_true rfl) (by omega) (by omega) (fun q zh9 zm11 zp12 => ?_)
  obtain ⟨rfl, ze10, zn13⟩ := zp12
  subst zm11
  refine z_st (st' := [.int (vRuns 0 nb x)]) rfl ?_
  have zK14 : zh9 a = some (.inr (5, [.int kd, .int nb, .int em])) := by rw [ze10]; rw [va_up_ne _ _ (show a ≠ r + 1 by omega)]; rw [va_up_ne _ _ (show a ≠ r by omega)]; exact zK6
  have zK15 : zh9 r = some (.inr (6, [.ref (r + 1), .int (nI ((tn + 1) + (bRuns 0).length)), .int bt])) := by rw [ze10]; rw [va_up_ne _ _ (show r ≠ r + 1 by omega)]; exact va_up_self _ _ _
  have zK16 : zh9 (r + 1) = arI κ 40 (wrs (upd tr tn 30) (tn + 1) (bRuns 0)) := by rw [ze10]; exact va_up_self _ _ _
  refine z_iconst (v := 3) X dX8_runs_12 (by decide) ?_
  refine z_imul X dX8_runs_13 ?_
  refine z_iret X E dX8_runs_14 (by omega) (by omega) ⟨?_, ?_, ?_⟩
  · rfl
  · rw [show wrs tr tn (bRuns 2) = wrs (upd tr tn 30) (tn + 1) (bRuns 0) from rfl, show tn + (bRuns 2).length = (tn + 1) + (bRuns 0).length from rfl]; funext zz; by_cases zq1 : zz = r + 1; (rw [zq1, va_up_self]; exact zK16); by_cases zq0 : zz = r; (rw [zq0, va_up_ne _ _ (show r ≠ r + 1 by omega), va_up_self]; exact zK15); rw [va_up_ne _ _ zq1, va_up_ne _ _ zq0]; rw [ze10, ze2]; simp only [va_up, if_neg zq0, if_neg zq1]
  · rfl
set_option maxHeartbeats 4000000 in
set_option maxRecDepth 100000 in
theorem k_runs_3_3 {κ : Wc} {l : Launch} {h : Mm} {n : Nat} {a : Nat} {kd : Int32} {nb : Int32} {em : Int32} {x : Int32} {r : Nat} {tn : Nat} {bt : Int32} {tr : Nat → Int32} (K0 : h a = some (.inr (5, [.int kd, .int nb, .int em]))) (K1 : h r = some (.inr (6, [.ref (r + 1), .int (nI tn), .int bt]))) (K2 : h (r + 1) = arI κ 40 tr) (p2 : r + 1 < a ∨ a < r) (p1 : tn + (bRuns 3).length ≤ 40) : Con κ l yX5_runs cX5_runs 3 (some .int) 7 0 0 [.ref a, .int x, .ref r] h n (fun q h' n' => q = some (.int (vRuns 3 nb x)) ∧ h' = va_up (va_up h r (some (.inr (6, [.ref (r + 1), .int (nI (tn + (bRuns 3).length)), .int bt])))) (r + 1) (arI κ 40 (wrs tr tn (bRuns 3))) ∧ n' = n) := by
  refine Con.of mk_X5_runs (Nat.le_of_ble_eq_true rfl) (fun G hG X E => ?_)
  subst hG
  refine z_ls (ls' := [(0, .ref a), (1, .int x), (2, .ref r)]) rfl ?_
  refine z_aload_n X 2 dX5_runs_0 rfl ?_
  refine z_bipush (v := 41) X dX5_runs_1 (by decide) ?_
  refine z_callV X (c_Row_add (κ := κ) (n := n) (r := (r)) (k := (tn)) (bt := (bt)) (v := (41)) (N := (40)) (f := (tr)) K1 K2 (by (simp only [bRuns, bMoves, bChills, bTells, List.length_cons, List.length_append, List.length_nil] at *; omega)) (by omega)) mk_X6_add dX5_runs_3 wd_781 wd_501 wd_502 rfl K1 rfl rfl rfl (Nat.le_of_ble_eq_true rfl) (Nat.le_of_ble_eq_true rfl) (Nat.le_of_ble_eq_true rfl) (by omega) (by omega) (fun q zh1 zm3 zp4 => ?_)
  obtain ⟨rfl, ze2, zn5⟩ := zp4
  subst zm3
  refine z_st (st' := []) rfl ?_
  have zK6 : zh1 a = some (.inr (5, [.int kd, .int nb, .int em])) := by rw [ze2]; rw [va_up_ne _ _ (show a ≠ r + 1 by omega)]; rw [va_up_ne _ _ (show a ≠ r by omega)]; exact K0
  have zK7 : zh1 r = some (.inr (6, [.ref (r + 1), .int (nI (tn + 1)), .int bt])) := by rw [ze2]; rw [va_up_ne _ _ (show r ≠ r + 1 by omega)]; exact va_up_self _ _ _
  have zK8 : zh1 (r + 1) = arI κ 40 (upd tr tn 41) := by rw [ze2]; exact va_up_self _ _ _
  refine z_aload_n X 0 dX5_runs_6 rfl ?_
  refine z_iload_n X 1 dX5_runs_7 rfl ?_
  refine z_iconst (v := 1) X dX5_runs_8 (by decide) ?_
  refine z_iadd X dX5_runs_9 ?_
  refine z_aload_n X 2 dX5_runs_10 rfl ?_
  refine z_callSU X (k_runs_2_3 (κ := κ) (n := n) (a := (a)) (kd := (kd)) (nb := (nb)) (em := (em)) (x := (x + 1)) (r := (r)) (tn := (tn + 1)) (bt := (bt)) (tr := (upd tr tn 41)) zK6 zK7 zK8 (by first | assumption | omega) (by (simp only [bRuns, bMoves, bChills, bTells, List.length_cons, List.length_append, List.length_nil] at *; omega))) mk_X8_runs dX5_runs_11 wd_782 wd_1375 wd_371 wd_783 (by decide) zK6 rfl rfl rfl (Nat.le_of_ble_eq_true rfl) (Nat.le_of_ble_eq_true rfl) (Nat.le_of_ble_eq_true rfl) (by omega) (by omega) (fun q zh9 zm11 zp12 => ?_)
  obtain ⟨rfl, ze10, zn13⟩ := zp12
  subst zm11
  refine z_st (st' := [.int (vRuns 2 nb (x + 1))]) rfl ?_
  have zK14 : zh9 a = some (.inr (5, [.int kd, .int nb, .int em])) := by rw [ze10]; rw [va_up_ne _ _ (show a ≠ r + 1 by omega)]; rw [va_up_ne _ _ (show a ≠ r by omega)]; exact zK6
  have zK15 : zh9 r = some (.inr (6, [.ref (r + 1), .int (nI ((tn + 1) + (bRuns 2).length)), .int bt])) := by rw [ze10]; rw [va_up_ne _ _ (show r ≠ r + 1 by omega)]; exact va_up_self _ _ _
  have zK16 : zh9 (r + 1) = arI κ 40 (wrs (upd tr tn 41) (tn + 1) (bRuns 2)) := by rw [ze10]; exact va_up_self _ _ _
  refine z_iret X E dX5_runs_14 (by omega) (by omega) ⟨?_, ?_, ?_⟩
  · rfl
  · rw [show wrs tr tn (bRuns 3) = wrs (upd tr tn 41) (tn + 1) (bRuns 2) from rfl, show tn + (bRuns 3).length = (tn + 1) + (bRuns 2).length from rfl]; funext zz; by_cases zq1 : zz = r + 1; (rw [zq1, va_up_self]; exact zK16); by_cases zq0 : zz = r; (rw [zq0, va_up_ne _ _ (show r ≠ r + 1 by omega), va_up_self]; exact zK15); rw [va_up_ne _ _ zq1, va_up_ne _ _ zq0]; rw [ze10, ze2]; simp only [va_up, if_neg zq0, if_neg zq1]
  · rfl
set_option maxHeartbeats 4000000 in
set_option maxRecDepth 100000 in
theorem k_runs_0_4 {κ : Wc} {l : Launch} {h : Mm} {n : Nat} {a : Nat} {kd : Int32} {nb : Int32} {em : Int32} {x : Int32} {r : Nat} {tn : Nat} {bt : Int32} {tr : Nat → Int32} (K0 : h a = some (.inr (7, [.int kd, .int nb, .int em]))) (K1 : h r = some (.inr (6, [.ref (r + 1), .int (nI tn), .int bt]))) (K2 : h (r + 1) = arI κ 40 tr) (p2 : r + 1 < a ∨ a < r) (p1 : tn + (bRuns 0).length ≤ 40) : Con κ l yX0_runs cX0_runs 3 (some .int) 5 0 0 [.ref a, .int x, .ref r] h n (fun q h' n' => q = some (.int (vRuns 0 nb x)) ∧ h' = va_up (va_up h r (some (.inr (6, [.ref (r + 1), .int (nI (tn + (bRuns 0).length)), .int bt])))) (r + 1) (arI κ 40 (wrs tr tn (bRuns 0))) ∧ n' = n) := by
  refine Con.of mk_X0_runs (Nat.le_of_ble_eq_true rfl) (fun G hG X E => ?_)
  subst hG
  refine z_ls (ls' := [(0, .ref a), (1, .int x), (2, .ref r)]) rfl ?_
  refine z_aload_n X 2 dX0_runs_0 rfl ?_
  refine z_bipush (v := 10) X dX0_runs_1 (by decide) ?_
  refine z_callV X (c_Row_add (κ := κ) (n := n) (r := (r)) (k := (tn)) (bt := (bt)) (v := (10)) (N := (40)) (f := (tr)) K1 K2 (by (simp only [bRuns, bMoves, bChills, bTells, List.length_cons, List.length_append, List.length_nil] at *; omega)) (by omega)) mk_X6_add dX0_runs_3 wd_791 wd_501 wd_502 rfl K1 rfl rfl rfl (Nat.le_of_ble_eq_true rfl) (Nat.le_of_ble_eq_true rfl) (Nat.le_of_ble_eq_true rfl) (by omega) (by omega) (fun q zh1 zm3 zp4 => ?_)
  obtain ⟨rfl, ze2, zn5⟩ := zp4
  subst zm3
  refine z_st (st' := []) rfl ?_
  have zK6 : zh1 a = some (.inr (7, [.int kd, .int nb, .int em])) := by rw [ze2]; rw [va_up_ne _ _ (show a ≠ r + 1 by omega)]; rw [va_up_ne _ _ (show a ≠ r by omega)]; exact K0
  have zK7 : zh1 r = some (.inr (6, [.ref (r + 1), .int (nI (tn + 1)), .int bt])) := by rw [ze2]; rw [va_up_ne _ _ (show r ≠ r + 1 by omega)]; exact va_up_self _ _ _
  have zK8 : zh1 (r + 1) = arI κ 40 (upd tr tn 10) := by rw [ze2]; exact va_up_self _ _ _
  refine z_iload_n X 1 dX0_runs_6 rfl ?_
  refine z_aload_n X 0 dX0_runs_7 rfl ?_
  refine z_get X fl_X0_13_7 dX0_runs_8 zK6 rfl ?_
  refine z_iadd X dX0_runs_11 ?_
  refine z_iret X E dX0_runs_12 (by omega) (by omega) ⟨?_, ?_, ?_⟩
  · rfl
  · rw [show wrs tr tn (bRuns 0) = upd tr tn 10 from rfl, show tn + (bRuns 0).length = tn + 1 from rfl]; funext zz; by_cases zq1 : zz = r + 1; (rw [zq1, va_up_self]; exact zK8); by_cases zq0 : zz = r; (rw [zq0, va_up_ne _ _ (show r ≠ r + 1 by omega), va_up_self]; exact zK7); rw [va_up_ne _ _ zq1, va_up_ne _ _ zq0]; rw [ze2]; simp only [va_up, if_neg zq0, if_neg zq1]
  · rfl
set_option maxHeartbeats 4000000 in
set_option maxRecDepth 100000 in
theorem k_runs_2_4 {κ : Wc} {l : Launch} {h : Mm} {n : Nat} {a : Nat} {kd : Int32} {nb : Int32} {em : Int32} {x : Int32} {r : Nat} {tn : Nat} {bt : Int32} {tr : Nat → Int32} (K0 : h a = some (.inr (7, [.int kd, .int nb, .int em]))) (K1 : h r = some (.inr (6, [.ref (r + 1), .int (nI tn), .int bt]))) (K2 : h (r + 1) = arI κ 40 tr) (p2 : r + 1 < a ∨ a < r) (p1 : tn + (bRuns 2).length ≤ 40) : Con κ l yX8_runs cX8_runs 3 (some .int) 6 0 0 [.ref a, .int x, .ref r] h n (fun q h' n' => q = some (.int (vRuns 2 nb x)) ∧ h' = va_up (va_up h r (some (.inr (6, [.ref (r + 1), .int (nI (tn + (bRuns 2).length)), .int bt])))) (r + 1) (arI κ 40 (wrs tr tn (bRuns 2))) ∧ n' = n) := by
  refine Con.of mk_X8_runs (Nat.le_of_ble_eq_true rfl) (fun G hG X E => ?_)
  subst hG
  refine z_ls (ls' := [(0, .ref a), (1, .int x), (2, .ref r)]) rfl ?_
  refine z_aload_n X 2 dX8_runs_0 rfl ?_
  refine z_bipush (v := 30) X dX8_runs_1 (by decide) ?_
  refine z_callV X (c_Row_add (κ := κ) (n := n) (r := (r)) (k := (tn)) (bt := (bt)) (v := (30)) (N := (40)) (f := (tr)) K1 K2 (by (simp only [bRuns, bMoves, bChills, bTells, List.length_cons, List.length_append, List.length_nil] at *; omega)) (by omega)) mk_X6_add dX8_runs_3 wd_785 wd_501 wd_502 rfl K1 rfl rfl rfl (Nat.le_of_ble_eq_true rfl) (Nat.le_of_ble_eq_true rfl) (Nat.le_of_ble_eq_true rfl) (by omega) (by omega) (fun q zh1 zm3 zp4 => ?_)
  obtain ⟨rfl, ze2, zn5⟩ := zp4
  subst zm3
  refine z_st (st' := []) rfl ?_
  have zK6 : zh1 a = some (.inr (7, [.int kd, .int nb, .int em])) := by rw [ze2]; rw [va_up_ne _ _ (show a ≠ r + 1 by omega)]; rw [va_up_ne _ _ (show a ≠ r by omega)]; exact K0
  have zK7 : zh1 r = some (.inr (6, [.ref (r + 1), .int (nI (tn + 1)), .int bt])) := by rw [ze2]; rw [va_up_ne _ _ (show r ≠ r + 1 by omega)]; exact va_up_self _ _ _
  have zK8 : zh1 (r + 1) = arI κ 40 (upd tr tn 30) := by rw [ze2]; exact va_up_self _ _ _
  refine z_aload_n X 0 dX8_runs_6 rfl ?_
  refine z_iload_n X 1 dX8_runs_7 rfl ?_
  refine z_aload_n X 2 dX8_runs_8 rfl ?_
  refine z_callSU X (k_runs_0_4 (κ := κ) (n := n) (a := (a)) (kd := (kd)) (nb := (nb)) (em := (em)) (x := (x)) (r := (r)) (tn := (tn + 1)) (bt := (bt)) (tr := (upd tr tn 30)) zK6 zK7 zK8 (by first | assumption | omega) (by (simp only [bRuns, bMoves, bChills, bTells, List.length_cons, List.length_append, List.length_nil] at *; omega))) mk_X0_runs dX8_runs_9 wd_786 wd_775 wd_361 wd_773 (by decide) zK6 rfl rfl rfl (Nat.le_of_ble_eq_true rfl) (Nat.le_of_ble_eq_true rfl) (Nat.le_of_ble_eq_true rfl) (by omega) (by omega) (fun q zh9 zm11 zp12 => ?_)
  obtain ⟨rfl, ze10, zn13⟩ := zp12
  subst zm11
  refine z_st (st' := [.int (vRuns 0 nb x)]) rfl ?_
  have zK14 : zh9 a = some (.inr (7, [.int kd, .int nb, .int em])) := by rw [ze10]; rw [va_up_ne _ _ (show a ≠ r + 1 by omega)]; rw [va_up_ne _ _ (show a ≠ r by omega)]; exact zK6
  have zK15 : zh9 r = some (.inr (6, [.ref (r + 1), .int (nI ((tn + 1) + (bRuns 0).length)), .int bt])) := by rw [ze10]; rw [va_up_ne _ _ (show r ≠ r + 1 by omega)]; exact va_up_self _ _ _
  have zK16 : zh9 (r + 1) = arI κ 40 (wrs (upd tr tn 30) (tn + 1) (bRuns 0)) := by rw [ze10]; exact va_up_self _ _ _
  refine z_iconst (v := 3) X dX8_runs_12 (by decide) ?_
  refine z_imul X dX8_runs_13 ?_
  refine z_iret X E dX8_runs_14 (by omega) (by omega) ⟨?_, ?_, ?_⟩
  · rfl
  · rw [show wrs tr tn (bRuns 2) = wrs (upd tr tn 30) (tn + 1) (bRuns 0) from rfl, show tn + (bRuns 2).length = (tn + 1) + (bRuns 0).length from rfl]; funext zz; by_cases zq1 : zz = r + 1; (rw [zq1, va_up_self]; exact zK16); by_cases zq0 : zz = r; (rw [zq0, va_up_ne _ _ (show r ≠ r + 1 by omega), va_up_self]; exact zK15); rw [va_up_ne _ _ zq1, va_up_ne _ _ zq0]; rw [ze10, ze2]; simp only [va_up, if_neg zq0, if_neg zq1]
  · rfl
set_option maxHeartbeats 4000000 in
set_option maxRecDepth 100000 in
theorem k_runs_3_4 {κ : Wc} {l : Launch} {h : Mm} {n : Nat} {a : Nat} {kd : Int32} {nb : Int32} {em : Int32} {x : Int32} {r : Nat} {tn : Nat} {bt : Int32} {tr : Nat → Int32} (K0 : h a = some (.inr (7, [.int kd, .int nb, .int em]))) (K1 : h r = some (.inr (6, [.ref (r + 1), .int (nI tn), .int bt]))) (K2 : h (r + 1) = arI κ 40 tr) (p2 : r + 1 < a ∨ a < r) (p1 : tn + (bRuns 3).length ≤ 40) : Con κ l yX5_runs cX5_runs 3 (some .int) 7 0 0 [.ref a, .int x, .ref r] h n (fun q h' n' => q = some (.int (vRuns 3 nb x)) ∧ h' = va_up (va_up h r (some (.inr (6, [.ref (r + 1), .int (nI (tn + (bRuns 3).length)), .int bt])))) (r + 1) (arI κ 40 (wrs tr tn (bRuns 3))) ∧ n' = n) := by
  refine Con.of mk_X5_runs (Nat.le_of_ble_eq_true rfl) (fun G hG X E => ?_)
  subst hG
  refine z_ls (ls' := [(0, .ref a), (1, .int x), (2, .ref r)]) rfl ?_
  refine z_aload_n X 2 dX5_runs_0 rfl ?_
  refine z_bipush (v := 41) X dX5_runs_1 (by decide) ?_
  refine z_callV X (c_Row_add (κ := κ) (n := n) (r := (r)) (k := (tn)) (bt := (bt)) (v := (41)) (N := (40)) (f := (tr)) K1 K2 (by (simp only [bRuns, bMoves, bChills, bTells, List.length_cons, List.length_append, List.length_nil] at *; omega)) (by omega)) mk_X6_add dX5_runs_3 wd_781 wd_501 wd_502 rfl K1 rfl rfl rfl (Nat.le_of_ble_eq_true rfl) (Nat.le_of_ble_eq_true rfl) (Nat.le_of_ble_eq_true rfl) (by omega) (by omega) (fun q zh1 zm3 zp4 => ?_)
  obtain ⟨rfl, ze2, zn5⟩ := zp4
  subst zm3
  refine z_st (st' := []) rfl ?_
  have zK6 : zh1 a = some (.inr (7, [.int kd, .int nb, .int em])) := by rw [ze2]; rw [va_up_ne _ _ (show a ≠ r + 1 by omega)]; rw [va_up_ne _ _ (show a ≠ r by omega)]; exact K0
  have zK7 : zh1 r = some (.inr (6, [.ref (r + 1), .int (nI (tn + 1)), .int bt])) := by rw [ze2]; rw [va_up_ne _ _ (show r ≠ r + 1 by omega)]; exact va_up_self _ _ _
  have zK8 : zh1 (r + 1) = arI κ 40 (upd tr tn 41) := by rw [ze2]; exact va_up_self _ _ _
  refine z_aload_n X 0 dX5_runs_6 rfl ?_
  refine z_iload_n X 1 dX5_runs_7 rfl ?_
  refine z_iconst (v := 1) X dX5_runs_8 (by decide) ?_
  refine z_iadd X dX5_runs_9 ?_
  refine z_aload_n X 2 dX5_runs_10 rfl ?_
  refine z_callSU X (k_runs_2_4 (κ := κ) (n := n) (a := (a)) (kd := (kd)) (nb := (nb)) (em := (em)) (x := (x + 1)) (r := (r)) (tn := (tn + 1)) (bt := (bt)) (tr := (upd tr tn 41)) zK6 zK7 zK8 (by first | assumption | omega) (by (simp only [bRuns, bMoves, bChills, bTells, List.length_cons, List.length_append, List.length_nil] at *; omega))) mk_X8_runs dX5_runs_11 wd_782 wd_1375 wd_371 wd_783 (by decide) zK6 rfl rfl rfl (Nat.le_of_ble_eq_true rfl) (Nat.le_of_ble_eq_true rfl) (Nat.le_of_ble_eq_true rfl) (by omega) (by omega) (fun q zh9 zm11 zp12 => ?_)
  obtain ⟨rfl, ze10, zn13⟩ := zp12
  subst zm11
  refine z_st (st' := [.int (vRuns 2 nb (x + 1))]) rfl ?_
  have zK14 : zh9 a = some (.inr (7, [.int kd, .int nb, .int em])) := by rw [ze10]; rw [va_up_ne _ _ (show a ≠ r + 1 by omega)]; rw [va_up_ne _ _ (show a ≠ r by omega)]; exact zK6
  have zK15 : zh9 r = some (.inr (6, [.ref (r + 1), .int (nI ((tn + 1) + (bRuns 2).length)), .int bt])) := by rw [ze10]; rw [va_up_ne _ _ (show r ≠ r + 1 by omega)]; exact va_up_self _ _ _
  have zK16 : zh9 (r + 1) = arI κ 40 (wrs (upd tr tn 41) (tn + 1) (bRuns 2)) := by rw [ze10]; exact va_up_self _ _ _
  refine z_iret X E dX5_runs_14 (by omega) (by omega) ⟨?_, ?_, ?_⟩
  · rfl
  · rw [show wrs tr tn (bRuns 3) = wrs (upd tr tn 41) (tn + 1) (bRuns 2) from rfl, show tn + (bRuns 3).length = (tn + 1) + (bRuns 2).length from rfl]; funext zz; by_cases zq1 : zz = r + 1; (rw [zq1, va_up_self]; exact zK16); by_cases zq0 : zz = r; (rw [zq0, va_up_ne _ _ (show r ≠ r + 1 by omega), va_up_self]; exact zK15); rw [va_up_ne _ _ zq1, va_up_ne _ _ zq0]; rw [ze10, ze2]; simp only [va_up, if_neg zq0, if_neg zq1]
  · rfl
set_option maxHeartbeats 4000000 in
set_option maxRecDepth 100000 in
theorem k_runs_0_5 {κ : Wc} {l : Launch} {h : Mm} {n : Nat} {a : Nat} {kd : Int32} {nb : Int32} {em : Int32} {x : Int32} {r : Nat} {tn : Nat} {bt : Int32} {tr : Nat → Int32} (K0 : h a = some (.inr (4, [.int kd, .int nb, .int em]))) (K1 : h r = some (.inr (6, [.ref (r + 1), .int (nI tn), .int bt]))) (K2 : h (r + 1) = arI κ 40 tr) (p2 : r + 1 < a ∨ a < r) (p1 : tn + (bRuns 0).length ≤ 40) : Con κ l yX0_runs cX0_runs 3 (some .int) 5 0 0 [.ref a, .int x, .ref r] h n (fun q h' n' => q = some (.int (vRuns 0 nb x)) ∧ h' = va_up (va_up h r (some (.inr (6, [.ref (r + 1), .int (nI (tn + (bRuns 0).length)), .int bt])))) (r + 1) (arI κ 40 (wrs tr tn (bRuns 0))) ∧ n' = n) := by
  refine Con.of mk_X0_runs (Nat.le_of_ble_eq_true rfl) (fun G hG X E => ?_)
  subst hG
  refine z_ls (ls' := [(0, .ref a), (1, .int x), (2, .ref r)]) rfl ?_
  refine z_aload_n X 2 dX0_runs_0 rfl ?_
  refine z_bipush (v := 10) X dX0_runs_1 (by decide) ?_
  refine z_callV X (c_Row_add (κ := κ) (n := n) (r := (r)) (k := (tn)) (bt := (bt)) (v := (10)) (N := (40)) (f := (tr)) K1 K2 (by (simp only [bRuns, bMoves, bChills, bTells, List.length_cons, List.length_append, List.length_nil] at *; omega)) (by omega)) mk_X6_add dX0_runs_3 wd_791 wd_501 wd_502 rfl K1 rfl rfl rfl (Nat.le_of_ble_eq_true rfl) (Nat.le_of_ble_eq_true rfl) (Nat.le_of_ble_eq_true rfl) (by omega) (by omega) (fun q zh1 zm3 zp4 => ?_)
  obtain ⟨rfl, ze2, zn5⟩ := zp4
  subst zm3
  refine z_st (st' := []) rfl ?_
  have zK6 : zh1 a = some (.inr (4, [.int kd, .int nb, .int em])) := by rw [ze2]; rw [va_up_ne _ _ (show a ≠ r + 1 by omega)]; rw [va_up_ne _ _ (show a ≠ r by omega)]; exact K0
  have zK7 : zh1 r = some (.inr (6, [.ref (r + 1), .int (nI (tn + 1)), .int bt])) := by rw [ze2]; rw [va_up_ne _ _ (show r ≠ r + 1 by omega)]; exact va_up_self _ _ _
  have zK8 : zh1 (r + 1) = arI κ 40 (upd tr tn 10) := by rw [ze2]; exact va_up_self _ _ _
  refine z_iload_n X 1 dX0_runs_6 rfl ?_
  refine z_aload_n X 0 dX0_runs_7 rfl ?_
  refine z_get X fl_X0_13_4 dX0_runs_8 zK6 rfl ?_
  refine z_iadd X dX0_runs_11 ?_
  refine z_iret X E dX0_runs_12 (by omega) (by omega) ⟨?_, ?_, ?_⟩
  · rfl
  · rw [show wrs tr tn (bRuns 0) = upd tr tn 10 from rfl, show tn + (bRuns 0).length = tn + 1 from rfl]; funext zz; by_cases zq1 : zz = r + 1; (rw [zq1, va_up_self]; exact zK8); by_cases zq0 : zz = r; (rw [zq0, va_up_ne _ _ (show r ≠ r + 1 by omega), va_up_self]; exact zK7); rw [va_up_ne _ _ zq1, va_up_ne _ _ zq0]; rw [ze2]; simp only [va_up, if_neg zq0, if_neg zq1]
  · rfl
set_option maxHeartbeats 4000000 in
set_option maxRecDepth 100000 in
theorem k_runs_0_6 {κ : Wc} {l : Launch} {h : Mm} {n : Nat} {a : Nat} {kd : Int32} {nb : Int32} {em : Int32} {x : Int32} {r : Nat} {tn : Nat} {bt : Int32} {tr : Nat → Int32} (K0 : h a = some (.inr (1, [.int kd, .int nb, .int em]))) (K1 : h r = some (.inr (6, [.ref (r + 1), .int (nI tn), .int bt]))) (K2 : h (r + 1) = arI κ 40 tr) (p2 : r + 1 < a ∨ a < r) (p1 : tn + (bRuns 0).length ≤ 40) : Con κ l yX0_runs cX0_runs 3 (some .int) 5 0 0 [.ref a, .int x, .ref r] h n (fun q h' n' => q = some (.int (vRuns 0 nb x)) ∧ h' = va_up (va_up h r (some (.inr (6, [.ref (r + 1), .int (nI (tn + (bRuns 0).length)), .int bt])))) (r + 1) (arI κ 40 (wrs tr tn (bRuns 0))) ∧ n' = n) := by
  refine Con.of mk_X0_runs (Nat.le_of_ble_eq_true rfl) (fun G hG X E => ?_)
  subst hG
  refine z_ls (ls' := [(0, .ref a), (1, .int x), (2, .ref r)]) rfl ?_
  refine z_aload_n X 2 dX0_runs_0 rfl ?_
  refine z_bipush (v := 10) X dX0_runs_1 (by decide) ?_
  refine z_callV X (c_Row_add (κ := κ) (n := n) (r := (r)) (k := (tn)) (bt := (bt)) (v := (10)) (N := (40)) (f := (tr)) K1 K2 (by (simp only [bRuns, bMoves, bChills, bTells, List.length_cons, List.length_append, List.length_nil] at *; omega)) (by omega)) mk_X6_add dX0_runs_3 wd_791 wd_501 wd_502 rfl K1 rfl rfl rfl (Nat.le_of_ble_eq_true rfl) (Nat.le_of_ble_eq_true rfl) (Nat.le_of_ble_eq_true rfl) (by omega) (by omega) (fun q zh1 zm3 zp4 => ?_)
  obtain ⟨rfl, ze2, zn5⟩ := zp4
  subst zm3
  refine z_st (st' := []) rfl ?_
  have zK6 : zh1 a = some (.inr (1, [.int kd, .int nb, .int em])) := by rw [ze2]; rw [va_up_ne _ _ (show a ≠ r + 1 by omega)]; rw [va_up_ne _ _ (show a ≠ r by omega)]; exact K0
  have zK7 : zh1 r = some (.inr (6, [.ref (r + 1), .int (nI (tn + 1)), .int bt])) := by rw [ze2]; rw [va_up_ne _ _ (show r ≠ r + 1 by omega)]; exact va_up_self _ _ _
  have zK8 : zh1 (r + 1) = arI κ 40 (upd tr tn 10) := by rw [ze2]; exact va_up_self _ _ _
  refine z_iload_n X 1 dX0_runs_6 rfl ?_
  refine z_aload_n X 0 dX0_runs_7 rfl ?_
  refine z_get X fl_X0_13_1 dX0_runs_8 zK6 rfl ?_
  refine z_iadd X dX0_runs_11 ?_
  refine z_iret X E dX0_runs_12 (by omega) (by omega) ⟨?_, ?_, ?_⟩
  · rfl
  · rw [show wrs tr tn (bRuns 0) = upd tr tn 10 from rfl, show tn + (bRuns 0).length = tn + 1 from rfl]; funext zz; by_cases zq1 : zz = r + 1; (rw [zq1, va_up_self]; exact zK8); by_cases zq0 : zz = r; (rw [zq0, va_up_ne _ _ (show r ≠ r + 1 by omega), va_up_self]; exact zK7); rw [va_up_ne _ _ zq1, va_up_ne _ _ zq0]; rw [ze2]; simp only [va_up, if_neg zq0, if_neg zq1]
  · rfl
set_option maxHeartbeats 4000000 in
set_option maxRecDepth 100000 in
theorem k_moves_0_0 {κ : Wc} {l : Launch} {h : Mm} {n : Nat} {a : Nat} {kd : Int32} {nb : Int32} {em : Int32} {x : Int32} {r : Nat} {tn : Nat} {bt : Int32} {tr : Nat → Int32} (K0 : h a = some (.inr (0, [.int kd, .int nb, .int em]))) (K1 : h r = some (.inr (6, [.ref (r + 1), .int (nI tn), .int bt]))) (K2 : h (r + 1) = arI κ 40 tr) (p2 : r + 1 < a ∨ a < r) (p1 : tn + (bMoves 0).length ≤ 40) : Con κ l yX0_moves cX0_moves 3 (some .int) 5 0 0 [.ref a, .int x, .ref r] h n (fun q h' n' => q = some (.int (vMoves 0 nb em x)) ∧ h' = va_up (va_up h r (some (.inr (6, [.ref (r + 1), .int (nI (tn + (bMoves 0).length)), .int bt])))) (r + 1) (arI κ 40 (wrs tr tn (bMoves 0))) ∧ n' = n) := by
  refine Con.of mk_X0_moves (Nat.le_of_ble_eq_true rfl) (fun G hG X E => ?_)
  subst hG
  refine z_ls (ls' := [(0, .ref a), (1, .int x), (2, .ref r)]) rfl ?_
  refine z_aload_n X 2 dX0_moves_0 rfl ?_
  refine z_bipush (v := 12) X dX0_moves_1 (by decide) ?_
  refine z_callV X (c_Row_add (κ := κ) (n := n) (r := (r)) (k := (tn)) (bt := (bt)) (v := (12)) (N := (40)) (f := (tr)) K1 K2 (by (simp only [bRuns, bMoves, bChills, bTells, List.length_cons, List.length_append, List.length_nil] at *; omega)) (by omega)) mk_X6_add dX0_moves_3 wd_791 wd_501 wd_502 rfl K1 rfl rfl rfl (Nat.le_of_ble_eq_true rfl) (Nat.le_of_ble_eq_true rfl) (Nat.le_of_ble_eq_true rfl) (by omega) (by omega) (fun q zh1 zm3 zp4 => ?_)
  obtain ⟨rfl, ze2, zn5⟩ := zp4
  subst zm3
  refine z_st (st' := []) rfl ?_
  have zK6 : zh1 a = some (.inr (0, [.int kd, .int nb, .int em])) := by rw [ze2]; rw [va_up_ne _ _ (show a ≠ r + 1 by omega)]; rw [va_up_ne _ _ (show a ≠ r by omega)]; exact K0
  have zK7 : zh1 r = some (.inr (6, [.ref (r + 1), .int (nI (tn + 1)), .int bt])) := by rw [ze2]; rw [va_up_ne _ _ (show r ≠ r + 1 by omega)]; exact va_up_self _ _ _
  have zK8 : zh1 (r + 1) = arI κ 40 (upd tr tn 12) := by rw [ze2]; exact va_up_self _ _ _
  refine z_iload_n X 1 dX0_moves_6 rfl ?_
  refine z_aload_n X 0 dX0_moves_7 rfl ?_
  refine z_get X fl_X0_16_0 dX0_moves_8 zK6 rfl ?_
  refine z_isub X dX0_moves_11 ?_
  refine z_iret X E dX0_moves_12 (by omega) (by omega) ⟨?_, ?_, ?_⟩
  · rfl
  · rw [show wrs tr tn (bMoves 0) = upd tr tn 12 from rfl, show tn + (bMoves 0).length = tn + 1 from rfl]; funext zz; by_cases zq1 : zz = r + 1; (rw [zq1, va_up_self]; exact zK8); by_cases zq0 : zz = r; (rw [zq0, va_up_ne _ _ (show r ≠ r + 1 by omega), va_up_self]; exact zK7); rw [va_up_ne _ _ zq1, va_up_ne _ _ zq0]; rw [ze2]; simp only [va_up, if_neg zq0, if_neg zq1]
  · rfl
set_option maxHeartbeats 4000000 in
set_option maxRecDepth 100000 in
theorem k_moves_0_1 {κ : Wc} {l : Launch} {h : Mm} {n : Nat} {a : Nat} {kd : Int32} {nb : Int32} {em : Int32} {x : Int32} {r : Nat} {tn : Nat} {bt : Int32} {tr : Nat → Int32} (K0 : h a = some (.inr (10, [.int kd, .int nb, .int em]))) (K1 : h r = some (.inr (6, [.ref (r + 1), .int (nI tn), .int bt]))) (K2 : h (r + 1) = arI κ 40 tr) (p2 : r + 1 < a ∨ a < r) (p1 : tn + (bMoves 0).length ≤ 40) : Con κ l yX0_moves cX0_moves 3 (some .int) 5 0 0 [.ref a, .int x, .ref r] h n (fun q h' n' => q = some (.int (vMoves 0 nb em x)) ∧ h' = va_up (va_up h r (some (.inr (6, [.ref (r + 1), .int (nI (tn + (bMoves 0).length)), .int bt])))) (r + 1) (arI κ 40 (wrs tr tn (bMoves 0))) ∧ n' = n) := by
  refine Con.of mk_X0_moves (Nat.le_of_ble_eq_true rfl) (fun G hG X E => ?_)
  subst hG
  refine z_ls (ls' := [(0, .ref a), (1, .int x), (2, .ref r)]) rfl ?_
  refine z_aload_n X 2 dX0_moves_0 rfl ?_
  refine z_bipush (v := 12) X dX0_moves_1 (by decide) ?_
  refine z_callV X (c_Row_add (κ := κ) (n := n) (r := (r)) (k := (tn)) (bt := (bt)) (v := (12)) (N := (40)) (f := (tr)) K1 K2 (by (simp only [bRuns, bMoves, bChills, bTells, List.length_cons, List.length_append, List.length_nil] at *; omega)) (by omega)) mk_X6_add dX0_moves_3 wd_791 wd_501 wd_502 rfl K1 rfl rfl rfl (Nat.le_of_ble_eq_true rfl) (Nat.le_of_ble_eq_true rfl) (Nat.le_of_ble_eq_true rfl) (by omega) (by omega) (fun q zh1 zm3 zp4 => ?_)
  obtain ⟨rfl, ze2, zn5⟩ := zp4
  subst zm3
  refine z_st (st' := []) rfl ?_
  have zK6 : zh1 a = some (.inr (10, [.int kd, .int nb, .int em])) := by rw [ze2]; rw [va_up_ne _ _ (show a ≠ r + 1 by omega)]; rw [va_up_ne _ _ (show a ≠ r by omega)]; exact K0
  have zK7 : zh1 r = some (.inr (6, [.ref (r + 1), .int (nI (tn + 1)), .int bt])) := by rw [ze2]; rw [va_up_ne _ _ (show r ≠ r + 1 by omega)]; exact va_up_self _ _ _
  have zK8 : zh1 (r + 1) = arI κ 40 (upd tr tn 12) := by rw [ze2]; exact va_up_self _ _ _
  refine z_iload_n X 1 dX0_moves_6 rfl ?_
  refine z_aload_n X 0 dX0_moves_7 rfl ?_
  refine z_get X fl_X0_16_10 dX0_moves_8 zK6 rfl ?_
  refine z_isub X dX0_moves_11 ?_
  refine z_iret X E dX0_moves_12 (by omega) (by omega) ⟨?_, ?_, ?_⟩
  · rfl
  · rw [show wrs tr tn (bMoves 0) = upd tr tn 12 from rfl, show tn + (bMoves 0).length = tn + 1 from rfl]; funext zz; by_cases zq1 : zz = r + 1; (rw [zq1, va_up_self]; exact zK8); by_cases zq0 : zz = r; (rw [zq0, va_up_ne _ _ (show r ≠ r + 1 by omega), va_up_self]; exact zK7); rw [va_up_ne _ _ zq1, va_up_ne _ _ zq0]; rw [ze2]; simp only [va_up, if_neg zq0, if_neg zq1]
  · rfl
set_option maxHeartbeats 4000000 in
set_option maxRecDepth 100000 in
theorem k_moves_0_2 {κ : Wc} {l : Launch} {h : Mm} {n : Nat} {a : Nat} {kd : Int32} {nb : Int32} {em : Int32} {x : Int32} {r : Nat} {tn : Nat} {bt : Int32} {tr : Nat → Int32} (K0 : h a = some (.inr (8, [.int kd, .int nb, .int em]))) (K1 : h r = some (.inr (6, [.ref (r + 1), .int (nI tn), .int bt]))) (K2 : h (r + 1) = arI κ 40 tr) (p2 : r + 1 < a ∨ a < r) (p1 : tn + (bMoves 0).length ≤ 40) : Con κ l yX0_moves cX0_moves 3 (some .int) 5 0 0 [.ref a, .int x, .ref r] h n (fun q h' n' => q = some (.int (vMoves 0 nb em x)) ∧ h' = va_up (va_up h r (some (.inr (6, [.ref (r + 1), .int (nI (tn + (bMoves 0).length)), .int bt])))) (r + 1) (arI κ 40 (wrs tr tn (bMoves 0))) ∧ n' = n) := by
  refine Con.of mk_X0_moves (Nat.le_of_ble_eq_true rfl) (fun G hG X E => ?_)
  subst hG
  refine z_ls (ls' := [(0, .ref a), (1, .int x), (2, .ref r)]) rfl ?_
  refine z_aload_n X 2 dX0_moves_0 rfl ?_
  refine z_bipush (v := 12) X dX0_moves_1 (by decide) ?_
  refine z_callV X (c_Row_add (κ := κ) (n := n) (r := (r)) (k := (tn)) (bt := (bt)) (v := (12)) (N := (40)) (f := (tr)) K1 K2 (by (simp only [bRuns, bMoves, bChills, bTells, List.length_cons, List.length_append, List.length_nil] at *; omega)) (by omega)) mk_X6_add dX0_moves_3 wd_791 wd_501 wd_502 rfl K1 rfl rfl rfl (Nat.le_of_ble_eq_true rfl) (Nat.le_of_ble_eq_true rfl) (Nat.le_of_ble_eq_true rfl) (by omega) (by omega) (fun q zh1 zm3 zp4 => ?_)
  obtain ⟨rfl, ze2, zn5⟩ := zp4
  subst zm3
  refine z_st (st' := []) rfl ?_
  have zK6 : zh1 a = some (.inr (8, [.int kd, .int nb, .int em])) := by rw [ze2]; rw [va_up_ne _ _ (show a ≠ r + 1 by omega)]; rw [va_up_ne _ _ (show a ≠ r by omega)]; exact K0
  have zK7 : zh1 r = some (.inr (6, [.ref (r + 1), .int (nI (tn + 1)), .int bt])) := by rw [ze2]; rw [va_up_ne _ _ (show r ≠ r + 1 by omega)]; exact va_up_self _ _ _
  have zK8 : zh1 (r + 1) = arI κ 40 (upd tr tn 12) := by rw [ze2]; exact va_up_self _ _ _
  refine z_iload_n X 1 dX0_moves_6 rfl ?_
  refine z_aload_n X 0 dX0_moves_7 rfl ?_
  refine z_get X fl_X0_16_8 dX0_moves_8 zK6 rfl ?_
  refine z_isub X dX0_moves_11 ?_
  refine z_iret X E dX0_moves_12 (by omega) (by omega) ⟨?_, ?_, ?_⟩
  · rfl
  · rw [show wrs tr tn (bMoves 0) = upd tr tn 12 from rfl, show tn + (bMoves 0).length = tn + 1 from rfl]; funext zz; by_cases zq1 : zz = r + 1; (rw [zq1, va_up_self]; exact zK8); by_cases zq0 : zz = r; (rw [zq0, va_up_ne _ _ (show r ≠ r + 1 by omega), va_up_self]; exact zK7); rw [va_up_ne _ _ zq1, va_up_ne _ _ zq0]; rw [ze2]; simp only [va_up, if_neg zq0, if_neg zq1]
  · rfl
set_option maxHeartbeats 4000000 in
set_option maxRecDepth 100000 in
theorem k_moves_0_3 {κ : Wc} {l : Launch} {h : Mm} {n : Nat} {a : Nat} {kd : Int32} {nb : Int32} {em : Int32} {x : Int32} {r : Nat} {tn : Nat} {bt : Int32} {tr : Nat → Int32} (K0 : h a = some (.inr (5, [.int kd, .int nb, .int em]))) (K1 : h r = some (.inr (6, [.ref (r + 1), .int (nI tn), .int bt]))) (K2 : h (r + 1) = arI κ 40 tr) (p2 : r + 1 < a ∨ a < r) (p1 : tn + (bMoves 0).length ≤ 40) : Con κ l yX0_moves cX0_moves 3 (some .int) 5 0 0 [.ref a, .int x, .ref r] h n (fun q h' n' => q = some (.int (vMoves 0 nb em x)) ∧ h' = va_up (va_up h r (some (.inr (6, [.ref (r + 1), .int (nI (tn + (bMoves 0).length)), .int bt])))) (r + 1) (arI κ 40 (wrs tr tn (bMoves 0))) ∧ n' = n) := by
  refine Con.of mk_X0_moves (Nat.le_of_ble_eq_true rfl) (fun G hG X E => ?_)
  subst hG
  refine z_ls (ls' := [(0, .ref a), (1, .int x), (2, .ref r)]) rfl ?_
  refine z_aload_n X 2 dX0_moves_0 rfl ?_
  refine z_bipush (v := 12) X dX0_moves_1 (by decide) ?_
  refine z_callV X (c_Row_add (κ := κ) (n := n) (r := (r)) (k := (tn)) (bt := (bt)) (v := (12)) (N := (40)) (f := (tr)) K1 K2 (by (simp only [bRuns, bMoves, bChills, bTells, List.length_cons, List.length_append, List.length_nil] at *; omega)) (by omega)) mk_X6_add dX0_moves_3 wd_791 wd_501 wd_502 rfl K1 rfl rfl rfl (Nat.le_of_ble_eq_true rfl) (Nat.le_of_ble_eq_true rfl) (Nat.le_of_ble_eq_true rfl) (by omega) (by omega) (fun q zh1 zm3 zp4 => ?_)
  obtain ⟨rfl, ze2, zn5⟩ := zp4
  subst zm3
  refine z_st (st' := []) rfl ?_
  have zK6 : zh1 a = some (.inr (5, [.int kd, .int nb, .int em])) := by rw [ze2]; rw [va_up_ne _ _ (show a ≠ r + 1 by omega)]; rw [va_up_ne _ _ (show a ≠ r by omega)]; exact K0
  have zK7 : zh1 r = some (.inr (6, [.ref (r + 1), .int (nI (tn + 1)), .int bt])) := by rw [ze2]; rw [va_up_ne _ _ (show r ≠ r + 1 by omega)]; exact va_up_self _ _ _
  have zK8 : zh1 (r + 1) = arI κ 40 (upd tr tn 12) := by rw [ze2]; exact va_up_self _ _ _
  refine z_iload_n X 1 dX0_moves_6 rfl ?_
  refine z_aload_n X 0 dX0_moves_7 rfl ?_
  refine z_get X fl_X0_16_5 dX0_moves_8 zK6 rfl ?_
  refine z_isub X dX0_moves_11 ?_
  refine z_iret X E dX0_moves_12 (by omega) (by omega) ⟨?_, ?_, ?_⟩
  · rfl
  · rw [show wrs tr tn (bMoves 0) = upd tr tn 12 from rfl, show tn + (bMoves 0).length = tn + 1 from rfl]; funext zz; by_cases zq1 : zz = r + 1; (rw [zq1, va_up_self]; exact zK8); by_cases zq0 : zz = r; (rw [zq0, va_up_ne _ _ (show r ≠ r + 1 by omega), va_up_self]; exact zK7); rw [va_up_ne _ _ zq1, va_up_ne _ _ zq0]; rw [ze2]; simp only [va_up, if_neg zq0, if_neg zq1]
  · rfl
set_option maxHeartbeats 4000000 in
set_option maxRecDepth 100000 in
theorem k_moves_3_3 {κ : Wc} {l : Launch} {h : Mm} {n : Nat} {a : Nat} {kd : Int32} {nb : Int32} {em : Int32} {x : Int32} {r : Nat} {tn : Nat} {bt : Int32} {tr : Nat → Int32} (K0 : h a = some (.inr (5, [.int kd, .int nb, .int em]))) (K1 : h r = some (.inr (6, [.ref (r + 1), .int (nI tn), .int bt]))) (K2 : h (r + 1) = arI κ 40 tr) (p2 : r + 1 < a ∨ a < r) (p1 : tn + (bMoves 3).length ≤ 40) : Con κ l yX5_moves cX5_moves 3 (some .int) 7 0 0 [.ref a, .int x, .ref r] h n (fun q h' n' => q = some (.int (vMoves 3 nb em x)) ∧ h' = va_up (va_up h r (some (.inr (6, [.ref (r + 1), .int (nI (tn + (bMoves 3).length)), .int bt])))) (r + 1) (arI κ 40 (wrs tr tn (bMoves 3))) ∧ n' = n) := by
  refine Con.of mk_X5_moves (Nat.le_of_ble_eq_true rfl) (fun G hG X E => ?_)
  subst hG
  refine z_ls (ls' := [(0, .ref a), (1, .int x), (2, .ref r)]) rfl ?_
  refine z_aload_n X 2 dX5_moves_0 rfl ?_
  refine z_bipush (v := 40) X dX5_moves_1 (by decide) ?_
  refine z_callV X (c_Row_add (κ := κ) (n := n) (r := (r)) (k := (tn)) (bt := (bt)) (v := (40)) (N := (40)) (f := (tr)) K1 K2 (by (simp only [bRuns, bMoves, bChills, bTells, List.length_cons, List.length_append, List.length_nil] at *; omega)) (by omega)) mk_X6_add dX5_moves_3 wd_781 wd_501 wd_502 rfl K1 rfl rfl rfl (Nat.le_of_ble_eq_true rfl) (Nat.le_of_ble_eq_true rfl) (Nat.le_of_ble_eq_true rfl) (by omega) (by omega) (fun q zh1 zm3 zp4 => ?_)
  obtain ⟨rfl, ze2, zn5⟩ := zp4
  subst zm3
  refine z_st (st' := []) rfl ?_
  have zK6 : zh1 a = some (.inr (5, [.int kd, .int nb, .int em])) := by rw [ze2]; rw [va_up_ne _ _ (show a ≠ r + 1 by omega)]; rw [va_up_ne _ _ (show a ≠ r by omega)]; exact K0
  have zK7 : zh1 r = some (.inr (6, [.ref (r + 1), .int (nI (tn + 1)), .int bt])) := by rw [ze2]; rw [va_up_ne _ _ (show r ≠ r + 1 by omega)]; exact va_up_self _ _ _
  have zK8 : zh1 (r + 1) = arI κ 40 (upd tr tn 40) := by rw [ze2]; exact va_up_self _ _ _
  refine z_aload_n X 0 dX5_moves_6 rfl ?_
  refine z_iload_n X 1 dX5_moves_7 rfl ?_
  refine z_aload_n X 2 dX5_moves_8 rfl ?_
  refine z_callSX (mid := "") X (k_moves_0_3 (κ := κ) (n := n) (a := (a)) (kd := (kd)) (nb := (nb)) (em := (em)) (x := (x)) (r := (r)) (tn := (tn + 1)) (bt := (bt)) (tr := (upd tr tn 40)) zK6 zK7 zK8 (by first | assumption | omega) (by (simp only [bRuns, bMoves, bChills, bTells, List.length_cons, List.length_append, List.length_nil] at *; omega))) mk_X0_moves dX5_moves_9 wd_826 rfl wd_827 wd_371 (Or.inl wd_361) wd_810 (by decide) zK6 rfl rfl rfl (Nat.le_of_ble_eq_true rfl) (Nat.le_of_ble_eq_true rfl) (Nat.le_of_ble_eq_true rfl) (by omega) (by omega) (fun q zh9 zm11 zp12 => ?_)
  obtain ⟨rfl, ze10, zn13⟩ := zp12
  subst zm11
  refine z_st (st' := [.int (vMoves 0 nb em x)]) rfl ?_
  have zK14 : zh9 a = some (.inr (5, [.int kd, .int nb, .int em])) := by rw [ze10]; rw [va_up_ne _ _ (show a ≠ r + 1 by omega)]; rw [va_up_ne _ _ (show a ≠ r by omega)]; exact zK6
  have zK15 : zh9 r = some (.inr (6, [.ref (r + 1), .int (nI ((tn + 1) + (bMoves 0).length)), .int bt])) := by rw [ze10]; rw [va_up_ne _ _ (show r ≠ r + 1 by omega)]; exact va_up_self _ _ _
  have zK16 : zh9 (r + 1) = arI κ 40 (wrs (upd tr tn 40) (tn + 1) (bMoves 0)) := by rw [ze10]; exact va_up_self _ _ _
  refine z_ineg X dX5_moves_12 ?_
  refine z_iret X E dX5_moves_13 (by omega) (by omega) ⟨?_, ?_, ?_⟩
  · rfl
  · rw [show wrs tr tn (bMoves 3) = wrs (upd tr tn 40) (tn + 1) (bMoves 0) from rfl, show tn + (bMoves 3).length = (tn + 1) + (bMoves 0).length from rfl]; funext zz; by_cases zq1 : zz = r + 1; (rw [zq1, va_up_self]; exact zK16); by_cases zq0 : zz = r; (rw [zq0, va_up_ne _ _ (show r ≠ r + 1 by omega), va_up_self]; exact zK15); rw [va_up_ne _ _ zq1, va_up_ne _ _ zq0]; rw [ze10, ze2]; simp only [va_up, if_neg zq0, if_neg zq1]
  · rfl
set_option maxHeartbeats 4000000 in
set_option maxRecDepth 100000 in
theorem k_moves_0_4 {κ : Wc} {l : Launch} {h : Mm} {n : Nat} {a : Nat} {kd : Int32} {nb : Int32} {em : Int32} {x : Int32} {r : Nat} {tn : Nat} {bt : Int32} {tr : Nat → Int32} (K0 : h a = some (.inr (7, [.int kd, .int nb, .int em]))) (K1 : h r = some (.inr (6, [.ref (r + 1), .int (nI tn), .int bt]))) (K2 : h (r + 1) = arI κ 40 tr) (p2 : r + 1 < a ∨ a < r) (p1 : tn + (bMoves 0).length ≤ 40) : Con κ l yX0_moves cX0_moves 3 (some .int) 5 0 0 [.ref a, .int x, .ref r] h n (fun q h' n' => q = some (.int (vMoves 0 nb em x)) ∧ h' = va_up (va_up h r (some (.inr (6, [.ref (r + 1), .int (nI (tn + (bMoves 0).length)), .int bt])))) (r + 1) (arI κ 40 (wrs tr tn (bMoves 0))) ∧ n' = n) := by
  refine Con.of mk_X0_moves (Nat.le_of_ble_eq_true rfl) (fun G hG X E => ?_)
  subst hG
  refine z_ls (ls' := [(0, .ref a), (1, .int x), (2, .ref r)]) rfl ?_
  refine z_aload_n X 2 dX0_moves_0 rfl ?_
  refine z_bipush (v := 12) X dX0_moves_1 (by decide) ?_
  refine z_callV X (c_Row_add (κ := κ) (n := n) (r := (r)) (k := (tn)) (bt := (bt)) (v := (12)) (N := (40)) (f := (tr)) K1 K2 (by (simp only [bRuns, bMoves, bChills, bTells, List.length_cons, List.length_append, List.length_nil] at *; omega)) (by omega)) mk_X6_add dX0_moves_3 wd_791 wd_501 wd_502 rfl K1 rfl rfl rfl (Nat.le_of_ble_eq_true rfl) (Nat.le_of_ble_eq_true rfl) (Nat.le_of_ble_eq_true rfl) (by omega) (by omega) (fun q zh1 zm3 zp4 => ?_)
  obtain ⟨rfl, ze2, zn5⟩ := zp4
  subst zm3
  refine z_st (st' := []) rfl ?_
  have zK6 : zh1 a = some (.inr (7, [.int kd, .int nb, .int em])) := by rw [ze2]; rw [va_up_ne _ _ (show a ≠ r + 1 by omega)]; rw [va_up_ne _ _ (show a ≠ r by omega)]; exact K0
  have zK7 : zh1 r = some (.inr (6, [.ref (r + 1), .int (nI (tn + 1)), .int bt])) := by rw [ze2]; rw [va_up_ne _ _ (show r ≠ r + 1 by omega)]; exact va_up_self _ _ _
  have zK8 : zh1 (r + 1) = arI κ 40 (upd tr tn 12) := by rw [ze2]; exact va_up_self _ _ _
  refine z_iload_n X 1 dX0_moves_6 rfl ?_
  refine z_aload_n X 0 dX0_moves_7 rfl ?_
  refine z_get X fl_X0_16_7 dX0_moves_8 zK6 rfl ?_
  refine z_isub X dX0_moves_11 ?_
  refine z_iret X E dX0_moves_12 (by omega) (by omega) ⟨?_, ?_, ?_⟩
  · rfl
  · rw [show wrs tr tn (bMoves 0) = upd tr tn 12 from rfl, show tn + (bMoves 0).length = tn + 1 from rfl]; funext zz; by_cases zq1 : zz = r + 1; (rw [zq1, va_up_self]; exact zK8); by_cases zq0 : zz = r; (rw [zq0, va_up_ne _ _ (show r ≠ r + 1 by omega), va_up_self]; exact zK7); rw [va_up_ne _ _ zq1, va_up_ne _ _ zq0]; rw [ze2]; simp only [va_up, if_neg zq0, if_neg zq1]
  · rfl
set_option maxHeartbeats 4000000 in
set_option maxRecDepth 100000 in
theorem k_moves_3_4 {κ : Wc} {l : Launch} {h : Mm} {n : Nat} {a : Nat} {kd : Int32} {nb : Int32} {em : Int32} {x : Int32} {r : Nat} {tn : Nat} {bt : Int32} {tr : Nat → Int32} (K0 : h a = some (.inr (7, [.int kd, .int nb, .int em]))) (K1 : h r = some (.inr (6, [.ref (r + 1), .int (nI tn), .int bt]))) (K2 : h (r + 1) = arI κ 40 tr) (p2 : r + 1 < a ∨ a < r) (p1 : tn + (bMoves 3).length ≤ 40) : Con κ l yX5_moves cX5_moves 3 (some .int) 7 0 0 [.ref a, .int x, .ref r] h n (fun q h' n' => q = some (.int (vMoves 3 nb em x)) ∧ h' = va_up (va_up h r (some (.inr (6, [.ref (r + 1), .int (nI (tn + (bMoves 3).length)), .int bt])))) (r + 1) (arI κ 40 (wrs tr tn (bMoves 3))) ∧ n' = n) := by
  refine Con.of mk_X5_moves (Nat.le_of_ble_eq_true rfl) (fun G hG X E => ?_)
  subst hG
  refine z_ls (ls' := [(0, .ref a), (1, .int x), (2, .ref r)]) rfl ?_
  refine z_aload_n X 2 dX5_moves_0 rfl ?_
  refine z_bipush (v := 40) X dX5_moves_1 (by decide) ?_
  refine z_callV X (c_Row_add (κ := κ) (n := n) (r := (r)) (k := (tn)) (bt := (bt)) (v := (40)) (N := (40)) (f := (tr)) K1 K2 (by (simp only [bRuns, bMoves, bChills, bTells, List.length_cons, List.length_append, List.length_nil] at *; omega)) (by omega)) mk_X6_add dX5_moves_3 wd_781 wd_501 wd_502 rfl K1 rfl rfl rfl (Nat.le_of_ble_eq_true rfl) (Nat.le_of_ble_eq_true rfl) (Nat.le_of_ble_eq_true rfl) (by omega) (by omega) (fun q zh1 zm3 zp4 => ?_)
  obtain ⟨rfl, ze2, zn5⟩ := zp4
  subst zm3
  refine z_st (st' := []) rfl ?_
  have zK6 : zh1 a = some (.inr (7, [.int kd, .int nb, .int em])) := by rw [ze2]; rw [va_up_ne _ _ (show a ≠ r + 1 by omega)]; rw [va_up_ne _ _ (show a ≠ r by omega)]; exact K0
  have zK7 : zh1 r = some (.inr (6, [.ref (r + 1), .int (nI (tn + 1)), .int bt])) := by rw [ze2]; rw [va_up_ne _ _ (show r ≠ r + 1 by omega)]; exact va_up_self _ _ _
  have zK8 : zh1 (r + 1) = arI κ 40 (upd tr tn 40) := by rw [ze2]; exact va_up_self _ _ _
  refine z_aload_n X 0 dX5_moves_6 rfl ?_
  refine z_iload_n X 1 dX5_moves_7 rfl ?_
  refine z_aload_n X 2 dX5_moves_8 rfl ?_
  refine z_callSX (mid := "") X (k_moves_0_4 (κ := κ) (n := n) (a := (a)) (kd := (kd)) (nb := (nb)) (em := (em)) (x := (x)) (r := (r)) (tn := (tn + 1)) (bt := (bt)) (tr := (upd tr tn 40)) zK6 zK7 zK8 (by first | assumption | omega) (by (simp only [bRuns, bMoves, bChills, bTells, List.length_cons, List.length_append, List.length_nil] at *; omega))) mk_X0_moves dX5_moves_9 wd_826 rfl wd_827 wd_371 (Or.inl wd_361) wd_810 (by decide) zK6 rfl rfl rfl (Nat.le_of_ble_eq_true rfl) (Nat.le_of_ble_eq_true rfl) (Nat.le_of_ble_eq_true rfl) (by omega) (by omega) (fun q zh9 zm11 zp12 => ?_)
  obtain ⟨rfl, ze10, zn13⟩ := zp12
  subst zm11
  refine z_st (st' := [.int (vMoves 0 nb em x)]) rfl ?_
  have zK14 : zh9 a = some (.inr (7, [.int kd, .int nb, .int em])) := by rw [ze10]; rw [va_up_ne _ _ (show a ≠ r + 1 by omega)]; rw [va_up_ne _ _ (show a ≠ r by omega)]; exact zK6
  have zK15 : zh9 r = some (.inr (6, [.ref (r + 1), .int (nI ((tn + 1) + (bMoves 0).length)), .int bt])) := by rw [ze10]; rw [va_up_ne _ _ (show r ≠ r + 1 by omega)]; exact va_up_self _ _ _
  have zK16 : zh9 (r + 1) = arI κ 40 (wrs (upd tr tn 40) (tn + 1) (bMoves 0)) := by rw [ze10]; exact va_up_self _ _ _
  refine z_ineg X dX5_moves_12 ?_
  refine z_iret X E dX5_moves_13 (by omega) (by omega) ⟨?_, ?_, ?_⟩
  · rfl
  · rw [show wrs tr tn (bMoves 3) = wrs (upd tr tn 40) (tn + 1) (bMoves 0) from rfl, show tn + (bMoves 3).length = (tn + 1) + (bMoves 0).length from rfl]; funext zz; by_cases zq1 : zz = r + 1; (rw [zq1, va_up_self]; exact zK16); by_cases zq0 : zz = r; (rw [zq0, va_up_ne _ _ (show r ≠ r + 1 by omega), va_up_self]; exact zK15); rw [va_up_ne _ _ zq1, va_up_ne _ _ zq0]; rw [ze10, ze2]; simp only [va_up, if_neg zq0, if_neg zq1]
  · rfl
set_option maxHeartbeats 4000000 in
set_option maxRecDepth 100000 in
theorem k_moves_0_5 {κ : Wc} {l : Launch} {h : Mm} {n : Nat} {a : Nat} {kd : Int32} {nb : Int32} {em : Int32} {x : Int32} {r : Nat} {tn : Nat} {bt : Int32} {tr : Nat → Int32} (K0 : h a = some (.inr (4, [.int kd, .int nb, .int em]))) (K1 : h r = some (.inr (6, [.ref (r + 1), .int (nI tn), .int bt]))) (K2 : h (r + 1) = arI κ 40 tr) (p2 : r + 1 < a ∨ a < r) (p1 : tn + (bMoves 0).length ≤ 40) : Con κ l yX0_moves cX0_moves 3 (some .int) 5 0 0 [.ref a, .int x, .ref r] h n (fun q h' n' => q = some (.int (vMoves 0 nb em x)) ∧ h' = va_up (va_up h r (some (.inr (6, [.ref (r + 1), .int (nI (tn + (bMoves 0).length)), .int bt])))) (r + 1) (arI κ 40 (wrs tr tn (bMoves 0))) ∧ n' = n) := by
  refine Con.of mk_X0_moves (Nat.le_of_ble_eq_true rfl) (fun G hG X E => ?_)
  subst hG
  refine z_ls (ls' := [(0, .ref a), (1, .int x), (2, .ref r)]) rfl ?_
  refine z_aload_n X 2 dX0_moves_0 rfl ?_
  refine z_bipush (v := 12) X dX0_moves_1 (by decide) ?_
  refine z_callV X (c_Row_add (κ := κ) (n := n) (r := (r)) (k := (tn)) (bt := (bt)) (v := (12)) (N := (40)) (f := (tr)) K1 K2 (by (simp only [bRuns, bMoves, bChills, bTells, List.length_cons, List.length_append, List.length_nil] at *; omega)) (by omega)) mk_X6_add dX0_moves_3 wd_791 wd_501 wd_502 rfl K1 rfl rfl rfl (Nat.le_of_ble_eq_true rfl) (Nat.le_of_ble_eq_true rfl) (Nat.le_of_ble_eq_true rfl) (by omega) (by omega) (fun q zh1 zm3 zp4 => ?_)
  obtain ⟨rfl, ze2, zn5⟩ := zp4
  subst zm3
  refine z_st (st' := []) rfl ?_
  have zK6 : zh1 a = some (.inr (4, [.int kd, .int nb, .int em])) := by rw [ze2]; rw [va_up_ne _ _ (show a ≠ r + 1 by omega)]; rw [va_up_ne _ _ (show a ≠ r by omega)]; exact K0
  have zK7 : zh1 r = some (.inr (6, [.ref (r + 1), .int (nI (tn + 1)), .int bt])) := by rw [ze2]; rw [va_up_ne _ _ (show r ≠ r + 1 by omega)]; exact va_up_self _ _ _
  have zK8 : zh1 (r + 1) = arI κ 40 (upd tr tn 12) := by rw [ze2]; exact va_up_self _ _ _
  refine z_iload_n X 1 dX0_moves_6 rfl ?_
  refine z_aload_n X 0 dX0_moves_7 rfl ?_
  refine z_get X fl_X0_16_4 dX0_moves_8 zK6 rfl ?_
  refine z_isub X dX0_moves_11 ?_
  refine z_iret X E dX0_moves_12 (by omega) (by omega) ⟨?_, ?_, ?_⟩
  · rfl
  · rw [show wrs tr tn (bMoves 0) = upd tr tn 12 from rfl, show tn + (bMoves 0).length = tn + 1 from rfl]; funext zz; by_cases zq1 : zz = r + 1; (rw [zq1, va_up_self]; exact zK8); by_cases zq0 : zz = r; (rw [zq0, va_up_ne _ _ (show r ≠ r + 1 by omega), va_up_self]; exact zK7); rw [va_up_ne _ _ zq1, va_up_ne _ _ zq0]; rw [ze2]; simp only [va_up, if_neg zq0, if_neg zq1]
  · rfl
set_option maxHeartbeats 4000000 in
set_option maxRecDepth 100000 in
theorem k_moves_5_5 {κ : Wc} {l : Launch} {h : Mm} {n : Nat} {a : Nat} {kd : Int32} {nb : Int32} {em : Int32} {x : Int32} {r : Nat} {tn : Nat} {bt : Int32} {tr : Nat → Int32} (K0 : h a = some (.inr (4, [.int kd, .int nb, .int em]))) (K1 : h r = some (.inr (6, [.ref (r + 1), .int (nI tn), .int bt]))) (K2 : h (r + 1) = arI κ 40 tr) (p2 : r + 1 < a ∨ a < r) (p1 : tn + (bMoves 5).length ≤ 40) : Con κ l yX4_moves cX4_moves 3 (some .int) 6 0 0 [.ref a, .int x, .ref r] h n (fun q h' n' => q = some (.int (vMoves 5 nb em x)) ∧ h' = va_up (va_up h r (some (.inr (6, [.ref (r + 1), .int (nI (tn + (bMoves 5).length)), .int bt])))) (r + 1) (arI κ 40 (wrs tr tn (bMoves 5))) ∧ n' = n) := by
  refine Con.of mk_X4_moves (Nat.le_of_ble_eq_true rfl) (fun G hG X E => ?_)
  subst hG
  refine z_ls (ls' := [(0, .ref a), (1, .int x), (2, .ref r)]) rfl ?_
  refine z_aload_n X 2 dX4_moves_0 rfl ?_
  refine z_bipush (v := 60) X dX4_moves_1 (by decide) ?_
  refine z_callV X (c_Row_add (κ := κ) (n := n) (r := (r)) (k := (tn)) (bt := (bt)) (v := (60)) (N := (40)) (f := (tr)) K1 K2 (by (simp only [bRuns, bMoves, bChills, bTells, List.length_cons, List.length_append, List.length_nil] at *; omega)) (by omega)) mk_X6_add dX4_moves_3 wd_822 wd_501 wd_502 rfl K1 rfl rfl rfl (Nat.le_of_ble_eq_true rfl) (Nat.le_of_ble_eq_true rfl) (Nat.le_of_ble_eq_true rfl) (by omega) (by omega) (fun q zh1 zm3 zp4 => ?_)
  obtain ⟨rfl, ze2, zn5⟩ := zp4
  subst zm3
  refine z_st (st' := []) rfl ?_
  have zK6 : zh1 a = some (.inr (4, [.int kd, .int nb, .int em])) := by rw [ze2]; rw [va_up_ne _ _ (show a ≠ r + 1 by omega)]; rw [va_up_ne _ _ (show a ≠ r by omega)]; exact K0
  have zK7 : zh1 r = some (.inr (6, [.ref (r + 1), .int (nI (tn + 1)), .int bt])) := by rw [ze2]; rw [va_up_ne _ _ (show r ≠ r + 1 by omega)]; exact va_up_self _ _ _
  have zK8 : zh1 (r + 1) = arI κ 40 (upd tr tn 60) := by rw [ze2]; exact va_up_self _ _ _
  refine z_aload_n X 0 dX4_moves_6 rfl ?_
  refine z_iload_n X 1 dX4_moves_7 rfl ?_
  refine z_aload_n X 2 dX4_moves_8 rfl ?_
  refine z_callSU X (k_moves_0_5 (κ := κ) (n := n) (a := (a)) (kd := (kd)) (nb := (nb)) (em := (em)) (x := (x)) (r := (r)) (tn := (tn + 1)) (bt := (bt)) (tr := (upd tr tn 60)) zK6 zK7 zK8 (by first | assumption | omega) (by (simp only [bRuns, bMoves, bChills, bTells, List.length_cons, List.length_append, List.length_nil] at *; omega))) mk_X0_moves dX4_moves_9 wd_823 wd_1377 wd_391 wd_810 (by decide) zK6 rfl rfl rfl (Nat.le_of_ble_eq_true rfl) (Nat.le_of_ble_eq_true rfl) (Nat.le_of_ble_eq_true rfl) (by omega) (by omega) (fun q zh9 zm11 zp12 => ?_)
  obtain ⟨rfl, ze10, zn13⟩ := zp12
  subst zm11
  refine z_st (st' := [.int (vMoves 0 nb em x)]) rfl ?_
  have zK14 : zh9 a = some (.inr (4, [.int kd, .int nb, .int em])) := by rw [ze10]; rw [va_up_ne _ _ (show a ≠ r + 1 by omega)]; rw [va_up_ne _ _ (show a ≠ r by omega)]; exact zK6
  have zK15 : zh9 r = some (.inr (6, [.ref (r + 1), .int (nI ((tn + 1) + (bMoves 0).length)), .int bt])) := by rw [ze10]; rw [va_up_ne _ _ (show r ≠ r + 1 by omega)]; exact va_up_self _ _ _
  have zK16 : zh9 (r + 1) = arI κ 40 (wrs (upd tr tn 60) (tn + 1) (bMoves 0)) := by rw [ze10]; exact va_up_self _ _ _
  refine z_aload_n X 0 dX4_moves_12 rfl ?_
  refine z_get X fl_X4_27_4 dX4_moves_13 zK14 rfl ?_
  refine z_ixor X dX4_moves_16 ?_
  refine z_iret X E dX4_moves_17 (by omega) (by omega) ⟨?_, ?_, ?_⟩
  · rfl
  · rw [show wrs tr tn (bMoves 5) = wrs (upd tr tn 60) (tn + 1) (bMoves 0) from rfl, show tn + (bMoves 5).length = (tn + 1) + (bMoves 0).length from rfl]; funext zz; by_cases zq1 : zz = r + 1; (rw [zq1, va_up_self]; exact zK16); by_cases zq0 : zz = r; (rw [zq0, va_up_ne _ _ (show r ≠ r + 1 by omega), va_up_self]; exact zK15); rw [va_up_ne _ _ zq1, va_up_ne _ _ zq0]; rw [ze10, ze2]; simp only [va_up, if_neg zq0, if_neg zq1]
  · rfl
set_option maxHeartbeats 4000000 in
set_option maxRecDepth 100000 in
theorem k_moves_0_6 {κ : Wc} {l : Launch} {h : Mm} {n : Nat} {a : Nat} {kd : Int32} {nb : Int32} {em : Int32} {x : Int32} {r : Nat} {tn : Nat} {bt : Int32} {tr : Nat → Int32} (K0 : h a = some (.inr (1, [.int kd, .int nb, .int em]))) (K1 : h r = some (.inr (6, [.ref (r + 1), .int (nI tn), .int bt]))) (K2 : h (r + 1) = arI κ 40 tr) (p2 : r + 1 < a ∨ a < r) (p1 : tn + (bMoves 0).length ≤ 40) : Con κ l yX0_moves cX0_moves 3 (some .int) 5 0 0 [.ref a, .int x, .ref r] h n (fun q h' n' => q = some (.int (vMoves 0 nb em x)) ∧ h' = va_up (va_up h r (some (.inr (6, [.ref (r + 1), .int (nI (tn + (bMoves 0).length)), .int bt])))) (r + 1) (arI κ 40 (wrs tr tn (bMoves 0))) ∧ n' = n) := by
  refine Con.of mk_X0_moves (Nat.le_of_ble_eq_true rfl) (fun G hG X E => ?_)
  subst hG
  refine z_ls (ls' := [(0, .ref a), (1, .int x), (2, .ref r)]) rfl ?_
  refine z_aload_n X 2 dX0_moves_0 rfl ?_
  refine z_bipush (v := 12) X dX0_moves_1 (by decide) ?_
  refine z_callV X (c_Row_add (κ := κ) (n := n) (r := (r)) (k := (tn)) (bt := (bt)) (v := (12)) (N := (40)) (f := (tr)) K1 K2 (by (simp only [bRuns, bMoves, bChills, bTells, List.length_cons, List.length_append, List.length_nil] at *; omega)) (by omega)) mk_X6_add dX0_moves_3 wd_791 wd_501 wd_502 rfl K1 rfl rfl rfl (Nat.le_of_ble_eq_true rfl) (Nat.le_of_ble_eq_true rfl) (Nat.le_of_ble_eq_true rfl) (by omega) (by omega) (fun q zh1 zm3 zp4 => ?_)
  obtain ⟨rfl, ze2, zn5⟩ := zp4
  subst zm3
  refine z_st (st' := []) rfl ?_
  have zK6 : zh1 a = some (.inr (1, [.int kd, .int nb, .int em])) := by rw [ze2]; rw [va_up_ne _ _ (show a ≠ r + 1 by omega)]; rw [va_up_ne _ _ (show a ≠ r by omega)]; exact K0
  have zK7 : zh1 r = some (.inr (6, [.ref (r + 1), .int (nI (tn + 1)), .int bt])) := by rw [ze2]; rw [va_up_ne _ _ (show r ≠ r + 1 by omega)]; exact va_up_self _ _ _
  have zK8 : zh1 (r + 1) = arI κ 40 (upd tr tn 12) := by rw [ze2]; exact va_up_self _ _ _
  refine z_iload_n X 1 dX0_moves_6 rfl ?_
  refine z_aload_n X 0 dX0_moves_7 rfl ?_
  refine z_get X fl_X0_16_1 dX0_moves_8 zK6 rfl ?_
  refine z_isub X dX0_moves_11 ?_
  refine z_iret X E dX0_moves_12 (by omega) (by omega) ⟨?_, ?_, ?_⟩
  · rfl
  · rw [show wrs tr tn (bMoves 0) = upd tr tn 12 from rfl, show tn + (bMoves 0).length = tn + 1 from rfl]; funext zz; by_cases zq1 : zz = r + 1; (rw [zq1, va_up_self]; exact zK8); by_cases zq0 : zz = r; (rw [zq0, va_up_ne _ _ (show r ≠ r + 1 by omega), va_up_self]; exact zK7); rw [va_up_ne _ _ zq1, va_up_ne _ _ zq0]; rw [ze2]; simp only [va_up, if_neg zq0, if_neg zq1]
  · rfl
set_option maxHeartbeats 4000000 in
set_option maxRecDepth 100000 in
theorem k_chills_0_0 {κ : Wc} {l : Launch} {h : Mm} {n : Nat} {a : Nat} {kd : Int32} {nb : Int32} {em : Int32} {x : Int32} {r : Nat} {tn : Nat} {bt : Int32} {tr : Nat → Int32} (K0 : h a = some (.inr (0, [.int kd, .int nb, .int em]))) (K1 : h r = some (.inr (6, [.ref (r + 1), .int (nI tn), .int bt]))) (K2 : h (r + 1) = arI κ 40 tr) (p2 : r + 1 < a ∨ a < r) (p1 : tn + (bChills 0 0).length ≤ 40) : Con κ l yX0_chills cX0_chills 3 (some .int) 9 0 0 [.ref a, .int x, .ref r] h n (fun q h' n' => q = some (.int (vChills 0 0 nb em x)) ∧ h' = va_up (va_up h r (some (.inr (6, [.ref (r + 1), .int (nI (tn + (bChills 0 0).length)), .int bt])))) (r + 1) (arI κ 40 (wrs tr tn (bChills 0 0))) ∧ n' = n) := by
  refine Con.of mk_X0_chills (Nat.le_of_ble_eq_true rfl) (fun G hG X E => ?_)
  subst hG
  refine z_ls (ls' := [(0, .ref a), (1, .int x), (2, .ref r)]) rfl ?_
  refine z_aload_n X 2 dX0_chills_0 rfl ?_
  refine z_bipush (v := 11) X dX0_chills_1 (by decide) ?_
  refine z_callV X (c_Row_add (κ := κ) (n := n) (r := (r)) (k := (tn)) (bt := (bt)) (v := (11)) (N := (40)) (f := (tr)) K1 K2 (by (simp only [bRuns, bMoves, bChills, bTells, List.length_cons, List.length_append, List.length_nil] at *; omega)) (by omega)) mk_X6_add dX0_chills_3 wd_791 wd_501 wd_502 rfl K1 rfl rfl rfl (Nat.le_of_ble_eq_true rfl) (Nat.le_of_ble_eq_true rfl) (Nat.le_of_ble_eq_true rfl) (by omega) (by omega) (fun q zh1 zm3 zp4 => ?_)
  obtain ⟨rfl, ze2, zn5⟩ := zp4
  subst zm3
  refine z_st (st' := []) rfl ?_
  have zK6 : zh1 a = some (.inr (0, [.int kd, .int nb, .int em])) := by rw [ze2]; rw [va_up_ne _ _ (show a ≠ r + 1 by omega)]; rw [va_up_ne _ _ (show a ≠ r by omega)]; exact K0
  have zK7 : zh1 r = some (.inr (6, [.ref (r + 1), .int (nI (tn + 1)), .int bt])) := by rw [ze2]; rw [va_up_ne _ _ (show r ≠ r + 1 by omega)]; exact va_up_self _ _ _
  have zK8 : zh1 (r + 1) = arI κ 40 (upd tr tn 11) := by rw [ze2]; exact va_up_self _ _ _
  refine z_aload_n X 0 dX0_chills_6 rfl ?_
  refine z_iload_n X 1 dX0_chills_7 rfl ?_
  refine z_aload_n X 2 dX0_chills_8 rfl ?_
  refine z_callV X (k_runs_0_0 (κ := κ) (n := n) (a := (a)) (kd := (kd)) (nb := (nb)) (em := (em)) (x := (x)) (r := (r)) (tn := (tn + 1)) (bt := (bt)) (tr := (upd tr tn 11)) zK6 zK7 zK8 (by first | assumption | omega) (by (simp only [bRuns, bMoves, bChills, bTells, List.length_cons, List.length_append, List.length_nil] at *; omega))) mk_X0_runs dX0_chills_9 wd_818 wd_773 wd_774 rfl zK6 rfl rfl rfl (Nat.le_of_ble_eq_true rfl) (Nat.le_of_ble_eq_true rfl) (Nat.le_of_ble_eq_true rfl) (by omega) (by omega) (fun q zh9 zm11 zp12 => ?_)
  obtain ⟨rfl, ze10, zn13⟩ := zp12
  subst zm11
  refine z_st (st' := [.int (vRuns 0 nb x)]) rfl ?_
  have zK14 : zh9 a = some (.inr (0, [.int kd, .int nb, .int em])) := by rw [ze10]; rw [va_up_ne _ _ (show a ≠ r + 1 by omega)]; rw [va_up_ne _ _ (show a ≠ r by omega)]; exact zK6
  have zK15 : zh9 r = some (.inr (6, [.ref (r + 1), .int (nI ((tn + 1) + (bRuns 0).length)), .int bt])) := by rw [ze10]; rw [va_up_ne _ _ (show r ≠ r + 1 by omega)]; exact va_up_self _ _ _
  have zK16 : zh9 (r + 1) = arI κ 40 (wrs (upd tr tn 11) (tn + 1) (bRuns 0)) := by rw [ze10]; exact va_up_self _ _ _
  refine z_iconst (v := 2) X dX0_chills_12 (by decide) ?_
  refine z_imul X dX0_chills_13 ?_
  refine z_iret X E dX0_chills_14 (by omega) (by omega) ⟨?_, ?_, ?_⟩
  · rfl
  · rw [show wrs tr tn (bChills 0 0) = wrs (upd tr tn 11) (tn + 1) (bRuns 0) from rfl, show tn + (bChills 0 0).length = (tn + 1) + (bRuns 0).length from rfl]; funext zz; by_cases zq1 : zz = r + 1; (rw [zq1, va_up_self]; exact zK16); by_cases zq0 : zz = r; (rw [zq0, va_up_ne _ _ (show r ≠ r + 1 by omega), va_up_self]; exact zK15); rw [va_up_ne _ _ zq1, va_up_ne _ _ zq0]; rw [ze10, ze2]; simp only [va_up, if_neg zq0, if_neg zq1]
  · rfl
set_option maxHeartbeats 4000000 in
set_option maxRecDepth 100000 in
theorem k_chills_0_1 {κ : Wc} {l : Launch} {h : Mm} {n : Nat} {a : Nat} {kd : Int32} {nb : Int32} {em : Int32} {x : Int32} {r : Nat} {tn : Nat} {bt : Int32} {tr : Nat → Int32} (K0 : h a = some (.inr (10, [.int kd, .int nb, .int em]))) (K1 : h r = some (.inr (6, [.ref (r + 1), .int (nI tn), .int bt]))) (K2 : h (r + 1) = arI κ 40 tr) (p2 : r + 1 < a ∨ a < r) (p1 : tn + (bChills 0 1).length ≤ 40) : Con κ l yX0_chills cX0_chills 3 (some .int) 9 0 0 [.ref a, .int x, .ref r] h n (fun q h' n' => q = some (.int (vChills 0 1 nb em x)) ∧ h' = va_up (va_up h r (some (.inr (6, [.ref (r + 1), .int (nI (tn + (bChills 0 1).length)), .int bt])))) (r + 1) (arI κ 40 (wrs tr tn (bChills 0 1))) ∧ n' = n) := by
  refine Con.of mk_X0_chills (Nat.le_of_ble_eq_true rfl) (fun G hG X E => ?_)
  subst hG
  refine z_ls (ls' := [(0, .ref a), (1, .int x), (2, .ref r)]) rfl ?_
  refine z_aload_n X 2 dX0_chills_0 rfl ?_
  refine z_bipush (v := 11) X dX0_chills_1 (by decide) ?_
  refine z_callV X (c_Row_add (κ := κ) (n := n) (r := (r)) (k := (tn)) (bt := (bt)) (v := (11)) (N := (40)) (f := (tr)) K1 K2 (by (simp only [bRuns, bMoves, bChills, bTells, List.length_cons, List.length_append, List.length_nil] at *; omega)) (by omega)) mk_X6_add dX0_chills_3 wd_791 wd_501 wd_502 rfl K1 rfl rfl rfl (Nat.le_of_ble_eq_true rfl) (Nat.le_of_ble_eq_true rfl) (Nat.le_of_ble_eq_true rfl) (by omega) (by omega) (fun q zh1 zm3 zp4 => ?_)
  obtain ⟨rfl, ze2, zn5⟩ := zp4
  subst zm3
  refine z_st (st' := []) rfl ?_
  have zK6 : zh1 a = some (.inr (10, [.int kd, .int nb, .int em])) := by rw [ze2]; rw [va_up_ne _ _ (show a ≠ r + 1 by omega)]; rw [va_up_ne _ _ (show a ≠ r by omega)]; exact K0
  have zK7 : zh1 r = some (.inr (6, [.ref (r + 1), .int (nI (tn + 1)), .int bt])) := by rw [ze2]; rw [va_up_ne _ _ (show r ≠ r + 1 by omega)]; exact va_up_self _ _ _
  have zK8 : zh1 (r + 1) = arI κ 40 (upd tr tn 11) := by rw [ze2]; exact va_up_self _ _ _
  refine z_aload_n X 0 dX0_chills_6 rfl ?_
  refine z_iload_n X 1 dX0_chills_7 rfl ?_
  refine z_aload_n X 2 dX0_chills_8 rfl ?_
  refine z_callU X (k_runs_0_1 (κ := κ) (n := n) (a := (a)) (kd := (kd)) (nb := (nb)) (em := (em)) (x := (x)) (r := (r)) (tn := (tn + 1)) (bt := (bt)) (tr := (upd tr tn 11)) zK6 zK7 zK8 (by first | assumption | omega) (by (simp only [bRuns, bMoves, bChills, bTells, List.length_cons, List.length_append, List.length_nil] at *; omega))) mk_X0_runs dX0_chills_9 wd_818 wd_775 wd_773 wd_790 wd_773 wd_789 (by decide) rfl zK6 rfl rfl rfl (Nat.le_of_ble_eq_true rfl) (Nat.le_of_ble_eq_true rfl) (Nat.le_of_ble_eq_true rfl) (by omega) (by omega) (fun q zh9 zm11 zp12 => ?_)
  obtain ⟨rfl, ze10, zn13⟩ := zp12
  subst zm11
  refine z_st (st' := [.int (vRuns 0 nb x)]) rfl ?_
  have zK14 : zh9 a = some (.inr (10, [.int kd, .int nb, .int em])) := by rw [ze10]; rw [va_up_ne _ _ (show a ≠ r + 1 by omega)]; rw [va_up_ne _ _ (show a ≠ r by omega)]; exact zK6
  have zK15 : zh9 r = some (.inr (6, [.ref (r + 1), .int (nI ((tn + 1) + (bRuns 0).length)), .int bt])) := by rw [ze10]; rw [va_up_ne _ _ (show r ≠ r + 1 by omega)]; exact va_up_self _ _ _
  have zK16 : zh9 (r + 1) = arI κ 40 (wrs (upd tr tn 11) (tn + 1) (bRuns 0)) := by rw [ze10]; exact va_up_self _ _ _
  refine z_iconst (v := 2) X dX0_chills_12 (by decide) ?_
  refine z_imul X dX0_chills_13 ?_
  refine z_iret X E dX0_chills_14 (by omega) (by omega) ⟨?_, ?_, ?_⟩
  · rfl
  · rw [show wrs tr tn (bChills 0 1) = wrs (upd tr tn 11) (tn + 1) (bRuns 0) from rfl, show tn + (bChills 0 1).length = (tn + 1) + (bRuns 0).length from rfl]; funext zz; by_cases zq1 : zz = r + 1; (rw [zq1, va_up_self]; exact zK16); by_cases zq0 : zz = r; (rw [zq0, va_up_ne _ _ (show r ≠ r + 1 by omega), va_up_self]; exact zK15); rw [va_up_ne _ _ zq1, va_up_ne _ _ zq0]; rw [ze10, ze2]; simp only [va_up, if_neg zq0, if_neg zq1]
  · rfl
set_option maxHeartbeats 4000000 in
set_option maxRecDepth 100000 in
theorem k_chills_1_1 {κ : Wc} {l : Launch} {h : Mm} {n : Nat} {a : Nat} {kd : Int32} {nb : Int32} {em : Int32} {x : Int32} {r : Nat} {tn : Nat} {bt : Int32} {tr : Nat → Int32} (K0 : h a = some (.inr (10, [.int kd, .int nb, .int em]))) (K1 : h r = some (.inr (6, [.ref (r + 1), .int (nI tn), .int bt]))) (K2 : h (r + 1) = arI κ 40 tr) (p2 : r + 1 < a ∨ a < r) (p1 : tn + (bChills 1 1).length ≤ 40) : Con κ l yX10_chills cX10_chills 3 (some .int) 10 0 0 [.ref a, .int x, .ref r] h n (fun q h' n' => q = some (.int (vChills 1 1 nb em x)) ∧ h' = va_up (va_up h r (some (.inr (6, [.ref (r + 1), .int (nI (tn + (bChills 1 1).length)), .int bt])))) (r + 1) (arI κ 40 (wrs tr tn (bChills 1 1))) ∧ n' = n) := by
  refine Con.of mk_X10_chills (Nat.le_of_ble_eq_true rfl) (fun G hG X E => ?_)
  subst hG
  refine z_ls (ls' := [(0, .ref a), (1, .int x), (2, .ref r)]) rfl ?_
  refine z_aload_n X 2 dX10_chills_0 rfl ?_
  refine z_bipush (v := 20) X dX10_chills_1 (by decide) ?_
  refine z_callV X (c_Row_add (κ := κ) (n := n) (r := (r)) (k := (tn)) (bt := (bt)) (v := (20)) (N := (40)) (f := (tr)) K1 K2 (by (simp only [bRuns, bMoves, bChills, bTells, List.length_cons, List.length_append, List.length_nil] at *; omega)) (by omega)) mk_X6_add dX10_chills_3 wd_803 wd_501 wd_502 rfl K1 rfl rfl rfl (Nat.le_of_ble_eq_true rfl) (Nat.le_of_ble_eq_true rfl) (Nat.le_of_ble_eq_true rfl) (by omega) (by omega) (fun q zh1 zm3 zp4 => ?_)
  obtain ⟨rfl, ze2, zn5⟩ := zp4
  subst zm3
  refine z_st (st' := []) rfl ?_
  have zK6 : zh1 a = some (.inr (10, [.int kd, .int nb, .int em])) := by rw [ze2]; rw [va_up_ne _ _ (show a ≠ r + 1 by omega)]; rw [va_up_ne _ _ (show a ≠ r by omega)]; exact K0
  have zK7 : zh1 r = some (.inr (6, [.ref (r + 1), .int (nI (tn + 1)), .int bt])) := by rw [ze2]; rw [va_up_ne _ _ (show r ≠ r + 1 by omega)]; exact va_up_self _ _ _
  have zK8 : zh1 (r + 1) = arI κ 40 (upd tr tn 20) := by rw [ze2]; exact va_up_self _ _ _
  refine z_aload_n X 0 dX10_chills_6 rfl ?_
  refine z_iload_n X 1 dX10_chills_7 rfl ?_
  refine z_aload_n X 2 dX10_chills_8 rfl ?_
  refine z_callSU X (k_chills_0_1 (κ := κ) (n := n) (a := (a)) (kd := (kd)) (nb := (nb)) (em := (em)) (x := (x)) (r := (r)) (tn := (tn + 1)) (bt := (bt)) (tr := (upd tr tn 20)) zK6 zK7 zK8 (by first | assumption | omega) (by (simp only [bRuns, bMoves, bChills, bTells, List.length_cons, List.length_append, List.length_nil] at *; omega))) mk_X0_chills dX10_chills_9 wd_804 wd_795 wd_351 wd_793 (by decide) zK6 rfl rfl rfl (Nat.le_of_ble_eq_true rfl) (Nat.le_of_ble_eq_true rfl) (Nat.le_of_ble_eq_true rfl) (by omega) (by omega) (fun q zh9 zm11 zp12 => ?_)
  obtain ⟨rfl, ze10, zn13⟩ := zp12
  subst zm11
  refine z_st (st' := [.int (vChills 0 1 nb em x)]) rfl ?_
  have zK14 : zh9 a = some (.inr (10, [.int kd, .int nb, .int em])) := by rw [ze10]; rw [va_up_ne _ _ (show a ≠ r + 1 by omega)]; rw [va_up_ne _ _ (show a ≠ r by omega)]; exact zK6
  have zK15 : zh9 r = some (.inr (6, [.ref (r + 1), .int (nI ((tn + 1) + (bChills 0 1).length)), .int bt])) := by rw [ze10]; rw [va_up_ne _ _ (show r ≠ r + 1 by omega)]; exact va_up_self _ _ _
  have zK16 : zh9 (r + 1) = arI κ 40 (wrs (upd tr tn 20) (tn + 1) (bChills 0 1)) := by rw [ze10]; exact va_up_self _ _ _
  refine z_aload_n X 0 dX10_chills_12 rfl ?_
  refine z_iconst (v := 1) X dX10_chills_13 (by decide) ?_
  refine z_aload_n X 2 dX10_chills_14 rfl ?_
  refine z_callU X (k_moves_0_1 (κ := κ) (n := n) (a := (a)) (kd := (kd)) (nb := (nb)) (em := (em)) (x := (1)) (r := (r)) (tn := ((tn + 1) + (bChills 0 1).length)) (bt := (bt)) (tr := (wrs (upd tr tn 20) (tn + 1) (bChills 0 1))) zK14 zK15 zK16 (by first | assumption | omega) (by (simp only [bRuns, bMoves, bChills, bTells, List.length_cons, List.length_append, List.length_nil] at *; omega))) mk_X0_moves dX10_chills_15 wd_805 wd_806 wd_810 wd_811 wd_810 wd_809 (by decide) rfl zK14 rfl rfl rfl (Nat.le_of_ble_eq_true rfl) (Nat.le_of_ble_eq_true rfl) (Nat.le_of_ble_eq_true rfl) (by omega) (by omega) (fun q zh17 zm19 zp20 => ?_)
  obtain ⟨rfl, ze18, zn21⟩ := zp20
  subst zm19
  refine z_st (st' := [.int (vMoves 0 nb em 1), .int (vChills 0 1 nb em x)]) rfl ?_
  have zK22 : zh17 a = some (.inr (10, [.int kd, .int nb, .int em])) := by rw [ze18]; rw [va_up_ne _ _ (show a ≠ r + 1 by omega)]; rw [va_up_ne _ _ (show a ≠ r by omega)]; exact zK14
  have zK23 : zh17 r = some (.inr (6, [.ref (r + 1), .int (nI (((tn + 1) + (bChills 0 1).length) + (bMoves 0).length)), .int bt])) := by rw [ze18]; rw [va_up_ne _ _ (show r ≠ r + 1 by omega)]; exact va_up_self _ _ _
  have zK24 : zh17 (r + 1) = arI κ 40 (wrs (wrs (upd tr tn 20) (tn + 1) (bChills 0 1)) ((tn + 1) + (bChills 0 1).length) (bMoves 0)) := by rw [ze18]; exact va_up_self _ _ _
  refine z_isub X dX10_chills_18 ?_
  refine z_iret X E dX10_chills_19 (by omega) (by omega) ⟨?_, ?_, ?_⟩
  · rfl
  · rw [show wrs tr tn (bChills 1 1) = wrs (wrs (upd tr tn 20) (tn + 1) (bChills 0 1)) ((tn + 1) + (bChills 0 1).length) (bMoves 0) from rfl, show tn + (bChills 1 1).length = ((tn + 1) + (bChills 0 1).length) + (bMoves 0).length from rfl]; funext zz; by_cases zq1 : zz = r + 1; (rw [zq1, va_up_self]; exact zK24); by_cases zq0 : zz = r; (rw [zq0, va_up_ne _ _ (show r ≠ r + 1 by omega), va_up_self]; exact zK23); rw [va_up_ne _ _ zq1, va_up_ne _ _ zq0]; rw [ze18, ze10, ze2]; simp only [va_up, if_neg zq0, if_neg zq1]
  · rfl
set_option maxHeartbeats 4000000 in
set_option maxRecDepth 100000 in
theorem k_chills_0_2 {κ : Wc} {l : Launch} {h : Mm} {n : Nat} {a : Nat} {kd : Int32} {nb : Int32} {em : Int32} {x : Int32} {r : Nat} {tn : Nat} {bt : Int32} {tr : Nat → Int32} (K0 : h a = some (.inr (8, [.int kd, .int nb, .int em]))) (K1 : h r = some (.inr (6, [.ref (r + 1), .int (nI tn), .int bt]))) (K2 : h (r + 1) = arI κ 40 tr) (p2 : r + 1 < a ∨ a < r) (p1 : tn + (bChills 0 2).length ≤ 40) : Con κ l yX0_chills cX0_chills 3 (some .int) 9 0 0 [.ref a, .int x, .ref r] h n (fun q h' n' => q = some (.int (vChills 0 2 nb em x)) ∧ h' = va_up (va_up h r (some (.inr (6, [.ref (r + 1), .int (nI (tn + (bChills 0 2).length)), .int bt])))) (r + 1) (arI κ 40 (wrs tr tn (bChills 0 2))) ∧ n' = n) := by
  refine Con.of mk_X0_chills (Nat.le_of_ble_eq_true rfl) (fun G hG X E => ?_)
  subst hG
  refine z_ls (ls' := [(0, .ref a), (1, .int x), (2, .ref r)]) rfl ?_
  refine z_aload_n X 2 dX0_chills_0 rfl ?_
  refine z_bipush (v := 11) X dX0_chills_1 (by decide) ?_
  refine z_callV X (c_Row_add (κ := κ) (n := n) (r := (r)) (k := (tn)) (bt := (bt)) (v := (11)) (N := (40)) (f := (tr)) K1 K2 (by (simp only [bRuns, bMoves, bChills, bTells, List.length_cons, List.length_append, List.length_nil] at *; omega)) (by omega)) mk_X6_add dX0_chills_3 wd_791 wd_501 wd_502 rfl K1 rfl rfl rfl (Nat.le_of_ble_eq_true rfl) (Nat.le_of_ble_eq_true rfl) (Nat.le_of_ble_eq_true rfl) (by omega) (by omega) (fun q zh1 zm3 zp4 => ?_)
  obtain ⟨rfl, ze2, zn5⟩ := zp4
  subst zm3
  refine z_st (st' := []) rfl ?_
  have zK6 : zh1 a = some (.inr (8, [.int kd, .int nb, .int em])) := by rw [ze2]; rw [va_up_ne _ _ (show a ≠ r + 1 by omega)]; rw [va_up_ne _ _ (show a ≠ r by omega)]; exact K0
  have zK7 : zh1 r = some (.inr (6, [.ref (r + 1), .int (nI (tn + 1)), .int bt])) := by rw [ze2]; rw [va_up_ne _ _ (show r ≠ r + 1 by omega)]; exact va_up_self _ _ _
  have zK8 : zh1 (r + 1) = arI κ 40 (upd tr tn 11) := by rw [ze2]; exact va_up_self _ _ _
  refine z_aload_n X 0 dX0_chills_6 rfl ?_
  refine z_iload_n X 1 dX0_chills_7 rfl ?_
  refine z_aload_n X 2 dX0_chills_8 rfl ?_
  refine z_callU X (k_runs_2_2 (κ := κ) (n := n) (a := (a)) (kd := (kd)) (nb := (nb)) (em := (em)) (x := (x)) (r := (r)) (tn := (tn + 1)) (bt := (bt)) (tr := (upd tr tn 11)) zK6 zK7 zK8 (by first | assumption | omega) (by (simp only [bRuns, bMoves, bChills, bTells, List.length_cons, List.length_append, List.length_nil] at *; omega))) mk_X8_runs dX0_chills_9 wd_818 wd_775 wd_773 wd_790 wd_783 wd_788 (by decide) rfl zK6 rfl rfl rfl (Nat.le_of_ble_eq_true rfl) (Nat.le_of_ble_eq_true rfl) (Nat.le_of_ble_eq_true rfl) (by omega) (by omega) (fun q zh9 zm11 zp12 => ?_)
  obtain ⟨rfl, ze10, zn13⟩ := zp12
  subst zm11
  refine z_st (st' := [.int (vRuns 2 nb x)]) rfl ?_
  have zK14 : zh9 a = some (.inr (8, [.int kd, .int nb, .int em])) := by rw [ze10]; rw [va_up_ne _ _ (show a ≠ r + 1 by omega)]; rw [va_up_ne _ _ (show a ≠ r by omega)]; exact zK6
  have zK15 : zh9 r = some (.inr (6, [.ref (r + 1), .int (nI ((tn + 1) + (bRuns 2).length)), .int bt])) := by rw [ze10]; rw [va_up_ne _ _ (show r ≠ r + 1 by omega)]; exact va_up_self _ _ _
  have zK16 : zh9 (r + 1) = arI κ 40 (wrs (upd tr tn 11) (tn + 1) (bRuns 2)) := by rw [ze10]; exact va_up_self _ _ _
  refine z_iconst (v := 2) X dX0_chills_12 (by decide) ?_
  refine z_imul X dX0_chills_13 ?_
  refine z_iret X E dX0_chills_14 (by omega) (by omega) ⟨?_, ?_, ?_⟩
  · rfl
  · rw [show wrs tr tn (bChills 0 2) = wrs (upd tr tn 11) (tn + 1) (bRuns 2) from rfl, show tn + (bChills 0 2).length = (tn + 1) + (bRuns 2).length from rfl]; funext zz; by_cases zq1 : zz = r + 1; (rw [zq1, va_up_self]; exact zK16); by_cases zq0 : zz = r; (rw [zq0, va_up_ne _ _ (show r ≠ r + 1 by omega), va_up_self]; exact zK15); rw [va_up_ne _ _ zq1, va_up_ne _ _ zq0]; rw [ze10, ze2]; simp only [va_up, if_neg zq0, if_neg zq1]
  · rfl
set_option maxHeartbeats 4000000 in
set_option maxRecDepth 100000 in
theorem k_chills_0_3 {κ : Wc} {l : Launch} {h : Mm} {n : Nat} {a : Nat} {kd : Int32} {nb : Int32} {em : Int32} {x : Int32} {r : Nat} {tn : Nat} {bt : Int32} {tr : Nat → Int32} (K0 : h a = some (.inr (5, [.int kd, .int nb, .int em]))) (K1 : h r = some (.inr (6, [.ref (r + 1), .int (nI tn), .int bt]))) (K2 : h (r + 1) = arI κ 40 tr) (p2 : r + 1 < a ∨ a < r) (p1 : tn + (bChills 0 3).length ≤ 40) : Con κ l yX0_chills cX0_chills 3 (some .int) 9 0 0 [.ref a, .int x, .ref r] h n (fun q h' n' => q = some (.int (vChills 0 3 nb em x)) ∧ h' = va_up (va_up h r (some (.inr (6, [.ref (r + 1), .int (nI (tn + (bChills 0 3).length)), .int bt])))) (r + 1) (arI κ 40 (wrs tr tn (bChills 0 3))) ∧ n' = n) := by
  refine Con.of mk_X0_chills (Nat.le_of_ble_eq_true rfl) (fun G hG X E => ?_)
  subst hG
  refine z_ls (ls' := [(0, .ref a), (1, .int x), (2, .ref r)]) rfl ?_
  refine z_aload_n X 2 dX0_chills_0 rfl ?_
  refine z_bipush (v := 11) X dX0_chills_1 (by decide) ?_
  refine z_callV X (c_Row_add (κ := κ) (n := n) (r := (r)) (k := (tn)) (bt := (bt)) (v := (11)) (N := (40)) (f := (tr)) K1 K2 (by (simp only [bRuns, bMoves, bChills, bTells, List.length_cons, List.length_append, List.length_nil] at *; omega)) (by omega)) mk_X6_add dX0_chills_3 wd_791 wd_501 wd_502 rfl K1 rfl rfl rfl (Nat.le_of_ble_eq_true rfl) (Nat.le_of_ble_eq_true rfl) (Nat.le_of_ble_eq_true rfl) (by omega) (by omega) (fun q zh1 zm3 zp4 => ?_)
  obtain ⟨rfl, ze2, zn5⟩ := zp4
  subst zm3
  refine z_st (st' := []) rfl ?_
  have zK6 : zh1 a = some (.inr (5, [.int kd, .int nb, .int em])) := by rw [ze2]; rw [va_up_ne _ _ (show a ≠ r + 1 by omega)]; rw [va_up_ne _ _ (show a ≠ r by omega)]; exact K0
  have zK7 : zh1 r = some (.inr (6, [.ref (r + 1), .int (nI (tn + 1)), .int bt])) := by rw [ze2]; rw [va_up_ne _ _ (show r ≠ r + 1 by omega)]; exact va_up_self _ _ _
  have zK8 : zh1 (r + 1) = arI κ 40 (upd tr tn 11) := by rw [ze2]; exact va_up_self _ _ _
  refine z_aload_n X 0 dX0_chills_6 rfl ?_
  refine z_iload_n X 1 dX0_chills_7 rfl ?_
  refine z_aload_n X 2 dX0_chills_8 rfl ?_
  refine z_callU X (k_runs_3_3 (κ := κ) (n := n) (a := (a)) (kd := (kd)) (nb := (nb)) (em := (em)) (x := (x)) (r := (r)) (tn := (tn + 1)) (bt := (bt)) (tr := (upd tr tn 11)) zK6 zK7 zK8 (by first | assumption | omega) (by (simp only [bRuns, bMoves, bChills, bTells, List.length_cons, List.length_append, List.length_nil] at *; omega))) mk_X5_runs dX0_chills_9 wd_818 wd_775 wd_773 wd_790 wd_779 wd_778 (by decide) rfl zK6 rfl rfl rfl (Nat.le_of_ble_eq_true rfl) (Nat.le_of_ble_eq_true rfl) (Nat.le_of_ble_eq_true rfl) (by omega) (by omega) (fun q zh9 zm11 zp12 => ?_)
  obtain ⟨rfl, ze10, zn13⟩ := zp12
  subst zm11
  refine z_st (st' := [.int (vRuns 3 nb x)]) rfl ?_
  have zK14 : zh9 a = some (.inr (5, [.int kd, .int nb, .int em])) := by rw [ze10]; rw [va_up_ne _ _ (show a ≠ r + 1 by omega)]; rw [va_up_ne _ _ (show a ≠ r by omega)]; exact zK6
  have zK15 : zh9 r = some (.inr (6, [.ref (r + 1), .int (nI ((tn + 1) + (bRuns 3).length)), .int bt])) := by rw [ze10]; rw [va_up_ne _ _ (show r ≠ r + 1 by omega)]; exact va_up_self _ _ _
  have zK16 : zh9 (r + 1) = arI κ 40 (wrs (upd tr tn 11) (tn + 1) (bRuns 3)) := by rw [ze10]; exact va_up_self _ _ _
  refine z_iconst (v := 2) X dX0_chills_12 (by decide) ?_
  refine z_imul X dX0_chills_13 ?_
  refine z_iret X E dX0_chills_14 (by omega) (by omega) ⟨?_, ?_, ?_⟩
  · rfl
  · rw [show wrs tr tn (bChills 0 3) = wrs (upd tr tn 11) (tn + 1) (bRuns 3) from rfl, show tn + (bChills 0 3).length = (tn + 1) + (bRuns 3).length from rfl]; funext zz; by_cases zq1 : zz = r + 1; (rw [zq1, va_up_self]; exact zK16); by_cases zq0 : zz = r; (rw [zq0, va_up_ne _ _ (show r ≠ r + 1 by omega), va_up_self]; exact zK15); rw [va_up_ne _ _ zq1, va_up_ne _ _ zq0]; rw [ze10, ze2]; simp only [va_up, if_neg zq0, if_neg zq1]
  · rfl
set_option maxHeartbeats 4000000 in
set_option maxRecDepth 100000 in
theorem k_chills_0_4 {κ : Wc} {l : Launch} {h : Mm} {n : Nat} {a : Nat} {kd : Int32} {nb : Int32} {em : Int32} {x : Int32} {r : Nat} {tn : Nat} {bt : Int32} {tr : Nat → Int32} (K0 : h a = some (.inr (7, [.int kd, .int nb, .int em]))) (K1 : h r = some (.inr (6, [.ref (r + 1), .int (nI tn), .int bt]))) (K2 : h (r + 1) = arI κ 40 tr) (p2 : r + 1 < a ∨ a < r) (p1 : tn + (bChills 0 4).length ≤ 40) : Con κ l yX0_chills cX0_chills 3 (some .int) 9 0 0 [.ref a, .int x, .ref r] h n (fun q h' n' => q = some (.int (vChills 0 4 nb em x)) ∧ h' = va_up (va_up h r (some (.inr (6, [.ref (r + 1), .int (nI (tn + (bChills 0 4).length)), .int bt])))) (r + 1) (arI κ 40 (wrs tr tn (bChills 0 4))) ∧ n' = n) := by
  refine Con.of mk_X0_chills (Nat.le_of_ble_eq_true rfl) (fun G hG X E => ?_)
  subst hG
  refine z_ls (ls' := [(0, .ref a), (1, .int x), (2, .ref r)]) rfl ?_
  refine z_aload_n X 2 dX0_chills_0 rfl ?_
  refine z_bipush (v := 11) X dX0_chills_1 (by decide) ?_
  refine z_callV X (c_Row_add (κ := κ) (n := n) (r := (r)) (k := (tn)) (bt := (bt)) (v := (11)) (N := (40)) (f := (tr)) K1 K2 (by (simp only [bRuns, bMoves, bChills, bTells, List.length_cons, List.length_append, List.length_nil] at *; omega)) (by omega)) mk_X6_add dX0_chills_3 wd_791 wd_501 wd_502 rfl K1 rfl rfl rfl (Nat.le_of_ble_eq_true rfl) (Nat.le_of_ble_eq_true rfl) (Nat.le_of_ble_eq_true rfl) (by omega) (by omega) (fun q zh1 zm3 zp4 => ?_)
  obtain ⟨rfl, ze2, zn5⟩ := zp4
  subst zm3
  refine z_st (st' := []) rfl ?_
  have zK6 : zh1 a = some (.inr (7, [.int kd, .int nb, .int em])) := by rw [ze2]; rw [va_up_ne _ _ (show a ≠ r + 1 by omega)]; rw [va_up_ne _ _ (show a ≠ r by omega)]; exact K0
  have zK7 : zh1 r = some (.inr (6, [.ref (r + 1), .int (nI (tn + 1)), .int bt])) := by rw [ze2]; rw [va_up_ne _ _ (show r ≠ r + 1 by omega)]; exact va_up_self _ _ _
  have zK8 : zh1 (r + 1) = arI κ 40 (upd tr tn 11) := by rw [ze2]; exact va_up_self _ _ _
  refine z_aload_n X 0 dX0_chills_6 rfl ?_
  refine z_iload_n X 1 dX0_chills_7 rfl ?_
  refine z_aload_n X 2 dX0_chills_8 rfl ?_
  refine z_callU X (k_runs_3_4 (κ := κ) (n := n) (a := (a)) (kd := (kd)) (nb := (nb)) (em := (em)) (x := (x)) (r := (r)) (tn := (tn + 1)) (bt := (bt)) (tr := (upd tr tn 11)) zK6 zK7 zK8 (by first | assumption | omega) (by (simp only [bRuns, bMoves, bChills, bTells, List.length_cons, List.length_append, List.length_nil] at *; omega))) mk_X5_runs dX0_chills_9 wd_818 wd_775 wd_773 wd_790 wd_779 wd_787 (by decide) rfl zK6 rfl rfl rfl (Nat.le_of_ble_eq_true rfl) (Nat.le_of_ble_eq_true rfl) (Nat.le_of_ble_eq_true rfl) (by omega) (by omega) (fun q zh9 zm11 zp12 => ?_)
  obtain ⟨rfl, ze10, zn13⟩ := zp12
  subst zm11
  refine z_st (st' := [.int (vRuns 3 nb x)]) rfl ?_
  have zK14 : zh9 a = some (.inr (7, [.int kd, .int nb, .int em])) := by rw [ze10]; rw [va_up_ne _ _ (show a ≠ r + 1 by omega)]; rw [va_up_ne _ _ (show a ≠ r by omega)]; exact zK6
  have zK15 : zh9 r = some (.inr (6, [.ref (r + 1), .int (nI ((tn + 1) + (bRuns 3).length)), .int bt])) := by rw [ze10]; rw [va_up_ne _ _ (show r ≠ r + 1 by omega)]; exact va_up_self _ _ _
  have zK16 : zh9 (r + 1) = arI κ 40 (wrs (upd tr tn 11) (tn + 1) (bRuns 3)) := by rw [ze10]; exact va_up_self _ _ _
  refine z_iconst (v := 2) X dX0_chills_12 (by decide) ?_
  refine z_imul X dX0_chills_13 ?_
  refine z_iret X E dX0_chills_14 (by omega) (by omega) ⟨?_, ?_, ?_⟩
  · rfl
  · rw [show wrs tr tn (bChills 0 4) = wrs (upd tr tn 11) (tn + 1) (bRuns 3) from rfl, show tn + (bChills 0 4).length = (tn + 1) + (bRuns 3).length from rfl]; funext zz; by_cases zq1 : zz = r + 1; (rw [zq1, va_up_self]; exact zK16); by_cases zq0 : zz = r; (rw [zq0, va_up_ne _ _ (show r ≠ r + 1 by omega), va_up_self]; exact zK15); rw [va_up_ne _ _ zq1, va_up_ne _ _ zq0]; rw [ze10, ze2]; simp only [va_up, if_neg zq0, if_neg zq1]
  · rfl
set_option maxHeartbeats 4000000 in
set_option maxRecDepth 100000 in
theorem k_chills_0_5 {κ : Wc} {l : Launch} {h : Mm} {n : Nat} {a : Nat} {kd : Int32} {nb : Int32} {em : Int32} {x : Int32} {r : Nat} {tn : Nat} {bt : Int32} {tr : Nat → Int32} (K0 : h a = some (.inr (4, [.int kd, .int nb, .int em]))) (K1 : h r = some (.inr (6, [.ref (r + 1), .int (nI tn), .int bt]))) (K2 : h (r + 1) = arI κ 40 tr) (p2 : r + 1 < a ∨ a < r) (p1 : tn + (bChills 0 5).length ≤ 40) : Con κ l yX0_chills cX0_chills 3 (some .int) 9 0 0 [.ref a, .int x, .ref r] h n (fun q h' n' => q = some (.int (vChills 0 5 nb em x)) ∧ h' = va_up (va_up h r (some (.inr (6, [.ref (r + 1), .int (nI (tn + (bChills 0 5).length)), .int bt])))) (r + 1) (arI κ 40 (wrs tr tn (bChills 0 5))) ∧ n' = n) := by
  refine Con.of mk_X0_chills (Nat.le_of_ble_eq_true rfl) (fun G hG X E => ?_)
  subst hG
  refine z_ls (ls' := [(0, .ref a), (1, .int x), (2, .ref r)]) rfl ?_
  refine z_aload_n X 2 dX0_chills_0 rfl ?_
  refine z_bipush (v := 11) X dX0_chills_1 (by decide) ?_
  refine z_callV X (c_Row_add (κ := κ) (n := n) (r := (r)) (k := (tn)) (bt := (bt)) (v := (11)) (N := (40)) (f := (tr)) K1 K2 (by (simp only [bRuns, bMoves, bChills, bTells, List.length_cons, List.length_append, List.length_nil] at *; omega)) (by omega)) mk_X6_add dX0_chills_3 wd_791 wd_501 wd_502 rfl K1 rfl rfl rfl (Nat.le_of_ble_eq_true rfl) (Nat.le_of_ble_eq_true rfl) (Nat.le_of_ble_eq_true rfl) (by omega) (by omega) (fun q zh1 zm3 zp4 => ?_)
  obtain ⟨rfl, ze2, zn5⟩ := zp4
  subst zm3
  refine z_st (st' := []) rfl ?_
  have zK6 : zh1 a = some (.inr (4, [.int kd, .int nb, .int em])) := by rw [ze2]; rw [va_up_ne _ _ (show a ≠ r + 1 by omega)]; rw [va_up_ne _ _ (show a ≠ r by omega)]; exact K0
  have zK7 : zh1 r = some (.inr (6, [.ref (r + 1), .int (nI (tn + 1)), .int bt])) := by rw [ze2]; rw [va_up_ne _ _ (show r ≠ r + 1 by omega)]; exact va_up_self _ _ _
  have zK8 : zh1 (r + 1) = arI κ 40 (upd tr tn 11) := by rw [ze2]; exact va_up_self _ _ _
  refine z_aload_n X 0 dX0_chills_6 rfl ?_
  refine z_iload_n X 1 dX0_chills_7 rfl ?_
  refine z_aload_n X 2 dX0_chills_8 rfl ?_
  refine z_callU X (k_runs_0_5 (κ := κ) (n := n) (a := (a)) (kd := (kd)) (nb := (nb)) (em := (em)) (x := (x)) (r := (r)) (tn := (tn + 1)) (bt := (bt)) (tr := (upd tr tn 11)) zK6 zK7 zK8 (by first | assumption | omega) (by (simp only [bRuns, bMoves, bChills, bTells, List.length_cons, List.length_append, List.length_nil] at *; omega))) mk_X0_runs dX0_chills_9 wd_818 wd_775 wd_773 wd_790 wd_773 wd_777 (by decide) rfl zK6 rfl rfl rfl (Nat.le_of_ble_eq_true rfl) (Nat.le_of_ble_eq_true rfl) (Nat.le_of_ble_eq_true rfl) (by omega) (by omega) (fun q zh9 zm11 zp12 => ?_)
  obtain ⟨rfl, ze10, zn13⟩ := zp12
  subst zm11
  refine z_st (st' := [.int (vRuns 0 nb x)]) rfl ?_
  have zK14 : zh9 a = some (.inr (4, [.int kd, .int nb, .int em])) := by rw [ze10]; rw [va_up_ne _ _ (show a ≠ r + 1 by omega)]; rw [va_up_ne _ _ (show a ≠ r by omega)]; exact zK6
  have zK15 : zh9 r = some (.inr (6, [.ref (r + 1), .int (nI ((tn + 1) + (bRuns 0).length)), .int bt])) := by rw [ze10]; rw [va_up_ne _ _ (show r ≠ r + 1 by omega)]; exact va_up_self _ _ _
  have zK16 : zh9 (r + 1) = arI κ 40 (wrs (upd tr tn 11) (tn + 1) (bRuns 0)) := by rw [ze10]; exact va_up_self _ _ _
  refine z_iconst (v := 2) X dX0_chills_12 (by decide) ?_
  refine z_imul X dX0_chills_13 ?_
  refine z_iret X E dX0_chills_14 (by omega) (by omega) ⟨?_, ?_, ?_⟩
  · rfl
  · rw [show wrs tr tn (bChills 0 5) = wrs (upd tr tn 11) (tn + 1) (bRuns 0) from rfl, show tn + (bChills 0 5).length = (tn + 1) + (bRuns 0).length from rfl]; funext zz; by_cases zq1 : zz = r + 1; (rw [zq1, va_up_self]; exact zK16); by_cases zq0 : zz = r; (rw [zq0, va_up_ne _ _ (show r ≠ r + 1 by omega), va_up_self]; exact zK15); rw [va_up_ne _ _ zq1, va_up_ne _ _ zq0]; rw [ze10, ze2]; simp only [va_up, if_neg zq0, if_neg zq1]
  · rfl
set_option maxHeartbeats 4000000 in
set_option maxRecDepth 100000 in
theorem k_chills_0_6 {κ : Wc} {l : Launch} {h : Mm} {n : Nat} {a : Nat} {kd : Int32} {nb : Int32} {em : Int32} {x : Int32} {r : Nat} {tn : Nat} {bt : Int32} {tr : Nat → Int32} (K0 : h a = some (.inr (1, [.int kd, .int nb, .int em]))) (K1 : h r = some (.inr (6, [.ref (r + 1), .int (nI tn), .int bt]))) (K2 : h (r + 1) = arI κ 40 tr) (p2 : r + 1 < a ∨ a < r) (p1 : tn + (bChills 0 6).length ≤ 40) : Con κ l yX0_chills cX0_chills 3 (some .int) 9 0 0 [.ref a, .int x, .ref r] h n (fun q h' n' => q = some (.int (vChills 0 6 nb em x)) ∧ h' = va_up (va_up h r (some (.inr (6, [.ref (r + 1), .int (nI (tn + (bChills 0 6).length)), .int bt])))) (r + 1) (arI κ 40 (wrs tr tn (bChills 0 6))) ∧ n' = n) := by
  refine Con.of mk_X0_chills (Nat.le_of_ble_eq_true rfl) (fun G hG X E => ?_)
  subst hG
  refine z_ls (ls' := [(0, .ref a), (1, .int x), (2, .ref r)]) rfl ?_
  refine z_aload_n X 2 dX0_chills_0 rfl ?_
  refine z_bipush (v := 11) X dX0_chills_1 (by decide) ?_
  refine z_callV X (c_Row_add (κ := κ) (n := n) (r := (r)) (k := (tn)) (bt := (bt)) (v := (11)) (N := (40)) (f := (tr)) K1 K2 (by (simp only [bRuns, bMoves, bChills, bTells, List.length_cons, List.length_append, List.length_nil] at *; omega)) (by omega)) mk_X6_add dX0_chills_3 wd_791 wd_501 wd_502 rfl K1 rfl rfl rfl (Nat.le_of_ble_eq_true rfl) (Nat.le_of_ble_eq_true rfl) (Nat.le_of_ble_eq_true rfl) (by omega) (by omega) (fun q zh1 zm3 zp4 => ?_)
  obtain ⟨rfl, ze2, zn5⟩ := zp4
  subst zm3
  refine z_st (st' := []) rfl ?_
  have zK6 : zh1 a = some (.inr (1, [.int kd, .int nb, .int em])) := by rw [ze2]; rw [va_up_ne _ _ (show a ≠ r + 1 by omega)]; rw [va_up_ne _ _ (show a ≠ r by omega)]; exact K0
  have zK7 : zh1 r = some (.inr (6, [.ref (r + 1), .int (nI (tn + 1)), .int bt])) := by rw [ze2]; rw [va_up_ne _ _ (show r ≠ r + 1 by omega)]; exact va_up_self _ _ _
  have zK8 : zh1 (r + 1) = arI κ 40 (upd tr tn 11) := by rw [ze2]; exact va_up_self _ _ _
  refine z_aload_n X 0 dX0_chills_6 rfl ?_
  refine z_iload_n X 1 dX0_chills_7 rfl ?_
  refine z_aload_n X 2 dX0_chills_8 rfl ?_
  refine z_callU X (k_runs_0_6 (κ := κ) (n := n) (a := (a)) (kd := (kd)) (nb := (nb)) (em := (em)) (x := (x)) (r := (r)) (tn := (tn + 1)) (bt := (bt)) (tr := (upd tr tn 11)) zK6 zK7 zK8 (by first | assumption | omega) (by (simp only [bRuns, bMoves, bChills, bTells, List.length_cons, List.length_append, List.length_nil] at *; omega))) mk_X0_runs dX0_chills_9 wd_818 wd_775 wd_773 wd_790 wd_773 wd_776 (by decide) rfl zK6 rfl rfl rfl (Nat.le_of_ble_eq_true rfl) (Nat.le_of_ble_eq_true rfl) (Nat.le_of_ble_eq_true rfl) (by omega) (by omega) (fun q zh9 zm11 zp12 => ?_)
  obtain ⟨rfl, ze10, zn13⟩ := zp12
  subst zm11
  refine z_st (st' := [.int (vRuns 0 nb x)]) rfl ?_
  have zK14 : zh9 a = some (.inr (1, [.int kd, .int nb, .int em])) := by rw [ze10]; rw [va_up_ne _ _ (show a ≠ r + 1 by omega)]; rw [va_up_ne _ _ (show a ≠ r by omega)]; exact zK6
  have zK15 : zh9 r = some (.inr (6, [.ref (r + 1), .int (nI ((tn + 1) + (bRuns 0).length)), .int bt])) := by rw [ze10]; rw [va_up_ne _ _ (show r ≠ r + 1 by omega)]; exact va_up_self _ _ _
  have zK16 : zh9 (r + 1) = arI κ 40 (wrs (upd tr tn 11) (tn + 1) (bRuns 0)) := by rw [ze10]; exact va_up_self _ _ _
  refine z_iconst (v := 2) X dX0_chills_12 (by decide) ?_
  refine z_imul X dX0_chills_13 ?_
  refine z_iret X E dX0_chills_14 (by omega) (by omega) ⟨?_, ?_, ?_⟩
  · rfl
  · rw [show wrs tr tn (bChills 0 6) = wrs (upd tr tn 11) (tn + 1) (bRuns 0) from rfl, show tn + (bChills 0 6).length = (tn + 1) + (bRuns 0).length from rfl]; funext zz; by_cases zq1 : zz = r + 1; (rw [zq1, va_up_self]; exact zK16); by_cases zq0 : zz = r; (rw [zq0, va_up_ne _ _ (show r ≠ r + 1 by omega), va_up_self]; exact zK15); rw [va_up_ne _ _ zq1, va_up_ne _ _ zq0]; rw [ze10, ze2]; simp only [va_up, if_neg zq0, if_neg zq1]
  · rfl
set_option maxHeartbeats 4000000 in
set_option maxRecDepth 100000 in
theorem k_chills_1_6 {κ : Wc} {l : Launch} {h : Mm} {n : Nat} {a : Nat} {kd : Int32} {nb : Int32} {em : Int32} {x : Int32} {r : Nat} {tn : Nat} {bt : Int32} {tr : Nat → Int32} (K0 : h a = some (.inr (1, [.int kd, .int nb, .int em]))) (K1 : h r = some (.inr (6, [.ref (r + 1), .int (nI tn), .int bt]))) (K2 : h (r + 1) = arI κ 40 tr) (p2 : r + 1 < a ∨ a < r) (p1 : tn + (bChills 1 6).length ≤ 40) : Con κ l yX10_chills cX10_chills 3 (some .int) 10 0 0 [.ref a, .int x, .ref r] h n (fun q h' n' => q = some (.int (vChills 1 6 nb em x)) ∧ h' = va_up (va_up h r (some (.inr (6, [.ref (r + 1), .int (nI (tn + (bChills 1 6).length)), .int bt])))) (r + 1) (arI κ 40 (wrs tr tn (bChills 1 6))) ∧ n' = n) := by
  refine Con.of mk_X10_chills (Nat.le_of_ble_eq_true rfl) (fun G hG X E => ?_)
  subst hG
  refine z_ls (ls' := [(0, .ref a), (1, .int x), (2, .ref r)]) rfl ?_
  refine z_aload_n X 2 dX10_chills_0 rfl ?_
  refine z_bipush (v := 20) X dX10_chills_1 (by decide) ?_
  refine z_callV X (c_Row_add (κ := κ) (n := n) (r := (r)) (k := (tn)) (bt := (bt)) (v := (20)) (N := (40)) (f := (tr)) K1 K2 (by (simp only [bRuns, bMoves, bChills, bTells, List.length_cons, List.length_append, List.length_nil] at *; omega)) (by omega)) mk_X6_add dX10_chills_3 wd_803 wd_501 wd_502 rfl K1 rfl rfl rfl (Nat.le_of_ble_eq_true rfl) (Nat.le_of_ble_eq_true rfl) (Nat.le_of_ble_eq_true rfl) (by omega) (by omega) (fun q zh1 zm3 zp4 => ?_)
  obtain ⟨rfl, ze2, zn5⟩ := zp4
  subst zm3
  refine z_st (st' := []) rfl ?_
  have zK6 : zh1 a = some (.inr (1, [.int kd, .int nb, .int em])) := by rw [ze2]; rw [va_up_ne _ _ (show a ≠ r + 1 by omega)]; rw [va_up_ne _ _ (show a ≠ r by omega)]; exact K0
  have zK7 : zh1 r = some (.inr (6, [.ref (r + 1), .int (nI (tn + 1)), .int bt])) := by rw [ze2]; rw [va_up_ne _ _ (show r ≠ r + 1 by omega)]; exact va_up_self _ _ _
  have zK8 : zh1 (r + 1) = arI κ 40 (upd tr tn 20) := by rw [ze2]; exact va_up_self _ _ _
  refine z_aload_n X 0 dX10_chills_6 rfl ?_
  refine z_iload_n X 1 dX10_chills_7 rfl ?_
  refine z_aload_n X 2 dX10_chills_8 rfl ?_
  refine z_callSU X (k_chills_0_6 (κ := κ) (n := n) (a := (a)) (kd := (kd)) (nb := (nb)) (em := (em)) (x := (x)) (r := (r)) (tn := (tn + 1)) (bt := (bt)) (tr := (upd tr tn 20)) zK6 zK7 zK8 (by first | assumption | omega) (by (simp only [bRuns, bMoves, bChills, bTells, List.length_cons, List.length_append, List.length_nil] at *; omega))) mk_X0_chills dX10_chills_9 wd_804 wd_795 wd_351 wd_793 (by decide) zK6 rfl rfl rfl (Nat.le_of_ble_eq_true rfl) (Nat.le_of_ble_eq_true rfl) (Nat.le_of_ble_eq_true rfl) (by omega) (by omega) (fun q zh9 zm11 zp12 => ?_)
  obtain ⟨rfl, ze10, zn13⟩ := zp12
  subst zm11
  refine z_st (st' := [.int (vChills 0 6 nb em x)]) rfl ?_
  have zK14 : zh9 a = some (.inr (1, [.int kd, .int nb, .int em])) := by rw [ze10]; rw [va_up_ne _ _ (show a ≠ r + 1 by omega)]; rw [va_up_ne _ _ (show a ≠ r by omega)]; exact zK6
  have zK15 : zh9 r = some (.inr (6, [.ref (r + 1), .int (nI ((tn + 1) + (bChills 0 6).length)), .int bt])) := by rw [ze10]; rw [va_up_ne _ _ (show r ≠ r + 1 by omega)]; exact va_up_self _ _ _
  have zK16 : zh9 (r + 1) = arI κ 40 (wrs (upd tr tn 20) (tn + 1) (bChills 0 6)) := by rw [ze10]; exact va_up_self _ _ _
  refine z_aload_n X 0 dX10_chills_12 rfl ?_
  refine z_iconst (v := 1) X dX10_chills_13 (by decide) ?_
  refine z_aload_n X 2 dX10_chills_14 rfl ?_
  refine z_callU X (k_moves_0_6 (κ := κ) (n := n) (a := (a)) (kd := (kd)) (nb := (nb)) (em := (em)) (x := (1)) (r := (r)) (tn := ((tn + 1) + (bChills 0 6).length)) (bt := (bt)) (tr := (wrs (upd tr tn 20) (tn + 1) (bChills 0 6))) zK14 zK15 zK16 (by first | assumption | omega) (by (simp only [bRuns, bMoves, bChills, bTells, List.length_cons, List.length_append, List.length_nil] at *; omega))) mk_X0_moves dX10_chills_15 wd_805 wd_806 wd_810 wd_811 wd_810 wd_808 (by decide) rfl zK14 rfl rfl rfl (Nat.le_of_ble_eq_true rfl) (Nat.le_of_ble_eq_true rfl) (Nat.le_of_ble_eq_true rfl) (by omega) (by omega) (fun q zh17 zm19 zp20 => ?_)
  obtain ⟨rfl, ze18, zn21⟩ := zp20
  subst zm19
  refine z_st (st' := [.int (vMoves 0 nb em 1), .int (vChills 0 6 nb em x)]) rfl ?_
  have zK22 : zh17 a = some (.inr (1, [.int kd, .int nb, .int em])) := by rw [ze18]; rw [va_up_ne _ _ (show a ≠ r + 1 by omega)]; rw [va_up_ne _ _ (show a ≠ r by omega)]; exact zK14
  have zK23 : zh17 r = some (.inr (6, [.ref (r + 1), .int (nI (((tn + 1) + (bChills 0 6).length) + (bMoves 0).length)), .int bt])) := by rw [ze18]; rw [va_up_ne _ _ (show r ≠ r + 1 by omega)]; exact va_up_self _ _ _
  have zK24 : zh17 (r + 1) = arI κ 40 (wrs (wrs (upd tr tn 20) (tn + 1) (bChills 0 6)) ((tn + 1) + (bChills 0 6).length) (bMoves 0)) := by rw [ze18]; exact va_up_self _ _ _
  refine z_isub X dX10_chills_18 ?_
  refine z_iret X E dX10_chills_19 (by omega) (by omega) ⟨?_, ?_, ?_⟩
  · rfl
  · rw [show wrs tr tn (bChills 1 6) = wrs (wrs (upd tr tn 20) (tn + 1) (bChills 0 6)) ((tn + 1) + (bChills 0 6).length) (bMoves 0) from rfl, show tn + (bChills 1 6).length = ((tn + 1) + (bChills 0 6).length) + (bMoves 0).length from rfl]; funext zz; by_cases zq1 : zz = r + 1; (rw [zq1, va_up_self]; exact zK24); by_cases zq0 : zz = r; (rw [zq0, va_up_ne _ _ (show r ≠ r + 1 by omega), va_up_self]; exact zK23); rw [va_up_ne _ _ zq1, va_up_ne _ _ zq0]; rw [ze18, ze10, ze2]; simp only [va_up, if_neg zq0, if_neg zq1]
  · rfl
set_option maxHeartbeats 4000000 in
set_option maxRecDepth 100000 in
theorem k_chills_6_6 {κ : Wc} {l : Launch} {h : Mm} {n : Nat} {a : Nat} {kd : Int32} {nb : Int32} {em : Int32} {x : Int32} {r : Nat} {tn : Nat} {bt : Int32} {tr : Nat → Int32} (K0 : h a = some (.inr (1, [.int kd, .int nb, .int em]))) (K1 : h r = some (.inr (6, [.ref (r + 1), .int (nI tn), .int bt]))) (K2 : h (r + 1) = arI κ 40 tr) (p2 : r + 1 < a ∨ a < r) (p1 : tn + (bChills 6 6).length ≤ 40) : Con κ l yX1_chills cX1_chills 3 (some .int) 11 0 0 [.ref a, .int x, .ref r] h n (fun q h' n' => q = some (.int (vChills 6 6 nb em x)) ∧ h' = va_up (va_up h r (some (.inr (6, [.ref (r + 1), .int (nI (tn + (bChills 6 6).length)), .int bt])))) (r + 1) (arI κ 40 (wrs tr tn (bChills 6 6))) ∧ n' = n) := by
  refine Con.of mk_X1_chills (Nat.le_of_ble_eq_true rfl) (fun G hG X E => ?_)
  subst hG
  refine z_ls (ls' := [(0, .ref a), (1, .int x), (2, .ref r)]) rfl ?_
  refine z_aload_n X 2 dX1_chills_0 rfl ?_
  refine z_bipush (v := 70) X dX1_chills_1 (by decide) ?_
  refine z_callV X (c_Row_add (κ := κ) (n := n) (r := (r)) (k := (tn)) (bt := (bt)) (v := (70)) (N := (40)) (f := (tr)) K1 K2 (by (simp only [bRuns, bMoves, bChills, bTells, List.length_cons, List.length_append, List.length_nil] at *; omega)) (by omega)) mk_X6_add dX1_chills_3 wd_799 wd_501 wd_502 rfl K1 rfl rfl rfl (Nat.le_of_ble_eq_true rfl) (Nat.le_of_ble_eq_true rfl) (Nat.le_of_ble_eq_true rfl) (by omega) (by omega) (fun q zh1 zm3 zp4 => ?_)
  obtain ⟨rfl, ze2, zn5⟩ := zp4
  subst zm3
  refine z_st (st' := []) rfl ?_
  have zK6 : zh1 a = some (.inr (1, [.int kd, .int nb, .int em])) := by rw [ze2]; rw [va_up_ne _ _ (show a ≠ r + 1 by omega)]; rw [va_up_ne _ _ (show a ≠ r by omega)]; exact K0
  have zK7 : zh1 r = some (.inr (6, [.ref (r + 1), .int (nI (tn + 1)), .int bt])) := by rw [ze2]; rw [va_up_ne _ _ (show r ≠ r + 1 by omega)]; exact va_up_self _ _ _
  have zK8 : zh1 (r + 1) = arI κ 40 (upd tr tn 70) := by rw [ze2]; exact va_up_self _ _ _
  refine z_aload_n X 0 dX1_chills_6 rfl ?_
  refine z_iload_n X 1 dX1_chills_7 rfl ?_
  refine z_aload_n X 2 dX1_chills_8 rfl ?_
  refine z_callSU X (k_chills_1_6 (κ := κ) (n := n) (a := (a)) (kd := (kd)) (nb := (nb)) (em := (em)) (x := (x)) (r := (r)) (tn := (tn + 1)) (bt := (bt)) (tr := (upd tr tn 70)) zK6 zK7 zK8 (by first | assumption | omega) (by (simp only [bRuns, bMoves, bChills, bTells, List.length_cons, List.length_append, List.length_nil] at *; omega))) mk_X10_chills dX1_chills_9 wd_800 wd_1376 wd_401 wd_801 (by decide) zK6 rfl rfl rfl (Nat.le_of_ble_eq_true rfl) (Nat.le_of_ble_eq_true rfl) (Nat.le_of_ble_eq_true rfl) (by omega) (by omega) (fun q zh9 zm11 zp12 => ?_)
  obtain ⟨rfl, ze10, zn13⟩ := zp12
  subst zm11
  refine z_st (st' := [.int (vChills 1 6 nb em x)]) rfl ?_
  have zK14 : zh9 a = some (.inr (1, [.int kd, .int nb, .int em])) := by rw [ze10]; rw [va_up_ne _ _ (show a ≠ r + 1 by omega)]; rw [va_up_ne _ _ (show a ≠ r by omega)]; exact zK6
  have zK15 : zh9 r = some (.inr (6, [.ref (r + 1), .int (nI ((tn + 1) + (bChills 1 6).length)), .int bt])) := by rw [ze10]; rw [va_up_ne _ _ (show r ≠ r + 1 by omega)]; exact va_up_self _ _ _
  have zK16 : zh9 (r + 1) = arI κ 40 (wrs (upd tr tn 70) (tn + 1) (bChills 1 6)) := by rw [ze10]; exact va_up_self _ _ _
  refine z_aload_n X 0 dX1_chills_12 rfl ?_
  refine z_get X fl_X1_20_1 dX1_chills_13 zK14 rfl ?_
  refine z_iadd X dX1_chills_16 ?_
  refine z_iret X E dX1_chills_17 (by omega) (by omega) ⟨?_, ?_, ?_⟩
  · rfl
  · rw [show wrs tr tn (bChills 6 6) = wrs (upd tr tn 70) (tn + 1) (bChills 1 6) from rfl, show tn + (bChills 6 6).length = (tn + 1) + (bChills 1 6).length from rfl]; funext zz; by_cases zq1 : zz = r + 1; (rw [zq1, va_up_self]; exact zK16); by_cases zq0 : zz = r; (rw [zq0, va_up_ne _ _ (show r ≠ r + 1 by omega), va_up_self]; exact zK15); rw [va_up_ne _ _ zq1, va_up_ne _ _ zq0]; rw [ze10, ze2]; simp only [va_up, if_neg zq0, if_neg zq1]
  · rfl
set_option maxHeartbeats 4000000 in
set_option maxRecDepth 100000 in
theorem k_tells_0_0 {κ : Wc} {l : Launch} {h : Mm} {n : Nat} {a : Nat} {kd : Int32} {nb : Int32} {em : Int32} {x : Int32} {r : Nat} {tn : Nat} {bt : Int32} {tr : Nat → Int32} (K0 : h a = some (.inr (0, [.int kd, .int nb, .int em]))) (K1 : h r = some (.inr (6, [.ref (r + 1), .int (nI tn), .int bt]))) (K2 : h (r + 1) = arI κ 40 tr) (p2 : r + 1 < a ∨ a < r) (p1 : tn + (bTells 0 0).length ≤ 40) : Con κ l yX0_tells cX0_tells 3 (some .int) 13 0 0 [.ref a, .int x, .ref r] h n (fun q h' n' => q = some (.int (vTells 0 0 nb em x)) ∧ h' = va_up (va_up h r (some (.inr (6, [.ref (r + 1), .int (nI (tn + (bTells 0 0).length)), .int bt])))) (r + 1) (arI κ 40 (wrs tr tn (bTells 0 0))) ∧ n' = n) := by
  refine Con.of mk_X0_tells (Nat.le_of_ble_eq_true rfl) (fun G hG X E => ?_)
  subst hG
  refine z_ls (ls' := [(0, .ref a), (1, .int x), (2, .ref r)]) rfl ?_
  refine z_aload_n X 2 dX0_tells_0 rfl ?_
  refine z_bipush (v := 13) X dX0_tells_1 (by decide) ?_
  refine z_callV X (c_Row_add (κ := κ) (n := n) (r := (r)) (k := (tn)) (bt := (bt)) (v := (13)) (N := (40)) (f := (tr)) K1 K2 (by (simp only [bRuns, bMoves, bChills, bTells, List.length_cons, List.length_append, List.length_nil] at *; omega)) (by omega)) mk_X6_add dX0_tells_3 wd_791 wd_501 wd_502 rfl K1 rfl rfl rfl (Nat.le_of_ble_eq_true rfl) (Nat.le_of_ble_eq_true rfl) (Nat.le_of_ble_eq_true rfl) (by omega) (by omega) (fun q zh1 zm3 zp4 => ?_)
  obtain ⟨rfl, ze2, zn5⟩ := zp4
  subst zm3
  refine z_st (st' := []) rfl ?_
  have zK6 : zh1 a = some (.inr (0, [.int kd, .int nb, .int em])) := by rw [ze2]; rw [va_up_ne _ _ (show a ≠ r + 1 by omega)]; rw [va_up_ne _ _ (show a ≠ r by omega)]; exact K0
  have zK7 : zh1 r = some (.inr (6, [.ref (r + 1), .int (nI (tn + 1)), .int bt])) := by rw [ze2]; rw [va_up_ne _ _ (show r ≠ r + 1 by omega)]; exact va_up_self _ _ _
  have zK8 : zh1 (r + 1) = arI κ 40 (upd tr tn 13) := by rw [ze2]; exact va_up_self _ _ _
  refine z_aload_n X 0 dX0_tells_6 rfl ?_
  refine z_iload_n X 1 dX0_tells_7 rfl ?_
  refine z_aload_n X 2 dX0_tells_8 rfl ?_
  refine z_callV X (k_chills_0_0 (κ := κ) (n := n) (a := (a)) (kd := (kd)) (nb := (nb)) (em := (em)) (x := (x)) (r := (r)) (tn := (tn + 1)) (bt := (bt)) (tr := (upd tr tn 13)) zK6 zK7 zK8 (by first | assumption | omega) (by (simp only [bRuns, bMoves, bChills, bTells, List.length_cons, List.length_append, List.length_nil] at *; omega))) mk_X0_chills dX0_tells_9 wd_854 wd_793 wd_794 rfl zK6 rfl rfl rfl (Nat.le_of_ble_eq_true rfl) (Nat.le_of_ble_eq_true rfl) (Nat.le_of_ble_eq_true rfl) (by omega) (by omega) (fun q zh9 zm11 zp12 => ?_)
  obtain ⟨rfl, ze10, zn13⟩ := zp12
  subst zm11
  refine z_st (st' := [.int (vChills 0 0 nb em x)]) rfl ?_
  have zK14 : zh9 a = some (.inr (0, [.int kd, .int nb, .int em])) := by rw [ze10]; rw [va_up_ne _ _ (show a ≠ r + 1 by omega)]; rw [va_up_ne _ _ (show a ≠ r by omega)]; exact zK6
  have zK15 : zh9 r = some (.inr (6, [.ref (r + 1), .int (nI ((tn + 1) + (bChills 0 0).length)), .int bt])) := by rw [ze10]; rw [va_up_ne _ _ (show r ≠ r + 1 by omega)]; exact va_up_self _ _ _
  have zK16 : zh9 (r + 1) = arI κ 40 (wrs (upd tr tn 13) (tn + 1) (bChills 0 0)) := by rw [ze10]; exact va_up_self _ _ _
  refine z_aload_n X 0 dX0_tells_12 rfl ?_
  refine z_iload_n X 1 dX0_tells_13 rfl ?_
  refine z_aload_n X 2 dX0_tells_14 rfl ?_
  refine z_callV X (k_moves_0_0 (κ := κ) (n := n) (a := (a)) (kd := (kd)) (nb := (nb)) (em := (em)) (x := (x)) (r := (r)) (tn := ((tn + 1) + (bChills 0 0).length)) (bt := (bt)) (tr := (wrs (upd tr tn 13) (tn + 1) (bChills 0 0))) zK14 zK15 zK16 (by first | assumption | omega) (by (simp only [bRuns, bMoves, bChills, bTells, List.length_cons, List.length_append, List.length_nil] at *; omega))) mk_X0_moves dX0_tells_15 wd_855 wd_810 wd_1378 rfl zK14 rfl rfl rfl (Nat.le_of_ble_eq_true rfl) (Nat.le_of_ble_eq_true rfl) (Nat.le_of_ble_eq_true rfl) (by omega) (by omega) (fun q zh17 zm19 zp20 => ?_)
  obtain ⟨rfl, ze18, zn21⟩ := zp20
  subst zm19
  refine z_st (st' := [.int (vMoves 0 nb em x), .int (vChills 0 0 nb em x)]) rfl ?_
  have zK22 : zh17 a = some (.inr (0, [.int kd, .int nb, .int em])) := by rw [ze18]; rw [va_up_ne _ _ (show a ≠ r + 1 by omega)]; rw [va_up_ne _ _ (show a ≠ r by omega)]; exact zK14
  have zK23 : zh17 r = some (.inr (6, [.ref (r + 1), .int (nI (((tn + 1) + (bChills 0 0).length) + (bMoves 0).length)), .int bt])) := by rw [ze18]; rw [va_up_ne _ _ (show r ≠ r + 1 by omega)]; exact va_up_self _ _ _
  have zK24 : zh17 (r + 1) = arI κ 40 (wrs (wrs (upd tr tn 13) (tn + 1) (bChills 0 0)) ((tn + 1) + (bChills 0 0).length) (bMoves 0)) := by rw [ze18]; exact va_up_self _ _ _
  refine z_ixor X dX0_tells_18 ?_
  refine z_iret X E dX0_tells_19 (by omega) (by omega) ⟨?_, ?_, ?_⟩
  · rfl
  · rw [show wrs tr tn (bTells 0 0) = wrs (wrs (upd tr tn 13) (tn + 1) (bChills 0 0)) ((tn + 1) + (bChills 0 0).length) (bMoves 0) from rfl, show tn + (bTells 0 0).length = ((tn + 1) + (bChills 0 0).length) + (bMoves 0).length from rfl]; funext zz; by_cases zq1 : zz = r + 1; (rw [zq1, va_up_self]; exact zK24); by_cases zq0 : zz = r; (rw [zq0, va_up_ne _ _ (show r ≠ r + 1 by omega), va_up_self]; exact zK23); rw [va_up_ne _ _ zq1, va_up_ne _ _ zq0]; rw [ze18, ze10, ze2]; simp only [va_up, if_neg zq0, if_neg zq1]
  · rfl
set_option maxHeartbeats 4000000 in
set_option maxRecDepth 100000 in
theorem k_tells_0_1 {κ : Wc} {l : Launch} {h : Mm} {n : Nat} {a : Nat} {kd : Int32} {nb : Int32} {em : Int32} {x : Int32} {r : Nat} {tn : Nat} {bt : Int32} {tr : Nat → Int32} (K0 : h a = some (.inr (10, [.int kd, .int nb, .int em]))) (K1 : h r = some (.inr (6, [.ref (r + 1), .int (nI tn), .int bt]))) (K2 : h (r + 1) = arI κ 40 tr) (p2 : r + 1 < a ∨ a < r) (p1 : tn + (bTells 0 1).length ≤ 40) : Con κ l yX0_tells cX0_tells 3 (some .int) 13 0 0 [.ref a, .int x, .ref r] h n (fun q h' n' => q = some (.int (vTells 0 1 nb em x)) ∧ h' = va_up (va_up h r (some (.inr (6, [.ref (r + 1), .int (nI (tn + (bTells 0 1).length)), .int bt])))) (r + 1) (arI κ 40 (wrs tr tn (bTells 0 1))) ∧ n' = n) := by
  refine Con.of mk_X0_tells (Nat.le_of_ble_eq_true rfl) (fun G hG X E => ?_)
  subst hG
  refine z_ls (ls' := [(0, .ref a), (1, .int x), (2, .ref r)]) rfl ?_
  refine z_aload_n X 2 dX0_tells_0 rfl ?_
  refine z_bipush (v := 13) X dX0_tells_1 (by decide) ?_
  refine z_callV X (c_Row_add (κ := κ) (n := n) (r := (r)) (k := (tn)) (bt := (bt)) (v := (13)) (N := (40)) (f := (tr)) K1 K2 (by (simp only [bRuns, bMoves, bChills, bTells, List.length_cons, List.length_append, List.length_nil] at *; omega)) (by omega)) mk_X6_add dX0_tells_3 wd_791 wd_501 wd_502 rfl K1 rfl rfl rfl (Nat.le_of_ble_eq_true rfl) (Nat.le_of_ble_eq_true rfl) (Nat.le_of_ble_eq_true rfl) (by omega) (by omega) (fun q zh1 zm3 zp4 => ?_)
  obtain ⟨rfl, ze2, zn5⟩ := zp4
  subst zm3
  refine z_st (st' := []) rfl ?_
  have zK6 : zh1 a = some (.inr (10, [.int kd, .int nb, .int em])) := by rw [ze2]; rw [va_up_ne _ _ (show a ≠ r + 1 by omega)]; rw [va_up_ne _ _ (show a ≠ r by omega)]; exact K0
  have zK7 : zh1 r = some (.inr (6, [.ref (r + 1), .int (nI (tn + 1)), .int bt])) := by rw [ze2]; rw [va_up_ne _ _ (show r ≠ r + 1 by omega)]; exact va_up_self _ _ _
  have zK8 : zh1 (r + 1) = arI κ 40 (upd tr tn 13) := by rw [ze2]; exact va_up_self _ _ _
  refine z_aload_n X 0 dX0_tells_6 rfl ?_
  refine z_iload_n X 1 dX0_tells_7 rfl ?_
  refine z_aload_n X 2 dX0_tells_8 rfl ?_
  refine z_callU X (k_chills_1_1 (κ := κ) (n := n) (a := (a)) (kd := (kd)) (nb := (nb)) (em := (em)) (x := (x)) (r := (r)) (tn := (tn + 1)) (bt := (bt)) (tr := (upd tr tn 13)) zK6 zK7 zK8 (by first | assumption | omega) (by (simp only [bRuns, bMoves, bChills, bTells, List.length_cons, List.length_append, List.length_nil] at *; omega))) mk_X10_chills dX0_tells_9 wd_854 wd_795 wd_793 wd_817 wd_801 wd_816 (by decide) rfl zK6 rfl rfl rfl (Nat.le_of_ble_eq_true rfl) (Nat.le_of_ble_eq_true rfl) (Nat.le_of_ble_eq_true rfl) (by omega) (by omega) (fun q zh9 zm11 zp12 => ?_)
  obtain ⟨rfl, ze10, zn13⟩ := zp12
  subst zm11
  refine z_st (st' := [.int (vChills 1 1 nb em x)]) rfl ?_
  have zK14 : zh9 a = some (.inr (10, [.int kd, .int nb, .int em])) := by rw [ze10]; rw [va_up_ne _ _ (show a ≠ r + 1 by omega)]; rw [va_up_ne _ _ (show a ≠ r by omega)]; exact zK6
  have zK15 : zh9 r = some (.inr (6, [.ref (r + 1), .int (nI ((tn + 1) + (bChills 1 1).length)), .int bt])) := by rw [ze10]; rw [va_up_ne _ _ (show r ≠ r + 1 by omega)]; exact va_up_self _ _ _
  have zK16 : zh9 (r + 1) = arI κ 40 (wrs (upd tr tn 13) (tn + 1) (bChills 1 1)) := by rw [ze10]; exact va_up_self _ _ _
  refine z_aload_n X 0 dX0_tells_12 rfl ?_
  refine z_iload_n X 1 dX0_tells_13 rfl ?_
  refine z_aload_n X 2 dX0_tells_14 rfl ?_
  refine z_callU X (k_moves_0_1 (κ := κ) (n := n) (a := (a)) (kd := (kd)) (nb := (nb)) (em := (em)) (x := (x)) (r := (r)) (tn := ((tn + 1) + (bChills 1 1).length)) (bt := (bt)) (tr := (wrs (upd tr tn 13) (tn + 1) (bChills 1 1))) zK14 zK15 zK16 (by first | assumption | omega) (by (simp only [bRuns, bMoves, bChills, bTells, List.length_cons, List.length_append, List.length_nil] at *; omega))) mk_X0_moves dX0_tells_15 wd_855 wd_1377 wd_810 wd_811 wd_810 wd_1384 (by decide) rfl zK14 rfl rfl rfl (Nat.le_of_ble_eq_true rfl) (Nat.le_of_ble_eq_true rfl) (Nat.le_of_ble_eq_true rfl) (by omega) (by omega) (fun q zh17 zm19 zp20 => ?_)
  obtain ⟨rfl, ze18, zn21⟩ := zp20
  subst zm19
  refine z_st (st' := [.int (vMoves 0 nb em x), .int (vChills 1 1 nb em x)]) rfl ?_
  have zK22 : zh17 a = some (.inr (10, [.int kd, .int nb, .int em])) := by rw [ze18]; rw [va_up_ne _ _ (show a ≠ r + 1 by omega)]; rw [va_up_ne _ _ (show a ≠ r by omega)]; exact zK14
  have zK23 : zh17 r = some (.inr (6, [.ref (r + 1), .int (nI (((tn + 1) + (bChills 1 1).length) + (bMoves 0).length)), .int bt])) := by rw [ze18]; rw [va_up_ne _ _ (show r ≠ r + 1 by omega)]; exact va_up_self _ _ _
  have zK24 : zh17 (r + 1) = arI κ 40 (wrs (wrs (upd tr tn 13) (tn + 1) (bChills 1 1)) ((tn + 1) + (bChills 1 1).length) (bMoves 0)) := by rw [ze18]; exact va_up_self _ _ _
  refine z_ixor X dX0_tells_18 ?_
  refine z_iret X E dX0_tells_19 (by omega) (by omega) ⟨?_, ?_, ?_⟩
  · rfl
  · rw [show wrs tr tn (bTells 0 1) = wrs (wrs (upd tr tn 13) (tn + 1) (bChills 1 1)) ((tn + 1) + (bChills 1 1).length) (bMoves 0) from rfl, show tn + (bTells 0 1).length = ((tn + 1) + (bChills 1 1).length) + (bMoves 0).length from rfl]; funext zz; by_cases zq1 : zz = r + 1; (rw [zq1, va_up_self]; exact zK24); by_cases zq0 : zz = r; (rw [zq0, va_up_ne _ _ (show r ≠ r + 1 by omega), va_up_self]; exact zK23); rw [va_up_ne _ _ zq1, va_up_ne _ _ zq0]; rw [ze18, ze10, ze2]; simp only [va_up, if_neg zq0, if_neg zq1]
  · rfl
set_option maxHeartbeats 4000000 in
set_option maxRecDepth 100000 in
theorem k_tells_0_2 {κ : Wc} {l : Launch} {h : Mm} {n : Nat} {a : Nat} {kd : Int32} {nb : Int32} {em : Int32} {x : Int32} {r : Nat} {tn : Nat} {bt : Int32} {tr : Nat → Int32} (K0 : h a = some (.inr (8, [.int kd, .int nb, .int em]))) (K1 : h r = some (.inr (6, [.ref (r + 1), .int (nI tn), .int bt]))) (K2 : h (r + 1) = arI κ 40 tr) (p2 : r + 1 < a ∨ a < r) (p1 : tn + (bTells 0 2).length ≤ 40) : Con κ l yX0_tells cX0_tells 3 (some .int) 13 0 0 [.ref a, .int x, .ref r] h n (fun q h' n' => q = some (.int (vTells 0 2 nb em x)) ∧ h' = va_up (va_up h r (some (.inr (6, [.ref (r + 1), .int (nI (tn + (bTells 0 2).length)), .int bt])))) (r + 1) (arI κ 40 (wrs tr tn (bTells 0 2))) ∧ n' = n) := by
  refine Con.of mk_X0_tells (Nat.le_of_ble_eq_true rfl) (fun G hG X E => ?_)
  subst hG
  refine z_ls (ls' := [(0, .ref a), (1, .int x), (2, .ref r)]) rfl ?_
  refine z_aload_n X 2 dX0_tells_0 rfl ?_
  refine z_bipush (v := 13) X dX0_tells_1 (by decide) ?_
  refine z_callV X (c_Row_add (κ := κ) (n := n) (r := (r)) (k := (tn)) (bt := (bt)) (v := (13)) (N := (40)) (f := (tr)) K1 K2 (by (simp only [bRuns, bMoves, bChills, bTells, List.length_cons, List.length_append, List.length_nil] at *; omega)) (by omega)) mk_X6_add dX0_tells_3 wd_791 wd_501 wd_502 rfl K1 rfl rfl rfl (Nat.le_of_ble_eq_true rfl) (Nat.le_of_ble_eq_true rfl) (Nat.le_of_ble_eq_true rfl) (by omega) (by omega) (fun q zh1 zm3 zp4 => ?_)
  obtain ⟨rfl, ze2, zn5⟩ := zp4
  subst zm3
  refine z_st (st' := []) rfl ?_
  have zK6 : zh1 a = some (.inr (8, [.int kd, .int nb, .int em])) := by rw [ze2]; rw [va_up_ne _ _ (show a ≠ r + 1 by omega)]; rw [va_up_ne _ _ (show a ≠ r by omega)]; exact K0
  have zK7 : zh1 r = some (.inr (6, [.ref (r + 1), .int (nI (tn + 1)), .int bt])) := by rw [ze2]; rw [va_up_ne _ _ (show r ≠ r + 1 by omega)]; exact va_up_self _ _ _
  have zK8 : zh1 (r + 1) = arI κ 40 (upd tr tn 13) := by rw [ze2]; exact va_up_self _ _ _
  refine z_aload_n X 0 dX0_tells_6 rfl ?_
  refine z_iload_n X 1 dX0_tells_7 rfl ?_
  refine z_aload_n X 2 dX0_tells_8 rfl ?_
  refine z_callU X (k_chills_0_2 (κ := κ) (n := n) (a := (a)) (kd := (kd)) (nb := (nb)) (em := (em)) (x := (x)) (r := (r)) (tn := (tn + 1)) (bt := (bt)) (tr := (upd tr tn 13)) zK6 zK7 zK8 (by first | assumption | omega) (by (simp only [bRuns, bMoves, bChills, bTells, List.length_cons, List.length_append, List.length_nil] at *; omega))) mk_X0_chills dX0_tells_9 wd_854 wd_795 wd_793 wd_817 wd_793 wd_815 (by decide) rfl zK6 rfl rfl rfl (Nat.le_of_ble_eq_true rfl) (Nat.le_of_ble_eq_true rfl) (Nat.le_of_ble_eq_true rfl) (by omega) (by omega) (fun q zh9 zm11 zp12 => ?_)
  obtain ⟨rfl, ze10, zn13⟩ := zp12
  subst zm11
  refine z_st (st' := [.int (vChills 0 2 nb em x)]) rfl ?_
  have zK14 : zh9 a = some (.inr (8, [.int kd, .int nb, .int em])) := by rw [ze10]; rw [va_up_ne _ _ (show a ≠ r + 1 by omega)]; rw [va_up_ne _ _ (show a ≠ r by omega)]; exact zK6
  have zK15 : zh9 r = some (.inr (6, [.ref (r + 1), .int (nI ((tn + 1) + (bChills 0 2).length)), .int bt])) := by rw [ze10]; rw [va_up_ne _ _ (show r ≠ r + 1 by omega)]; exact va_up_self _ _ _
  have zK16 : zh9 (r + 1) = arI κ 40 (wrs (upd tr tn 13) (tn + 1) (bChills 0 2)) := by rw [ze10]; exact va_up_self _ _ _
  refine z_aload_n X 0 dX0_tells_12 rfl ?_
  refine z_iload_n X 1 dX0_tells_13 rfl ?_
  refine z_aload_n X 2 dX0_tells_14 rfl ?_
  refine z_callU X (k_moves_0_2 (κ := κ) (n := n) (a := (a)) (kd := (kd)) (nb := (nb)) (em := (em)) (x := (x)) (r := (r)) (tn := ((tn + 1) + (bChills 0 2).length)) (bt := (bt)) (tr := (wrs (upd tr tn 13) (tn + 1) (bChills 0 2))) zK14 zK15 zK16 (by first | assumption | omega) (by (simp only [bRuns, bMoves, bChills, bTells, List.length_cons, List.length_append, List.length_nil] at *; omega))) mk_X0_moves dX0_tells_15 wd_855 wd_1377 wd_810 wd_811 wd_810 wd_1383 (by decide) rfl zK14 rfl rfl rfl (Nat.le_of_ble_eq_true rfl) (Nat.le_of_ble_eq_true rfl) (Nat.le_of_ble_eq_true rfl) (by omega) (by omega) (fun q zh17 zm19 zp20 => ?_)
  obtain ⟨rfl, ze18, zn21⟩ := zp20
  subst zm19
  refine z_st (st' := [.int (vMoves 0 nb em x), .int (vChills 0 2 nb em x)]) rfl ?_
  have zK22 : zh17 a = some (.inr (8, [.int kd, .int nb, .int em])) := by rw [ze18]; rw [va_up_ne _ _ (show a ≠ r + 1 by omega)]; rw [va_up_ne _ _ (show a ≠ r by omega)]; exact zK14
  have zK23 : zh17 r = some (.inr (6, [.ref (r + 1), .int (nI (((tn + 1) + (bChills 0 2).length) + (bMoves 0).length)), .int bt])) := by rw [ze18]; rw [va_up_ne _ _ (show r ≠ r + 1 by omega)]; exact va_up_self _ _ _
  have zK24 : zh17 (r + 1) = arI κ 40 (wrs (wrs (upd tr tn 13) (tn + 1) (bChills 0 2)) ((tn + 1) + (bChills 0 2).length) (bMoves 0)) := by rw [ze18]; exact va_up_self _ _ _
  refine z_ixor X dX0_tells_18 ?_
  refine z_iret X E dX0_tells_19 (by omega) (by omega) ⟨?_, ?_, ?_⟩
  · rfl
  · rw [show wrs tr tn (bTells 0 2) = wrs (wrs (upd tr tn 13) (tn + 1) (bChills 0 2)) ((tn + 1) + (bChills 0 2).length) (bMoves 0) from rfl, show tn + (bTells 0 2).length = ((tn + 1) + (bChills 0 2).length) + (bMoves 0).length from rfl]; funext zz; by_cases zq1 : zz = r + 1; (rw [zq1, va_up_self]; exact zK24); by_cases zq0 : zz = r; (rw [zq0, va_up_ne _ _ (show r ≠ r + 1 by omega), va_up_self]; exact zK23); rw [va_up_ne _ _ zq1, va_up_ne _ _ zq0]; rw [ze18, ze10, ze2]; simp only [va_up, if_neg zq0, if_neg zq1]
  · rfl
set_option maxHeartbeats 4000000 in
set_option maxRecDepth 100000 in
theorem k_tells_0_3 {κ : Wc} {l : Launch} {h : Mm} {n : Nat} {a : Nat} {kd : Int32} {nb : Int32} {em : Int32} {x : Int32} {r : Nat} {tn : Nat} {bt : Int32} {tr : Nat → Int32} (K0 : h a = some (.inr (5, [.int kd, .int nb, .int em]))) (K1 : h r = some (.inr (6, [.ref (r + 1), .int (nI tn), .int bt]))) (K2 : h (r + 1) = arI κ 40 tr) (p2 : r + 1 < a ∨ a < r) (p1 : tn + (bTells 0 3).length ≤ 40) : Con κ l yX0_tells cX0_tells 3 (some .int) 13 0 0 [.ref a, .int x, .ref r] h n (fun q h' n' => q = some (.int (vTells 0 3 nb em x)) ∧ h' = va_up (va_up h r (some (.inr (6, [.ref (r + 1), .int (nI (tn + (bTells 0 3).length)), .int bt])))) (r + 1) (arI κ 40 (wrs tr tn (bTells 0 3))) ∧ n' = n) := by
  refine Con.of mk_X0_tells (Nat.le_of_ble_eq_true rfl) (fun G hG X E => ?_)
  subst hG
  refine z_ls (ls' := [(0, .ref a), (1, .int x), (2, .ref r)]) rfl ?_
  refine z_aload_n X 2 dX0_tells_0 rfl ?_
  refine z_bipush (v := 13) X dX0_tells_1 (by decide) ?_
  refine z_callV X (c_Row_add (κ := κ) (n := n) (r := (r)) (k := (tn)) (bt := (bt)) (v := (13)) (N := (40)) (f := (tr)) K1 K2 (by (simp only [bRuns, bMoves, bChills, bTells, List.length_cons, List.length_append, List.length_nil] at *; omega)) (by omega)) mk_X6_add dX0_tells_3 wd_791 wd_501 wd_502 rfl K1 rfl rfl rfl (Nat.le_of_ble_eq_true rfl) (Nat.le_of_ble_eq_true rfl) (Nat.le_of_ble_eq_true rfl) (by omega) (by omega) (fun q zh1 zm3 zp4 => ?_)
  obtain ⟨rfl, ze2, zn5⟩ := zp4
  subst zm3
  refine z_st (st' := []) rfl ?_
  have zK6 : zh1 a = some (.inr (5, [.int kd, .int nb, .int em])) := by rw [ze2]; rw [va_up_ne _ _ (show a ≠ r + 1 by omega)]; rw [va_up_ne _ _ (show a ≠ r by omega)]; exact K0
  have zK7 : zh1 r = some (.inr (6, [.ref (r + 1), .int (nI (tn + 1)), .int bt])) := by rw [ze2]; rw [va_up_ne _ _ (show r ≠ r + 1 by omega)]; exact va_up_self _ _ _
  have zK8 : zh1 (r + 1) = arI κ 40 (upd tr tn 13) := by rw [ze2]; exact va_up_self _ _ _
  refine z_aload_n X 0 dX0_tells_6 rfl ?_
  refine z_iload_n X 1 dX0_tells_7 rfl ?_
  refine z_aload_n X 2 dX0_tells_8 rfl ?_
  refine z_callU X (k_chills_0_3 (κ := κ) (n := n) (a := (a)) (kd := (kd)) (nb := (nb)) (em := (em)) (x := (x)) (r := (r)) (tn := (tn + 1)) (bt := (bt)) (tr := (upd tr tn 13)) zK6 zK7 zK8 (by first | assumption | omega) (by (simp only [bRuns, bMoves, bChills, bTells, List.length_cons, List.length_append, List.length_nil] at *; omega))) mk_X0_chills dX0_tells_9 wd_854 wd_795 wd_793 wd_817 wd_793 wd_813 (by decide) rfl zK6 rfl rfl rfl (Nat.le_of_ble_eq_true rfl) (Nat.le_of_ble_eq_true rfl) (Nat.le_of_ble_eq_true rfl) (by omega) (by omega) (fun q zh9 zm11 zp12 => ?_)
  obtain ⟨rfl, ze10, zn13⟩ := zp12
  subst zm11
  refine z_st (st' := [.int (vChills 0 3 nb em x)]) rfl ?_
  have zK14 : zh9 a = some (.inr (5, [.int kd, .int nb, .int em])) := by rw [ze10]; rw [va_up_ne _ _ (show a ≠ r + 1 by omega)]; rw [va_up_ne _ _ (show a ≠ r by omega)]; exact zK6
  have zK15 : zh9 r = some (.inr (6, [.ref (r + 1), .int (nI ((tn + 1) + (bChills 0 3).length)), .int bt])) := by rw [ze10]; rw [va_up_ne _ _ (show r ≠ r + 1 by omega)]; exact va_up_self _ _ _
  have zK16 : zh9 (r + 1) = arI κ 40 (wrs (upd tr tn 13) (tn + 1) (bChills 0 3)) := by rw [ze10]; exact va_up_self _ _ _
  refine z_aload_n X 0 dX0_tells_12 rfl ?_
  refine z_iload_n X 1 dX0_tells_13 rfl ?_
  refine z_aload_n X 2 dX0_tells_14 rfl ?_
  refine z_callU X (k_moves_3_3 (κ := κ) (n := n) (a := (a)) (kd := (kd)) (nb := (nb)) (em := (em)) (x := (x)) (r := (r)) (tn := ((tn + 1) + (bChills 0 3).length)) (bt := (bt)) (tr := (wrs (upd tr tn 13) (tn + 1) (bChills 0 3))) zK14 zK15 zK16 (by first | assumption | omega) (by (simp only [bRuns, bMoves, bChills, bTells, List.length_cons, List.length_append, List.length_nil] at *; omega))) mk_X5_moves dX0_tells_15 wd_855 wd_1377 wd_810 wd_811 wd_824 wd_1381 (by decide) rfl zK14 rfl rfl rfl (Nat.le_of_ble_eq_true rfl) (Nat.le_of_ble_eq_true rfl) (Nat.le_of_ble_eq_true rfl) (by omega) (by omega) (fun q zh17 zm19 zp20 => ?_)
  obtain ⟨rfl, ze18, zn21⟩ := zp20
  subst zm19
  refine z_st (st' := [.int (vMoves 3 nb em x), .int (vChills 0 3 nb em x)]) rfl ?_
  have zK22 : zh17 a = some (.inr (5, [.int kd, .int nb, .int em])) := by rw [ze18]; rw [va_up_ne _ _ (show a ≠ r + 1 by omega)]; rw [va_up_ne _ _ (show a ≠ r by omega)]; exact zK14
  have zK23 : zh17 r = some (.inr (6, [.ref (r + 1), .int (nI (((tn + 1) + (bChills 0 3).length) + (bMoves 3).length)), .int bt])) := by rw [ze18]; rw [va_up_ne _ _ (show r ≠ r + 1 by omega)]; exact va_up_self _ _ _
  have zK24 : zh17 (r + 1) = arI κ 40 (wrs (wrs (upd tr tn 13) (tn + 1) (bChills 0 3)) ((tn + 1) + (bChills 0 3).length) (bMoves 3)) := by rw [ze18]; exact va_up_self _ _ _
  refine z_ixor X dX0_tells_18 ?_
  refine z_iret X E dX0_tells_19 (by omega) (by omega) ⟨?_, ?_, ?_⟩
  · rfl
  · rw [show wrs tr tn (bTells 0 3) = wrs (wrs (upd tr tn 13) (tn + 1) (bChills 0 3)) ((tn + 1) + (bChills 0 3).length) (bMoves 3) from rfl, show tn + (bTells 0 3).length = ((tn + 1) + (bChills 0 3).length) + (bMoves 3).length from rfl]; funext zz; by_cases zq1 : zz = r + 1; (rw [zq1, va_up_self]; exact zK24); by_cases zq0 : zz = r; (rw [zq0, va_up_ne _ _ (show r ≠ r + 1 by omega), va_up_self]; exact zK23); rw [va_up_ne _ _ zq1, va_up_ne _ _ zq0]; rw [ze18, ze10, ze2]; simp only [va_up, if_neg zq0, if_neg zq1]
  · rfl
set_option maxHeartbeats 4000000 in
set_option maxRecDepth 100000 in
theorem k_tells_0_4 {κ : Wc} {l : Launch} {h : Mm} {n : Nat} {a : Nat} {kd : Int32} {nb : Int32} {em : Int32} {x : Int32} {r : Nat} {tn : Nat} {bt : Int32} {tr : Nat → Int32} (K0 : h a = some (.inr (7, [.int kd, .int nb, .int em]))) (K1 : h r = some (.inr (6, [.ref (r + 1), .int (nI tn), .int bt]))) (K2 : h (r + 1) = arI κ 40 tr) (p2 : r + 1 < a ∨ a < r) (p1 : tn + (bTells 0 4).length ≤ 40) : Con κ l yX0_tells cX0_tells 3 (some .int) 13 0 0 [.ref a, .int x, .ref r] h n (fun q h' n' => q = some (.int (vTells 0 4 nb em x)) ∧ h' = va_up (va_up h r (some (.inr (6, [.ref (r + 1), .int (nI (tn + (bTells 0 4).length)), .int bt])))) (r + 1) (arI κ 40 (wrs tr tn (bTells 0 4))) ∧ n' = n) := by
  refine Con.of mk_X0_tells (Nat.le_of_ble_eq_true rfl) (fun G hG X E => ?_)
  subst hG
  refine z_ls (ls' := [(0, .ref a), (1, .int x), (2, .ref r)]) rfl ?_
  refine z_aload_n X 2 dX0_tells_0 rfl ?_
  refine z_bipush (v := 13) X dX0_tells_1 (by decide) ?_
  refine z_callV X (c_Row_add (κ := κ) (n := n) (r := (r)) (k := (tn)) (bt := (bt)) (v := (13)) (N := (40)) (f := (tr)) K1 K2 (by (simp only [bRuns, bMoves, bChills, bTells, List.length_cons, List.length_append, List.length_nil] at *; omega)) (by omega)) mk_X6_add dX0_tells_3 wd_791 wd_501 wd_502 rfl K1 rfl rfl rfl (Nat.le_of_ble_eq_true rfl) (Nat.le_of_ble_eq_true rfl) (Nat.le_of_ble_eq_true rfl) (by omega) (by omega) (fun q zh1 zm3 zp4 => ?_)
  obtain ⟨rfl, ze2, zn5⟩ := zp4
  subst zm3
  refine z_st (st' := []) rfl ?_
  have zK6 : zh1 a = some (.inr (7, [.int kd, .int nb, .int em])) := by rw [ze2]; rw [va_up_ne _ _ (show a ≠ r + 1 by omega)]; rw [va_up_ne _ _ (show a ≠ r by omega)]; exact K0
  have zK7 : zh1 r = some (.inr (6, [.ref (r + 1), .int (nI (tn + 1)), .int bt])) := by rw [ze2]; rw [va_up_ne _ _ (show r ≠ r + 1 by omega)]; exact va_up_self _ _ _
  have zK8 : zh1 (r + 1) = arI κ 40 (upd tr tn 13) := by rw [ze2]; exact va_up_self _ _ _
  refine z_aload_n X 0 dX0_tells_6 rfl ?_
  refine z_iload_n X 1 dX0_tells_7 rfl ?_
  refine z_aload_n X 2 dX0_tells_8 rfl ?_
  refine z_callU X (k_chills_0_4 (κ := κ) (n := n) (a := (a)) (kd := (kd)) (nb := (nb)) (em := (em)) (x := (x)) (r := (r)) (tn := (tn + 1)) (bt := (bt)) (tr := (upd tr tn 13)) zK6 zK7 zK8 (by first | assumption | omega) (by (simp only [bRuns, bMoves, bChills, bTells, List.length_cons, List.length_append, List.length_nil] at *; omega))) mk_X0_chills dX0_tells_9 wd_854 wd_795 wd_793 wd_817 wd_793 wd_814 (by decide) rfl zK6 rfl rfl rfl (Nat.le_of_ble_eq_true rfl) (Nat.le_of_ble_eq_true rfl) (Nat.le_of_ble_eq_true rfl) (by omega) (by omega) (fun q zh9 zm11 zp12 => ?_)
  obtain ⟨rfl, ze10, zn13⟩ := zp12
  subst zm11
  refine z_st (st' := [.int (vChills 0 4 nb em x)]) rfl ?_
  have zK14 : zh9 a = some (.inr (7, [.int kd, .int nb, .int em])) := by rw [ze10]; rw [va_up_ne _ _ (show a ≠ r + 1 by omega)]; rw [va_up_ne _ _ (show a ≠ r by omega)]; exact zK6
  have zK15 : zh9 r = some (.inr (6, [.ref (r + 1), .int (nI ((tn + 1) + (bChills 0 4).length)), .int bt])) := by rw [ze10]; rw [va_up_ne _ _ (show r ≠ r + 1 by omega)]; exact va_up_self _ _ _
  have zK16 : zh9 (r + 1) = arI κ 40 (wrs (upd tr tn 13) (tn + 1) (bChills 0 4)) := by rw [ze10]; exact va_up_self _ _ _
  refine z_aload_n X 0 dX0_tells_12 rfl ?_
  refine z_iload_n X 1 dX0_tells_13 rfl ?_
  refine z_aload_n X 2 dX0_tells_14 rfl ?_
  refine z_callU X (k_moves_3_4 (κ := κ) (n := n) (a := (a)) (kd := (kd)) (nb := (nb)) (em := (em)) (x := (x)) (r := (r)) (tn := ((tn + 1) + (bChills 0 4).length)) (bt := (bt)) (tr := (wrs (upd tr tn 13) (tn + 1) (bChills 0 4))) zK14 zK15 zK16 (by first | assumption | omega) (by (simp only [bRuns, bMoves, bChills, bTells, List.length_cons, List.length_append, List.length_nil] at *; omega))) mk_X5_moves dX0_tells_15 wd_855 wd_1377 wd_810 wd_811 wd_824 wd_1382 (by decide) rfl zK14 rfl rfl rfl (Nat.le_of_ble_eq_true rfl) (Nat.le_of_ble_eq_true rfl) (Nat.le_of_ble_eq_true rfl) (by omega) (by omega) (fun q zh17 zm19 zp20 => ?_)
  obtain ⟨rfl, ze18, zn21⟩ := zp20
  subst zm19
  refine z_st (st' := [.int (vMoves 3 nb em x), .int (vChills 0 4 nb em x)]) rfl ?_
  have zK22 : zh17 a = some (.inr (7, [.int kd, .int nb, .int em])) := by rw [ze18]; rw [va_up_ne _ _ (show a ≠ r + 1 by omega)]; rw [va_up_ne _ _ (show a ≠ r by omega)]; exact zK14
  have zK23 : zh17 r = some (.inr (6, [.ref (r + 1), .int (nI (((tn + 1) + (bChills 0 4).length) + (bMoves 3).length)), .int bt])) := by rw [ze18]; rw [va_up_ne _ _ (show r ≠ r + 1 by omega)]; exact va_up_self _ _ _
  have zK24 : zh17 (r + 1) = arI κ 40 (wrs (wrs (upd tr tn 13) (tn + 1) (bChills 0 4)) ((tn + 1) + (bChills 0 4).length) (bMoves 3)) := by rw [ze18]; exact va_up_self _ _ _
  refine z_ixor X dX0_tells_18 ?_
  refine z_iret X E dX0_tells_19 (by omega) (by omega) ⟨?_, ?_, ?_⟩
  · rfl
  · rw [show wrs tr tn (bTells 0 4) = wrs (wrs (upd tr tn 13) (tn + 1) (bChills 0 4)) ((tn + 1) + (bChills 0 4).length) (bMoves 3) from rfl, show tn + (bTells 0 4).length = ((tn + 1) + (bChills 0 4).length) + (bMoves 3).length from rfl]; funext zz; by_cases zq1 : zz = r + 1; (rw [zq1, va_up_self]; exact zK24); by_cases zq0 : zz = r; (rw [zq0, va_up_ne _ _ (show r ≠ r + 1 by omega), va_up_self]; exact zK23); rw [va_up_ne _ _ zq1, va_up_ne _ _ zq0]; rw [ze18, ze10, ze2]; simp only [va_up, if_neg zq0, if_neg zq1]
  · rfl
set_option maxHeartbeats 4000000 in
set_option maxRecDepth 100000 in
theorem k_tells_4_4 {κ : Wc} {l : Launch} {h : Mm} {n : Nat} {a : Nat} {kd : Int32} {nb : Int32} {em : Int32} {x : Int32} {r : Nat} {tn : Nat} {bt : Int32} {tr : Nat → Int32} (K0 : h a = some (.inr (7, [.int kd, .int nb, .int em]))) (K1 : h r = some (.inr (6, [.ref (r + 1), .int (nI tn), .int bt]))) (K2 : h (r + 1) = arI κ 40 tr) (p2 : r + 1 < a ∨ a < r) (p1 : tn + (bTells 4 4).length ≤ 40) : Con κ l yX7_tells cX7_tells 3 (some .int) 16 0 0 [.ref a, .int x, .ref r] h n (fun q h' n' => q = some (.int (vTells 4 4 nb em x)) ∧ h' = va_up (va_up h r (some (.inr (6, [.ref (r + 1), .int (nI (tn + (bTells 4 4).length)), .int bt])))) (r + 1) (arI κ 40 (wrs tr tn (bTells 4 4))) ∧ n' = n) := by
  refine Con.of mk_X7_tells (Nat.le_of_ble_eq_true rfl) (fun G hG X E => ?_)
  subst hG
  refine z_ls (ls' := [(0, .ref a), (1, .int x), (2, .ref r)]) rfl ?_
  refine z_aload_n X 2 dX7_tells_0 rfl ?_
  refine z_bipush (v := 50) X dX7_tells_1 (by decide) ?_
  refine z_callV X (c_Row_add (κ := κ) (n := n) (r := (r)) (k := (tn)) (bt := (bt)) (v := (50)) (N := (40)) (f := (tr)) K1 K2 (by (simp only [bRuns, bMoves, bChills, bTells, List.length_cons, List.length_append, List.length_nil] at *; omega)) (by omega)) mk_X6_add dX7_tells_3 wd_844 wd_501 wd_502 rfl K1 rfl rfl rfl (Nat.le_of_ble_eq_true rfl) (Nat.le_of_ble_eq_true rfl) (Nat.le_of_ble_eq_true rfl) (by omega) (by omega) (fun q zh1 zm3 zp4 => ?_)
  obtain ⟨rfl, ze2, zn5⟩ := zp4
  subst zm3
  refine z_st (st' := []) rfl ?_
  have zK6 : zh1 a = some (.inr (7, [.int kd, .int nb, .int em])) := by rw [ze2]; rw [va_up_ne _ _ (show a ≠ r + 1 by omega)]; rw [va_up_ne _ _ (show a ≠ r by omega)]; exact K0
  have zK7 : zh1 r = some (.inr (6, [.ref (r + 1), .int (nI (tn + 1)), .int bt])) := by rw [ze2]; rw [va_up_ne _ _ (show r ≠ r + 1 by omega)]; exact va_up_self _ _ _
  have zK8 : zh1 (r + 1) = arI κ 40 (upd tr tn 50) := by rw [ze2]; exact va_up_self _ _ _
  refine z_aload_n X 0 dX7_tells_6 rfl ?_
  refine z_iload_n X 1 dX7_tells_7 rfl ?_
  refine z_aload_n X 2 dX7_tells_8 rfl ?_
  refine z_callSX (mid := "IcicleRings$Side") X (k_tells_0_4 (κ := κ) (n := n) (a := (a)) (kd := (kd)) (nb := (nb)) (em := (em)) (x := (x)) (r := (r)) (tn := (tn + 1)) (bt := (bt)) (tr := (upd tr tn 50)) zK6 zK7 zK8 (by first | assumption | omega) (by (simp only [bRuns, bMoves, bChills, bTells, List.length_cons, List.length_append, List.length_nil] at *; omega))) mk_X0_tells dX7_tells_9 wd_845 rfl wd_846 wd_381 (Or.inr ⟨wd_371, wd_361⟩) wd_829 (by decide) zK6 rfl rfl rfl (Nat.le_of_ble_eq_true rfl) (Nat.le_of_ble_eq_true rfl) (Nat.le_of_ble_eq_true rfl) (by omega) (by omega) (fun q zh9 zm11 zp12 => ?_)
  obtain ⟨rfl, ze10, zn13⟩ := zp12
  subst zm11
  refine z_st (st' := [.int (vTells 0 4 nb em x)]) rfl ?_
  have zK14 : zh9 a = some (.inr (7, [.int kd, .int nb, .int em])) := by rw [ze10]; rw [va_up_ne _ _ (show a ≠ r + 1 by omega)]; rw [va_up_ne _ _ (show a ≠ r by omega)]; exact zK6
  have zK15 : zh9 r = some (.inr (6, [.ref (r + 1), .int (nI ((tn + 1) + (bTells 0 4).length)), .int bt])) := by rw [ze10]; rw [va_up_ne _ _ (show r ≠ r + 1 by omega)]; exact va_up_self _ _ _
  have zK16 : zh9 (r + 1) = arI κ 40 (wrs (upd tr tn 50) (tn + 1) (bTells 0 4)) := by rw [ze10]; exact va_up_self _ _ _
  refine z_aload_n X 0 dX7_tells_12 rfl ?_
  refine z_iconst (v := 2) X dX7_tells_13 (by decide) ?_
  refine z_aload_n X 2 dX7_tells_14 rfl ?_
  refine z_callU X (k_runs_3_4 (κ := κ) (n := n) (a := (a)) (kd := (kd)) (nb := (nb)) (em := (em)) (x := (2)) (r := (r)) (tn := ((tn + 1) + (bTells 0 4).length)) (bt := (bt)) (tr := (wrs (upd tr tn 50) (tn + 1) (bTells 0 4))) zK14 zK15 zK16 (by first | assumption | omega) (by (simp only [bRuns, bMoves, bChills, bTells, List.length_cons, List.length_append, List.length_nil] at *; omega))) mk_X5_runs dX7_tells_15 wd_847 wd_848 wd_779 wd_780 wd_779 wd_850 (by decide) rfl zK14 rfl rfl rfl (Nat.le_of_ble_eq_true rfl) (Nat.le_of_ble_eq_true rfl) (Nat.le_of_ble_eq_true rfl) (by omega) (by omega) (fun q zh17 zm19 zp20 => ?_)
  obtain ⟨rfl, ze18, zn21⟩ := zp20
  subst zm19
  refine z_st (st' := [.int (vRuns 3 nb 2), .int (vTells 0 4 nb em x)]) rfl ?_
  have zK22 : zh17 a = some (.inr (7, [.int kd, .int nb, .int em])) := by rw [ze18]; rw [va_up_ne _ _ (show a ≠ r + 1 by omega)]; rw [va_up_ne _ _ (show a ≠ r by omega)]; exact zK14
  have zK23 : zh17 r = some (.inr (6, [.ref (r + 1), .int (nI (((tn + 1) + (bTells 0 4).length) + (bRuns 3).length)), .int bt])) := by rw [ze18]; rw [va_up_ne _ _ (show r ≠ r + 1 by omega)]; exact va_up_self _ _ _
  have zK24 : zh17 (r + 1) = arI κ 40 (wrs (wrs (upd tr tn 50) (tn + 1) (bTells 0 4)) ((tn + 1) + (bTells 0 4).length) (bRuns 3)) := by rw [ze18]; exact va_up_self _ _ _
  refine z_isub X dX7_tells_18 ?_
  refine z_iret X E dX7_tells_19 (by omega) (by omega) ⟨?_, ?_, ?_⟩
  · rfl
  · rw [show wrs tr tn (bTells 4 4) = wrs (wrs (upd tr tn 50) (tn + 1) (bTells 0 4)) ((tn + 1) + (bTells 0 4).length) (bRuns 3) from rfl, show tn + (bTells 4 4).length = ((tn + 1) + (bTells 0 4).length) + (bRuns 3).length from rfl]; funext zz; by_cases zq1 : zz = r + 1; (rw [zq1, va_up_self]; exact zK24); by_cases zq0 : zz = r; (rw [zq0, va_up_ne _ _ (show r ≠ r + 1 by omega), va_up_self]; exact zK23); rw [va_up_ne _ _ zq1, va_up_ne _ _ zq0]; rw [ze18, ze10, ze2]; simp only [va_up, if_neg zq0, if_neg zq1]
  · rfl
set_option maxHeartbeats 4000000 in
set_option maxRecDepth 100000 in
theorem k_tells_0_5 {κ : Wc} {l : Launch} {h : Mm} {n : Nat} {a : Nat} {kd : Int32} {nb : Int32} {em : Int32} {x : Int32} {r : Nat} {tn : Nat} {bt : Int32} {tr : Nat → Int32} (K0 : h a = some (.inr (4, [.int kd, .int nb, .int em]))) (K1 : h r = some (.inr (6, [.ref (r + 1), .int (nI tn), .int bt]))) (K2 : h (r + 1) = arI κ 40 tr) (p2 : r + 1 < a ∨ a < r) (p1 : tn + (bTells 0 5).length ≤ 40) : Con κ l yX0_tells cX0_tells 3 (some .int) 13 0 0 [.ref a, .int x, .ref r] h n (fun q h' n' => q = some (.int (vTells 0 5 nb em x)) ∧ h' = va_up (va_up h r (some (.inr (6, [.ref (r + 1), .int (nI (tn + (bTells 0 5).length)), .int bt])))) (r + 1) (arI κ 40 (wrs tr tn (bTells 0 5))) ∧ n' = n) := by
  refine Con.of mk_X0_tells (Nat.le_of_ble_eq_true rfl) (fun G hG X E => ?_)
  subst hG
  refine z_ls (ls' := [(0, .ref a), (1, .int x), (2, .ref r)]) rfl ?_
  refine z_aload_n X 2 dX0_tells_0 rfl ?_
  refine z_bipush (v := 13) X dX0_tells_1 (by decide) ?_
  refine z_callV X (c_Row_add (κ := κ) (n := n) (r := (r)) (k := (tn)) (bt := (bt)) (v := (13)) (N := (40)) (f := (tr)) K1 K2 (by (simp only [bRuns, bMoves, bChills, bTells, List.length_cons, List.length_append, List.length_nil] at *; omega)) (by omega)) mk_X6_add dX0_tells_3 wd_791 wd_501 wd_502 rfl K1 rfl rfl rfl (Nat.le_of_ble_eq_true rfl) (Nat.le_of_ble_eq_true rfl) (Nat.le_of_ble_eq_true rfl) (by omega) (by omega) (fun q zh1 zm3 zp4 => ?_)
  obtain ⟨rfl, ze2, zn5⟩ := zp4
  subst zm3
  refine z_st (st' := []) rfl ?_
  have zK6 : zh1 a = some (.inr (4, [.int kd, .int nb, .int em])) := by rw [ze2]; rw [va_up_ne _ _ (show a ≠ r + 1 by omega)]; rw [va_up_ne _ _ (show a ≠ r by omega)]; exact K0
  have zK7 : zh1 r = some (.inr (6, [.ref (r + 1), .int (nI (tn + 1)), .int bt])) := by rw [ze2]; rw [va_up_ne _ _ (show r ≠ r + 1 by omega)]; exact va_up_self _ _ _
  have zK8 : zh1 (r + 1) = arI κ 40 (upd tr tn 13) := by rw [ze2]; exact va_up_self _ _ _
  refine z_aload_n X 0 dX0_tells_6 rfl ?_
  refine z_iload_n X 1 dX0_tells_7 rfl ?_
  refine z_aload_n X 2 dX0_tells_8 rfl ?_
  refine z_callU X (k_chills_0_5 (κ := κ) (n := n) (a := (a)) (kd := (kd)) (nb := (nb)) (em := (em)) (x := (x)) (r := (r)) (tn := (tn + 1)) (bt := (bt)) (tr := (upd tr tn 13)) zK6 zK7 zK8 (by first | assumption | omega) (by (simp only [bRuns, bMoves, bChills, bTells, List.length_cons, List.length_append, List.length_nil] at *; omega))) mk_X0_chills dX0_tells_9 wd_854 wd_795 wd_793 wd_817 wd_793 wd_812 (by decide) rfl zK6 rfl rfl rfl (Nat.le_of_ble_eq_true rfl) (Nat.le_of_ble_eq_true rfl) (Nat.le_of_ble_eq_true rfl) (by omega) (by omega) (fun q zh9 zm11 zp12 => ?_)
  obtain ⟨rfl, ze10, zn13⟩ := zp12
  subst zm11
  refine z_st (st' := [.int (vChills 0 5 nb em x)]) rfl ?_
  have zK14 : zh9 a = some (.inr (4, [.int kd, .int nb, .int em])) := by rw [ze10]; rw [va_up_ne _ _ (show a ≠ r + 1 by omega)]; rw [va_up_ne _ _ (show a ≠ r by omega)]; exact zK6
  have zK15 : zh9 r = some (.inr (6, [.ref (r + 1), .int (nI ((tn + 1) + (bChills 0 5).length)), .int bt])) := by rw [ze10]; rw [va_up_ne _ _ (show r ≠ r + 1 by omega)]; exact va_up_self _ _ _
  have zK16 : zh9 (r + 1) = arI κ 40 (wrs (upd tr tn 13) (tn + 1) (bChills 0 5)) := by rw [ze10]; exact va_up_self _ _ _
  refine z_aload_n X 0 dX0_tells_12 rfl ?_
  refine z_iload_n X 1 dX0_tells_13 rfl ?_
  refine z_aload_n X 2 dX0_tells_14 rfl ?_
  refine z_callU X (k_moves_5_5 (κ := κ) (n := n) (a := (a)) (kd := (kd)) (nb := (nb)) (em := (em)) (x := (x)) (r := (r)) (tn := ((tn + 1) + (bChills 0 5).length)) (bt := (bt)) (tr := (wrs (upd tr tn 13) (tn + 1) (bChills 0 5))) zK14 zK15 zK16 (by first | assumption | omega) (by (simp only [bRuns, bMoves, bChills, bTells, List.length_cons, List.length_append, List.length_nil] at *; omega))) mk_X4_moves dX0_tells_15 wd_855 wd_1377 wd_810 wd_811 wd_820 wd_1380 (by decide) rfl zK14 rfl rfl rfl (Nat.le_of_ble_eq_true rfl) (Nat.le_of_ble_eq_true rfl) (Nat.le_of_ble_eq_true rfl) (by omega) (by omega) (fun q zh17 zm19 zp20 => ?_)
  obtain ⟨rfl, ze18, zn21⟩ := zp20
  subst zm19
  refine z_st (st' := [.int (vMoves 5 nb em x), .int (vChills 0 5 nb em x)]) rfl ?_
  have zK22 : zh17 a = some (.inr (4, [.int kd, .int nb, .int em])) := by rw [ze18]; rw [va_up_ne _ _ (show a ≠ r + 1 by omega)]; rw [va_up_ne _ _ (show a ≠ r by omega)]; exact zK14
  have zK23 : zh17 r = some (.inr (6, [.ref (r + 1), .int (nI (((tn + 1) + (bChills 0 5).length) + (bMoves 5).length)), .int bt])) := by rw [ze18]; rw [va_up_ne _ _ (show r ≠ r + 1 by omega)]; exact va_up_self _ _ _
  have zK24 : zh17 (r + 1) = arI κ 40 (wrs (wrs (upd tr tn 13) (tn + 1) (bChills 0 5)) ((tn + 1) + (bChills 0 5).length) (bMoves 5)) := by rw [ze18]; exact va_up_self _ _ _
  refine z_ixor X dX0_tells_18 ?_
  refine z_iret X E dX0_tells_19 (by omega) (by omega) ⟨?_, ?_, ?_⟩
  · rfl
  · rw [show wrs tr tn (bTells 0 5) = wrs (wrs (upd tr tn 13) (tn + 1) (bChills 0 5)) ((tn + 1) + (bChills 0 5).length) (bMoves 5) from rfl, show tn + (bTells 0 5).length = ((tn + 1) + (bChills 0 5).length) + (bMoves 5).length from rfl]; funext zz; by_cases zq1 : zz = r + 1; (rw [zq1, va_up_self]; exact zK24); by_cases zq0 : zz = r; (rw [zq0, va_up_ne _ _ (show r ≠ r + 1 by omega), va_up_self]; exact zK23); rw [va_up_ne _ _ zq1, va_up_ne _ _ zq0]; rw [ze18, ze10, ze2]; simp only [va_up, if_neg zq0, if_neg zq1]
  · rfl
set_option maxHeartbeats 4000000 in
set_option maxRecDepth 100000 in
theorem k_tells_0_6 {κ : Wc} {l : Launch} {h : Mm} {n : Nat} {a : Nat} {kd : Int32} {nb : Int32} {em : Int32} {x : Int32} {r : Nat} {tn : Nat} {bt : Int32} {tr : Nat → Int32} (K0 : h a = some (.inr (1, [.int kd, .int nb, .int em]))) (K1 : h r = some (.inr (6, [.ref (r + 1), .int (nI tn), .int bt]))) (K2 : h (r + 1) = arI κ 40 tr) (p2 : r + 1 < a ∨ a < r) (p1 : tn + (bTells 0 6).length ≤ 40) : Con κ l yX0_tells cX0_tells 3 (some .int) 13 0 0 [.ref a, .int x, .ref r] h n (fun q h' n' => q = some (.int (vTells 0 6 nb em x)) ∧ h' = va_up (va_up h r (some (.inr (6, [.ref (r + 1), .int (nI (tn + (bTells 0 6).length)), .int bt])))) (r + 1) (arI κ 40 (wrs tr tn (bTells 0 6))) ∧ n' = n) := by
  refine Con.of mk_X0_tells (Nat.le_of_ble_eq_true rfl) (fun G hG X E => ?_)
  subst hG
  refine z_ls (ls' := [(0, .ref a), (1, .int x), (2, .ref r)]) rfl ?_
  refine z_aload_n X 2 dX0_tells_0 rfl ?_
  refine z_bipush (v := 13) X dX0_tells_1 (by decide) ?_
  refine z_callV X (c_Row_add (κ := κ) (n := n) (r := (r)) (k := (tn)) (bt := (bt)) (v := (13)) (N := (40)) (f := (tr)) K1 K2 (by (simp only [bRuns, bMoves, bChills, bTells, List.length_cons, List.length_append, List.length_nil] at *; omega)) (by omega)) mk_X6_add dX0_tells_3 wd_791 wd_501 wd_502 rfl K1 rfl rfl rfl (Nat.le_of_ble_eq_true rfl) (Nat.le_of_ble_eq_true rfl) (Nat.le_of_ble_eq_true rfl) (by omega) (by omega) (fun q zh1 zm3 zp4 => ?_)
  obtain ⟨rfl, ze2, zn5⟩ := zp4
  subst zm3
  refine z_st (st' := []) rfl ?_
  have zK6 : zh1 a = some (.inr (1, [.int kd, .int nb, .int em])) := by rw [ze2]; rw [va_up_ne _ _ (show a ≠ r + 1 by omega)]; rw [va_up_ne _ _ (show a ≠ r by omega)]; exact K0
  have zK7 : zh1 r = some (.inr (6, [.ref (r + 1), .int (nI (tn + 1)), .int bt])) := by rw [ze2]; rw [va_up_ne _ _ (show r ≠ r + 1 by omega)]; exact va_up_self _ _ _
  have zK8 : zh1 (r + 1) = arI κ 40 (upd tr tn 13) := by rw [ze2]; exact va_up_self _ _ _
  refine z_aload_n X 0 dX0_tells_6 rfl ?_
  refine z_iload_n X 1 dX0_tells_7 rfl ?_
  refine z_aload_n X 2 dX0_tells_8 rfl ?_
  refine z_callU X (k_chills_6_6 (κ := κ) (n := n) (a := (a)) (kd := (kd)) (nb := (nb)) (em := (em)) (x := (x)) (r := (r)) (tn := (tn + 1)) (bt := (bt)) (tr := (upd tr tn 13)) zK6 zK7 zK8 (by first | assumption | omega) (by (simp only [bRuns, bMoves, bChills, bTells, List.length_cons, List.length_append, List.length_nil] at *; omega))) mk_X1_chills dX0_tells_9 wd_854 wd_795 wd_793 wd_817 wd_797 wd_796 (by decide) rfl zK6 rfl rfl rfl (Nat.le_of_ble_eq_true rfl) (Nat.le_of_ble_eq_true rfl) (Nat.le_of_ble_eq_true rfl) (by omega) (by omega) (fun q zh9 zm11 zp12 => ?_)
  obtain ⟨rfl, ze10, zn13⟩ := zp12
  subst zm11
  refine z_st (st' := [.int (vChills 6 6 nb em x)]) rfl ?_
  have zK14 : zh9 a = some (.inr (1, [.int kd, .int nb, .int em])) := by rw [ze10]; rw [va_up_ne _ _ (show a ≠ r + 1 by omega)]; rw [va_up_ne _ _ (show a ≠ r by omega)]; exact zK6
  have zK15 : zh9 r = some (.inr (6, [.ref (r + 1), .int (nI ((tn + 1) + (bChills 6 6).length)), .int bt])) := by rw [ze10]; rw [va_up_ne _ _ (show r ≠ r + 1 by omega)]; exact va_up_self _ _ _
  have zK16 : zh9 (r + 1) = arI κ 40 (wrs (upd tr tn 13) (tn + 1) (bChills 6 6)) := by rw [ze10]; exact va_up_self _ _ _
  refine z_aload_n X 0 dX0_tells_12 rfl ?_
  refine z_iload_n X 1 dX0_tells_13 rfl ?_
  refine z_aload_n X 2 dX0_tells_14 rfl ?_
  refine z_callU X (k_moves_0_6 (κ := κ) (n := n) (a := (a)) (kd := (kd)) (nb := (nb)) (em := (em)) (x := (x)) (r := (r)) (tn := ((tn + 1) + (bChills 6 6).length)) (bt := (bt)) (tr := (wrs (upd tr tn 13) (tn + 1) (bChills 6 6))) zK14 zK15 zK16 (by first | assumption | omega) (by (simp only [bRuns, bMoves, bChills, bTells, List.length_cons, List.length_append, List.length_nil] at *; omega))) mk_X0_moves dX0_tells_15 wd_855 wd_1377 wd_810 wd_811 wd_810 wd_1379 (by decide) rfl zK14 rfl rfl rfl (Nat.le_of_ble_eq_true rfl) (Nat.le_of_ble_eq_true rfl) (Nat.le_of_ble_eq_true rfl) (by omega) (by omega) (fun q zh17 zm19 zp20 => ?_)
  obtain ⟨rfl, ze18, zn21⟩ := zp20
  subst zm19
  refine z_st (st' := [.int (vMoves 0 nb em x), .int (vChills 6 6 nb em x)]) rfl ?_
  have zK22 : zh17 a = some (.inr (1, [.int kd, .int nb, .int em])) := by rw [ze18]; rw [va_up_ne _ _ (show a ≠ r + 1 by omega)]; rw [va_up_ne _ _ (show a ≠ r by omega)]; exact zK14
  have zK23 : zh17 r = some (.inr (6, [.ref (r + 1), .int (nI (((tn + 1) + (bChills 6 6).length) + (bMoves 0).length)), .int bt])) := by rw [ze18]; rw [va_up_ne _ _ (show r ≠ r + 1 by omega)]; exact va_up_self _ _ _
  have zK24 : zh17 (r + 1) = arI κ 40 (wrs (wrs (upd tr tn 13) (tn + 1) (bChills 6 6)) ((tn + 1) + (bChills 6 6).length) (bMoves 0)) := by rw [ze18]; exact va_up_self _ _ _
  refine z_ixor X dX0_tells_18 ?_
  refine z_iret X E dX0_tells_19 (by omega) (by omega) ⟨?_, ?_, ?_⟩
  · rfl
  · rw [show wrs tr tn (bTells 0 6) = wrs (wrs (upd tr tn 13) (tn + 1) (bChills 6 6)) ((tn + 1) + (bChills 6 6).length) (bMoves 0) from rfl, show tn + (bTells 0 6).length = ((tn + 1) + (bChills 6 6).length) + (bMoves 0).length from rfl]; funext zz; by_cases zq1 : zz = r + 1; (rw [zq1, va_up_self]; exact zK24); by_cases zq0 : zz = r; (rw [zq0, va_up_ne _ _ (show r ≠ r + 1 by omega), va_up_self]; exact zK23); rw [va_up_ne _ _ zq1, va_up_ne _ _ zq0]; rw [ze18, ze10, ze2]; simp only [va_up, if_neg zq0, if_neg zq1]
  · rfl
set_option maxHeartbeats 4000000 in
set_option maxRecDepth 100000 in
theorem k_tells_6_6 {κ : Wc} {l : Launch} {h : Mm} {n : Nat} {a : Nat} {kd : Int32} {nb : Int32} {em : Int32} {x : Int32} {r : Nat} {tn : Nat} {bt : Int32} {tr : Nat → Int32} (K0 : h a = some (.inr (1, [.int kd, .int nb, .int em]))) (K1 : h r = some (.inr (6, [.ref (r + 1), .int (nI tn), .int bt]))) (K2 : h (r + 1) = arI κ 40 tr) (p2 : r + 1 < a ∨ a < r) (p1 : tn + (bTells 6 6).length ≤ 40) : Con κ l yX1_tells cX1_tells 3 (some .int) 15 0 0 [.ref a, .int x, .ref r] h n (fun q h' n' => q = some (.int (vTells 6 6 nb em x)) ∧ h' = va_up (va_up h r (some (.inr (6, [.ref (r + 1), .int (nI (tn + (bTells 6 6).length)), .int bt])))) (r + 1) (arI κ 40 (wrs tr tn (bTells 6 6))) ∧ n' = n) := by
  refine Con.of mk_X1_tells (Nat.le_of_ble_eq_true rfl) (fun G hG X E => ?_)
  subst hG
  refine z_ls (ls' := [(0, .ref a), (1, .int x), (2, .ref r)]) rfl ?_
  refine z_aload_n X 2 dX1_tells_0 rfl ?_
  refine z_bipush (v := 71) X dX1_tells_1 (by decide) ?_
  refine z_callV X (c_Row_add (κ := κ) (n := n) (r := (r)) (k := (tn)) (bt := (bt)) (v := (71)) (N := (40)) (f := (tr)) K1 K2 (by (simp only [bRuns, bMoves, bChills, bTells, List.length_cons, List.length_append, List.length_nil] at *; omega)) (by omega)) mk_X6_add dX1_tells_3 wd_799 wd_501 wd_502 rfl K1 rfl rfl rfl (Nat.le_of_ble_eq_true rfl) (Nat.le_of_ble_eq_true rfl) (Nat.le_of_ble_eq_true rfl) (by omega) (by omega) (fun q zh1 zm3 zp4 => ?_)
  obtain ⟨rfl, ze2, zn5⟩ := zp4
  subst zm3
  refine z_st (st' := []) rfl ?_
  have zK6 : zh1 a = some (.inr (1, [.int kd, .int nb, .int em])) := by rw [ze2]; rw [va_up_ne _ _ (show a ≠ r + 1 by omega)]; rw [va_up_ne _ _ (show a ≠ r by omega)]; exact K0
  have zK7 : zh1 r = some (.inr (6, [.ref (r + 1), .int (nI (tn + 1)), .int bt])) := by rw [ze2]; rw [va_up_ne _ _ (show r ≠ r + 1 by omega)]; exact va_up_self _ _ _
  have zK8 : zh1 (r + 1) = arI κ 40 (upd tr tn 71) := by rw [ze2]; exact va_up_self _ _ _
  refine z_aload_n X 0 dX1_tells_6 rfl ?_
  refine z_iload_n X 1 dX1_tells_7 rfl ?_
  refine z_aload_n X 2 dX1_tells_8 rfl ?_
  refine z_callV X (k_chills_6_6 (κ := κ) (n := n) (a := (a)) (kd := (kd)) (nb := (nb)) (em := (em)) (x := (x)) (r := (r)) (tn := (tn + 1)) (bt := (bt)) (tr := (upd tr tn 71)) zK6 zK7 zK8 (by first | assumption | omega) (by (simp only [bRuns, bMoves, bChills, bTells, List.length_cons, List.length_append, List.length_nil] at *; omega))) mk_X1_chills dX1_tells_9 wd_835 wd_797 wd_1385 rfl zK6 rfl rfl rfl (Nat.le_of_ble_eq_true rfl) (Nat.le_of_ble_eq_true rfl) (Nat.le_of_ble_eq_true rfl) (by omega) (by omega) (fun q zh9 zm11 zp12 => ?_)
  obtain ⟨rfl, ze10, zn13⟩ := zp12
  subst zm11
  refine z_st (st' := [.int (vChills 6 6 nb em x)]) rfl ?_
  have zK14 : zh9 a = some (.inr (1, [.int kd, .int nb, .int em])) := by rw [ze10]; rw [va_up_ne _ _ (show a ≠ r + 1 by omega)]; rw [va_up_ne _ _ (show a ≠ r by omega)]; exact zK6
  have zK15 : zh9 r = some (.inr (6, [.ref (r + 1), .int (nI ((tn + 1) + (bChills 6 6).length)), .int bt])) := by rw [ze10]; rw [va_up_ne _ _ (show r ≠ r + 1 by omega)]; exact va_up_self _ _ _
  have zK16 : zh9 (r + 1) = arI κ 40 (wrs (upd tr tn 71) (tn + 1) (bChills 6 6)) := by rw [ze10]; exact va_up_self _ _ _
  refine z_aload_n X 0 dX1_tells_12 rfl ?_
  refine z_iload_n X 1 dX1_tells_13 rfl ?_
  refine z_aload_n X 2 dX1_tells_14 rfl ?_
  refine z_callSX (mid := "") X (k_tells_0_6 (κ := κ) (n := n) (a := (a)) (kd := (kd)) (nb := (nb)) (em := (em)) (x := (x)) (r := (r)) (tn := ((tn + 1) + (bChills 6 6).length)) (bt := (bt)) (tr := (wrs (upd tr tn 71) (tn + 1) (bChills 6 6))) zK14 zK15 zK16 (by first | assumption | omega) (by (simp only [bRuns, bMoves, bChills, bTells, List.length_cons, List.length_append, List.length_nil] at *; omega))) mk_X0_tells dX1_tells_15 wd_836 rfl wd_837 wd_401 (Or.inl wd_351) wd_829 (by decide) zK14 rfl rfl rfl (Nat.le_of_ble_eq_true rfl) (Nat.le_of_ble_eq_true rfl) (Nat.le_of_ble_eq_true rfl) (by omega) (by omega) (fun q zh17 zm19 zp20 => ?_)
  obtain ⟨rfl, ze18, zn21⟩ := zp20
  subst zm19
  refine z_st (st' := [.int (vTells 0 6 nb em x), .int (vChills 6 6 nb em x)]) rfl ?_
  have zK22 : zh17 a = some (.inr (1, [.int kd, .int nb, .int em])) := by rw [ze18]; rw [va_up_ne _ _ (show a ≠ r + 1 by omega)]; rw [va_up_ne _ _ (show a ≠ r by omega)]; exact zK14
  have zK23 : zh17 r = some (.inr (6, [.ref (r + 1), .int (nI (((tn + 1) + (bChills 6 6).length) + (bTells 0 6).length)), .int bt])) := by rw [ze18]; rw [va_up_ne _ _ (show r ≠ r + 1 by omega)]; exact va_up_self _ _ _
  have zK24 : zh17 (r + 1) = arI κ 40 (wrs (wrs (upd tr tn 71) (tn + 1) (bChills 6 6)) ((tn + 1) + (bChills 6 6).length) (bTells 0 6)) := by rw [ze18]; exact va_up_self _ _ _
  refine z_isub X dX1_tells_18 ?_
  refine z_iret X E dX1_tells_19 (by omega) (by omega) ⟨?_, ?_, ?_⟩
  · rfl
  · rw [show wrs tr tn (bTells 6 6) = wrs (wrs (upd tr tn 71) (tn + 1) (bChills 6 6)) ((tn + 1) + (bChills 6 6).length) (bTells 0 6) from rfl, show tn + (bTells 6 6).length = ((tn + 1) + (bChills 6 6).length) + (bTells 0 6).length from rfl]; funext zz; by_cases zq1 : zz = r + 1; (rw [zq1, va_up_self]; exact zK24); by_cases zq0 : zz = r; (rw [zq0, va_up_ne _ _ (show r ≠ r + 1 by omega), va_up_self]; exact zK23); rw [va_up_ne _ _ zq1, va_up_ne _ _ zq0]; rw [ze18, ze10, ze2]; simp only [va_up, if_neg zq0, if_neg zq1]
  · rfl
