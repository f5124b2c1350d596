set_option maxHeartbeats 4000000 in
set_option maxRecDepth 100000 in
theorem c_Rings_init {κ : Wc} {l : Launch} {h : Mm} {o : Nat} (K0 : h o = some (.inr (11, [.null, .null, .null, .null, .null, .null, .null, .null, .null, .int 0])))  : Con κ l yX11_init cX11_init 2 none 4 61 1094 [.ref o] h (o + 1) (fun q h' n' => q = none ∧ n' = o + 62 ∧ (∀ zq : Nat, zq < o → h' zq = h zq) ∧ h' o = some (.inr (11, [.ref (o + 1), .ref (o + 14), .ref (o + 27), .ref (o + 33), .ref (o + 42), .ref (o + 55), .ref (o + 57), .ref (o + 59), .ref (o + 61), .int 0])) ∧ h' (o + 1) = some (.inr (3, [.ref (o + 1 + 1), .ref (o + 1 + 7), .ref (o + 1 + 9), .ref (o + 1 + 11), .int (dIni 13)])) ∧ h' (o + 2) = some (.inr (2, [.ref (o + 3), .ref (o + 4), .ref (o + 5), .ref (o + 6), .ref (o + 7), .int (nI 1), .int (dIni 0), .int (dIni 2), .int (dIni 3), .int (nI 0), .int (dIni 10), .int 0, .int 0])) ∧ h' (o + 3) = arI κ 40 (win 100 40 dIni) ∧ h' (o + 4) = arI κ 40 (win 140 40 dIni) ∧ h' (o + 5) = arI κ 6 (win 4 6 dIni) ∧ h' (o + 6) = arR κ 1 6 (fun _ => none) ∧ h' (o + 7) = arR κ 2 2 (fun _ => none) ∧ h' (o + 8) = some (.inr (6, [.ref (o + 8 + 1), .int (nI 0), .int 32])) ∧ h' (o + 9) = arI κ 50 (fun _ => 0) ∧ h' (o + 10) = some (.inr (6, [.ref (o + 10 + 1), .int (nI 0), .int 32])) ∧ h' (o + 11) = arI κ 20 (fun _ => 0) ∧ h' (o + 12) = some (.inr (6, [.ref (o + 12 + 1), .int (nI (3 * 0)), .int 32])) ∧ h' (o + 13) = arI κ 15 (fun _ => 0) ∧ h' (o + 14) = some (.inr (3, [.ref (o + 14 + 1), .ref (o + 14 + 7), .ref (o + 14 + 9), .ref (o + 14 + 11), .int (dIni 13)])) ∧ h' (o + 15) = some (.inr (2, [.ref (o + 16), .ref (o + 17), .ref (o + 18), .ref (o + 19), .ref (o + 20), .int (nI 1), .int (dIni 0), .int (dIni 2), .int (dIni 3), .int (nI 0), .int (dIni 10), .int 0, .int 0])) ∧ h' (o + 16) = arI κ 40 (win 100 40 dIni) ∧ h' (o + 17) = arI κ 40 (win 140 40 dIni) ∧ h' (o + 18) = arI κ 6 (win 4 6 dIni) ∧ h' (o + 19) = arR κ 1 6 (fun _ => none) ∧ h' (o + 20) = arR κ 2 2 (fun _ => none) ∧ h' (o + 21) = some (.inr (6, [.ref (o + 21 + 1), .int (nI 0), .int 32])) ∧ h' (o + 22) = arI κ 50 (fun _ => 0) ∧ h' (o + 23) = some (.inr (6, [.ref (o + 23 + 1), .int (nI 0), .int 32])) ∧ h' (o + 24) = arI κ 20 (fun _ => 0) ∧ h' (o + 25) = some (.inr (6, [.ref (o + 25 + 1), .int (nI (3 * 0)), .int 32])) ∧ h' (o + 26) = arI κ 15 (fun _ => 0) ∧ h' (o + 27) = some (.inr (2, [.ref (o + 28), .ref (o + 29), .ref (o + 30), .ref (o + 31), .ref (o + 32), .int (nI 1), .int (dIni 0), .int (dIni 2), .int (dIni 3), .int (nI 0), .int (dIni 10), .int 0, .int 0])) ∧ h' (o + 28) = arI κ 40 (win 100 40 dIni) ∧ h' (o + 29) = arI κ 40 (win 140 40 dIni) ∧ h' (o + 30) = arI κ 6 (win 4 6 dIni) ∧ h' (o + 31) = arR κ 1 6 (fun _ => none) ∧ h' (o + 32) = arR κ 2 2 (fun _ => none) ∧ h' (o + 33) = arR κ 3 4 (shF o) ∧ h' (o + 34) = some (.inr (6, [.ref (o + 34 + 1), .int (nI 0), .int 0])) ∧ h' (o + 35) = arI κ 40 (fun _ => 0) ∧ h' (o + 36) = some (.inr (6, [.ref (o + 36 + 1), .int (nI 0), .int 0])) ∧ h' (o + 37) = arI κ 40 (fun _ => 0) ∧ h' (o + 38) = some (.inr (6, [.ref (o + 38 + 1), .int (nI 0), .int 0])) ∧ h' (o + 39) = arI κ 40 (fun _ => 0) ∧ h' (o + 40) = some (.inr (6, [.ref (o + 40 + 1), .int (nI 0), .int 0])) ∧ h' (o + 41) = arI κ 40 (fun _ => 0) ∧ h' (o + 42) = arR κ 3 6 (grF o) ∧ h' (o + 43) = some (.inr (6, [.ref (o + 43 + 1), .int (nI 0), .int 32])) ∧ h' (o + 44) = arI κ 40 (fun _ => 0) ∧ h' (o + 45) = some (.inr (6, [.ref (o + 45 + 1), .int (nI 0), .int 32])) ∧ h' (o + 46) = arI κ 40 (fun _ => 0) ∧ h' (o + 47) = some (.inr (6, [.ref (o + 47 + 1), .int (nI 0), .int 32])) ∧ h' (o + 48) = arI κ 40 (fun _ => 0) ∧ h' (o + 49) = some (.inr (6, [.ref (o + 49 + 1), .int (nI 0), .int 32])) ∧ h' (o + 50) = arI κ 40 (fun _ => 0) ∧ h' (o + 51) = some (.inr (6, [.ref (o + 51 + 1), .int (nI 0), .int 32])) ∧ h' (o + 52) = arI κ 40 (fun _ => 0) ∧ h' (o + 53) = some (.inr (6, [.ref (o + 53 + 1), .int (nI 0), .int 32])) ∧ h' (o + 54) = arI κ 40 (fun _ => 0) ∧ h' (o + 55) = some (.inr (6, [.ref (o + 55 + 1), .int (nI 0), .int 32])) ∧ h' (o + 56) = arI κ 40 (fun _ => 0) ∧ h' (o + 57) = some (.inr (6, [.ref (o + 57 + 1), .int (nI 0), .int 32])) ∧ h' (o + 58) = arI κ 40 (fun _ => 0) ∧ h' (o + 59) = some (.inr (6, [.ref (o + 59 + 1), .int (nI 0), .int 32])) ∧ h' (o + 60) = arI κ 40 (fun _ => 0) ∧ h' (o + 61) = arI κ 6 (fun _ => 0)) := by
  refine Con.of mk_X11_init (Nat.le_of_ble_eq_true rfl) (fun G hG X E => ?_)
  subst hG
  refine z_ls (ls' := [(0, .ref o)]) rfl ?_
  refine z_aload_n X 0 dX11_init_0 rfl ?_
  refine z_objInit X dX11_init_1 wd_79 wd_80 wd_81 (Nat.le_of_ble_eq_true rfl) (Nat.le_of_ble_eq_true rfl) ?_
  refine z_aload_n X 0 dX11_init_4 rfl ?_
  refine z_new X fn_X3 dX11_init_5 wd_82 (by omega) (by omega) ?_
  obtain ⟨zh1, ze2⟩ : ∃ z : Mm, z = va_up h (o + 1) (some (.inr (3, [.null, .null, .null, .null, .int 0]))) := ⟨_, rfl⟩
  refine z_heap (h' := zh1) ze2.symm ?_
  have zK3 := up_off ze2 (show o ≠ o + 1 by omega) K0
  have zK4 := up_at ze2
  have zl5 : ∀ zq : Nat, zq < o → zh1 zq = h zq := by intro zq hzq; rw [ze2, va_up_ne _ _ (show zq ≠ o + 1 by omega)]; try rfl
  refine z_dup X dX11_init_8 rfl ?_
  refine z_callIN (host := "IcicleRings") X (c_Kept_init (κ := κ) (k := (o + 1)) zK4 ) mk_X3_init dX11_init_9 (by decide +kernel) wd_85 rfl rfl rfl (Nat.le_of_ble_eq_true rfl) (Nat.le_of_ble_eq_true rfl) (Nat.le_of_ble_eq_true rfl) (by omega) (by omega) (fun q zh6 zm8 zp9 => ?_)
  obtain ⟨rfl, zn10, zf11, zK12, zK13, zK14, zK15, zK16, zK17, zK18, zK19, zK20, zK21, zK22, zK23, zK24⟩ := zp9
  subst zm8
  refine z_st (st' := [.ref (o + 1), .ref o]) rfl ?_
  have zK25 : zh6 o = some (.inr (11, [.null, .null, .null, .null, .null, .null, .null, .null, .null, .int 0])) := (zf11 o (by omega)).trans zK3
  have zl26 : ∀ zq : Nat, zq < o → zh6 zq = h zq := by intro zq hzq; rw [zf11 zq (by omega)]; exact zl5 zq hzq
  refine z_putF X E fp_X11_10_11 dX11_init_12 zK25 (by first | rfl | decide) (by first | rfl | decide) (Nat.le_of_ble_eq_true rfl) rfl ?_
  obtain ⟨zh27, ze28⟩ : ∃ z : Mm, z = va_up zh6 o (some (.inr (11, [.ref (o + 1), .null, .null, .null, .null, .null, .null, .null, .null, .int 0]))) := ⟨_, rfl⟩
  refine z_heap (h' := zh27) ze28.symm ?_
  have zK29 := up_at ze28
  have zK30 := up_off ze28 (show o + 1 ≠ o by omega) zK12
  have zK31 := up_off ze28 (show o + 2 ≠ o by omega) zK13
  have zK32 := up_off ze28 (show o + 3 ≠ o by omega) zK14
  have zK33 := up_off ze28 (show o + 4 ≠ o by omega) zK15
  have zK34 := up_off ze28 (show o + 5 ≠ o by omega) zK16
  have zK35 := up_off ze28 (show o + 6 ≠ o by omega) zK17
  have zK36 := up_off ze28 (show o + 7 ≠ o by omega) zK18
  have zK37 := up_off ze28 (show o + 8 ≠ o by omega) zK19
  have zK38 := up_off ze28 (show o + 9 ≠ o by omega) zK20
  have zK39 := up_off ze28 (show o + 10 ≠ o by omega) zK21
  have zK40 := up_off ze28 (show o + 11 ≠ o by omega) zK22
  have zK41 := up_off ze28 (show o + 12 ≠ o by omega) zK23
  have zK42 := up_off ze28 (show o + 13 ≠ o by omega) zK24
  have zl43 : ∀ zq : Nat, zq < o → zh27 zq = h zq := by intro zq hzq; rw [ze28, va_up_ne _ _ (show zq ≠ o by omega)]; exact zl26 zq hzq
  have zw44 : ∀ zq : Nat, o + 1 ≤ zq → zq < o + 14 → zh27 zq = zh27 zq := fun _ _ _ => rfl
  refine z_aload_n X 0 dX11_init_15 rfl ?_
  refine z_new X fn_X3 dX11_init_16 wd_82 (by omega) (by omega) ?_
  obtain ⟨zh45, ze46⟩ : ∃ z : Mm, z = va_up zh27 (o + 14) (some (.inr (3, [.null, .null, .null, .null, .int 0]))) := ⟨_, rfl⟩
  refine z_heap (h' := zh45) ze46.symm ?_
  have zK47 := up_off ze46 (show o ≠ o + 14 by omega) zK29
  have zK48 := up_at ze46
  have zl49 : ∀ zq : Nat, zq < o → zh45 zq = h zq := by intro zq hzq; rw [ze46, va_up_ne _ _ (show zq ≠ o + 14 by omega)]; exact zl43 zq hzq
  have zw50 : ∀ zq : Nat, o + 1 ≤ zq → zq < o + 14 → zh45 zq = zh27 zq := by intro zq hq1 hq2; rw [ze46, va_up_ne _ _ (show zq ≠ o + 14 by omega)]; try exact zw44 zq hq1 hq2
  refine z_dup X dX11_init_19 rfl ?_
  refine z_callIN (host := "IcicleRings") X (c_Kept_init (κ := κ) (k := (o + 14)) zK48 ) mk_X3_init dX11_init_20 (by decide +kernel) wd_85 rfl rfl rfl (Nat.le_of_ble_eq_true rfl) (Nat.le_of_ble_eq_true rfl) (Nat.le_of_ble_eq_true rfl) (by omega) (by omega) (fun q zh51 zm53 zp54 => ?_)
  obtain ⟨rfl, zn55, zf56, zK57, zK58, zK59, zK60, zK61, zK62, zK63, zK64, zK65, zK66, zK67, zK68, zK69⟩ := zp54
  subst zm53
  refine z_st (st' := [.ref (o + 14), .ref o]) rfl ?_
  have zK70 : zh51 o = some (.inr (11, [.ref (o + 1), .null, .null, .null, .null, .null, .null, .null, .null, .int 0])) := (zf56 o (by omega)).trans zK47
  have zl71 : ∀ zq : Nat, zq < o → zh51 zq = h zq := by intro zq hzq; rw [zf56 zq (by omega)]; exact zl49 zq hzq
  have zw72 : ∀ zq : Nat, o + 1 ≤ zq → zq < o + 14 → zh51 zq = zh27 zq := by intro zq hq1 hq2; rw [zf56 zq (by omega)]; try exact zw50 zq hq1 hq2
  refine z_putF X E fp_X11_16_11 dX11_init_23 zK70 (by first | rfl | decide) (by first | rfl | decide) (Nat.le_of_ble_eq_true rfl) rfl ?_
  obtain ⟨zh73, ze74⟩ : ∃ z : Mm, z = va_up zh51 o (some (.inr (11, [.ref (o + 1), .ref (o + 14), .null, .null, .null, .null, .null, .null, .null, .int 0]))) := ⟨_, rfl⟩
  refine z_heap (h' := zh73) ze74.symm ?_
  have zK75 := up_at ze74
  have zK76 := up_off ze74 (show o + 14 ≠ o by omega) zK57
  have zK77 := up_off ze74 (show o + 15 ≠ o by omega) zK58
  have zK78 := up_off ze74 (show o + 16 ≠ o by omega) zK59
  have zK79 := up_off ze74 (show o + 17 ≠ o by omega) zK60
  have zK80 := up_off ze74 (show o + 18 ≠ o by omega) zK61
  have zK81 := up_off ze74 (show o + 19 ≠ o by omega) zK62
  have zK82 := up_off ze74 (show o + 20 ≠ o by omega) zK63
  have zK83 := up_off ze74 (show o + 21 ≠ o by omega) zK64
  have zK84 := up_off ze74 (show o + 22 ≠ o by omega) zK65
  have zK85 := up_off ze74 (show o + 23 ≠ o by omega) zK66
  have zK86 := up_off ze74 (show o + 24 ≠ o by omega) zK67
  have zK87 := up_off ze74 (show o + 25 ≠ o by omega) zK68
  have zK88 := up_off ze74 (show o + 26 ≠ o by omega) zK69
  have zl89 : ∀ zq : Nat, zq < o → zh73 zq = h zq := by intro zq hzq; rw [ze74, va_up_ne _ _ (show zq ≠ o by omega)]; exact zl71 zq hzq
  have zw90 : ∀ zq : Nat, o + 1 ≤ zq → zq < o + 14 → zh73 zq = zh27 zq := by intro zq hq1 hq2; rw [ze74, va_up_ne _ _ (show zq ≠ o by omega)]; try exact zw72 zq hq1 hq2
  have zw91 : ∀ zq : Nat, o + 1 ≤ zq → zq < o + 27 → zh73 zq = zh73 zq := fun _ _ _ => rfl
  refine z_aload_n X 0 dX11_init_26 rfl ?_
  refine z_new X fn_X2 dX11_init_27 wd_212 (by omega) (by omega) ?_
  obtain ⟨zh92, ze93⟩ : ∃ z : Mm, z = va_up zh73 (o + 27) (some (.inr (2, [.null, .null, .null, .null, .null, .int 0, .int 0, .int 0, .int 0, .int 0, .int 0, .int 0, .int 0]))) := ⟨_, rfl⟩
  refine z_heap (h' := zh92) ze93.symm ?_
  have zK94 := up_off ze93 (show o ≠ o + 27 by omega) zK75
  have zK95 := up_at ze93
  have zl96 : ∀ zq : Nat, zq < o → zh92 zq = h zq := by intro zq hzq; rw [ze93, va_up_ne _ _ (show zq ≠ o + 27 by omega)]; exact zl89 zq hzq
  have zw97 : ∀ zq : Nat, o + 1 ≤ zq → zq < o + 27 → zh92 zq = zh73 zq := by intro zq hq1 hq2; rw [ze93, va_up_ne _ _ (show zq ≠ o + 27 by omega)]; try exact zw91 zq hq1 hq2
  refine z_dup X dX11_init_30 rfl ?_
  refine z_callI X (c_Icicle_init (κ := κ) (i := (o + 27)) zK95 ) mk_X2_init dX11_init_31 wd_213 wd_91 rfl rfl rfl (Nat.le_of_ble_eq_true rfl) (Nat.le_of_ble_eq_true rfl) (Nat.le_of_ble_eq_true rfl) (by omega) (by omega) (fun q zh98 zm100 zp101 => ?_)
  obtain ⟨rfl, zn102, zf103, zK104, zK105, zK106, zK107, zK108, zK109⟩ := zp101
  subst zm100
  refine z_st (st' := [.ref (o + 27), .ref o]) rfl ?_
  have zK110 : zh98 o = some (.inr (11, [.ref (o + 1), .ref (o + 14), .null, .null, .null, .null, .null, .null, .null, .int 0])) := (zf103 o (by omega)).trans zK94
  have zl111 : ∀ zq : Nat, zq < o → zh98 zq = h zq := by intro zq hzq; rw [zf103 zq (by omega)]; exact zl96 zq hzq
  have zw112 : ∀ zq : Nat, o + 1 ≤ zq → zq < o + 27 → zh98 zq = zh73 zq := by intro zq hq1 hq2; rw [zf103 zq (by omega)]; try exact zw97 zq hq1 hq2
  refine z_putF X E fp_X11_22_11 dX11_init_34 zK110 (by first | rfl | decide) (by first | rfl | decide) (Nat.le_of_ble_eq_true rfl) rfl ?_
  obtain ⟨zh113, ze114⟩ : ∃ z : Mm, z = va_up zh98 o (some (.inr (11, [.ref (o + 1), .ref (o + 14), .ref (o + 27), .null, .null, .null, .null, .null, .null, .int 0]))) := ⟨_, rfl⟩
  refine z_heap (h' := zh113) ze114.symm ?_
  have zK115 := up_at ze114
  have zK116 := up_off ze114 (show o + 27 ≠ o by omega) zK104
  have zK117 := up_off ze114 (show o + 28 ≠ o by omega) zK105
  have zK118 := up_off ze114 (show o + 29 ≠ o by omega) zK106
  have zK119 := up_off ze114 (show o + 30 ≠ o by omega) zK107
  have zK120 := up_off ze114 (show o + 31 ≠ o by omega) zK108
  have zK121 := up_off ze114 (show o + 32 ≠ o by omega) zK109
  have zl122 : ∀ zq : Nat, zq < o → zh113 zq = h zq := by intro zq hzq; rw [ze114, va_up_ne _ _ (show zq ≠ o by omega)]; exact zl111 zq hzq
  have zw123 : ∀ zq : Nat, o + 1 ≤ zq → zq < o + 27 → zh113 zq = zh73 zq := by intro zq hq1 hq2; rw [ze114, va_up_ne _ _ (show zq ≠ o by omega)]; try exact zw112 zq hq1 hq2
  have zw124 : ∀ zq : Nat, o + 1 ≤ zq → zq < o + 33 → zh113 zq = zh113 zq := fun _ _ _ => rfl
  refine z_aload_n X 0 dX11_init_37 rfl ?_
  refine z_iconst (v := 4) X dX11_init_38 (by decide) ?_
  refine z_newq (t := 3) (N := 4) X dX11_init_39 wd_214 (by decide) rfl (by decide) (by decide) (by omega) (by omega) (by omega) ?_
  obtain ⟨zh125, ze126⟩ : ∃ z : Mm, z = va_up zh113 (o + 33) (arR κ 3 4 (fun _ => none)) := ⟨_, rfl⟩
  refine z_heap (h' := zh125) ze126.symm ?_
  have zK127 := up_off ze126 (show o ≠ o + 33 by omega) zK115
  have zK128 := up_at ze126
  have zl129 : ∀ zq : Nat, zq < o → zh125 zq = h zq := by intro zq hzq; rw [ze126, va_up_ne _ _ (show zq ≠ o + 33 by omega)]; exact zl122 zq hzq
  have zw130 : ∀ zq : Nat, o + 1 ≤ zq → zq < o + 33 → zh125 zq = zh113 zq := by intro zq hq1 hq2; rw [ze126, va_up_ne _ _ (show zq ≠ o + 33 by omega)]; try exact zw124 zq hq1 hq2
  refine z_putF X E fp_X11_28_11 dX11_init_42 zK127 (by first | rfl | decide) (by first | rfl | decide) (Nat.le_of_ble_eq_true rfl) rfl ?_
  obtain ⟨zh131, ze132⟩ : ∃ z : Mm, z = va_up zh125 o (some (.inr (11, [.ref (o + 1), .ref (o + 14), .ref (o + 27), .ref (o + 33), .null, .null, .null, .null, .null, .int 0]))) := ⟨_, rfl⟩
  refine z_heap (h' := zh131) ze132.symm ?_
  have zK133 := up_at ze132
  have zK134 := up_off ze132 (show o + 33 ≠ o by omega) zK128
  have zl135 : ∀ zq : Nat, zq < o → zh131 zq = h zq := by intro zq hzq; rw [ze132, va_up_ne _ _ (show zq ≠ o by omega)]; exact zl129 zq hzq
  have zw136 : ∀ zq : Nat, o + 1 ≤ zq → zq < o + 33 → zh131 zq = zh113 zq := by intro zq hq1 hq2; rw [ze132, va_up_ne _ _ (show zq ≠ o by omega)]; try exact zw130 zq hq1 hq2
  refine z_iconst (v := 0) X dX11_init_45 (by decide) ?_
  refine z_istore_n (ls' := [(1, .int 0), (0, .ref o)]) X dX11_init_46 (by decide) rfl ?_
  refine z_iload_n X 0 dX11_init_47 rfl ?_
  refine z_iconst (v := 4) X dX11_init_48 (by decide) ?_
  refine z_icmp_ge X 74 dX11_init_49 (by decide) (fun zc137 => ?_) (fun zc137 => ?_)
  · first | exact absurd zc137 (by decide) | exact absurd (by decide) zc137
  · try replace zc137 := mt (nI_leI (a := 4) (b := 0) (by omega) (by omega)).mpr zc137
    refine z_aload_n X 1 dX11_init_52 rfl ?_
    refine z_get X fl_X11_28_11 dX11_init_53 zK133 rfl ?_
    refine z_iload_n X 0 dX11_init_56 rfl ?_
    refine z_new X fn_X6 dX11_init_57 wd_214 (by omega) (by omega) ?_
    obtain ⟨zh138, ze139⟩ : ∃ z : Mm, z = va_up zh131 (o + 34) (some (.inr (6, [.null, .int 0, .int 0]))) := ⟨_, rfl⟩
    refine z_heap (h' := zh138) ze139.symm ?_
    have zK140 := up_off ze139 (show o ≠ o + 34 by omega) zK133
    have zK141 := up_off ze139 (show o + 33 ≠ o + 34 by omega) zK134
    have zK142 := up_at ze139
    have zl143 : ∀ zq : Nat, zq < o → zh138 zq = h zq := by intro zq hzq; rw [ze139, va_up_ne _ _ (show zq ≠ o + 34 by omega)]; exact zl135 zq hzq
    have zw144 : ∀ zq : Nat, o + 1 ≤ zq → zq < o + 33 → zh138 zq = zh113 zq := by intro zq hq1 hq2; rw [ze139, va_up_ne _ _ (show zq ≠ o + 34 by omega)]; try exact zw136 zq hq1 hq2
    refine z_dup X dX11_init_60 rfl ?_
    refine z_bipush (v := 40) X dX11_init_61 (by decide) ?_
    refine z_iconst (v := 0) X dX11_init_63 (by decide) ?_
    refine z_callI X (c_Row_init (κ := κ) (r := (o + 34)) (b := (0)) (N := (40)) zK142 (by decide)) mk_X6_init dX11_init_64 wd_216 wd_169 rfl rfl rfl (Nat.le_of_ble_eq_true rfl) (Nat.le_of_ble_eq_true rfl) (Nat.le_of_ble_eq_true rfl) (by omega) (by omega) (fun q zh145 zm147 zp148 => ?_)
    obtain ⟨rfl, ze146, zn149⟩ := zp148
    subst zm147
    refine z_st (st' := [.ref (o + 34), .int 0, .ref (o + 33)]) rfl ?_
    have zK150 : zh145 o = some (.inr (11, [.ref (o + 1), .ref (o + 14), .ref (o + 27), .ref (o + 33), .null, .null, .null, .null, .null, .int 0])) := by rw [ze146]; rw [va_up_ne _ _ (show o ≠ o + 35 by omega)]; rw [va_up_ne _ _ (show o ≠ o + 34 by omega)]; exact zK140
    have zK151 : zh145 (o + 33) = arR κ 3 4 (fun _ => none) := by rw [ze146]; rw [va_up_ne _ _ (show o + 33 ≠ o + 35 by omega)]; rw [va_up_ne _ _ (show o + 33 ≠ o + 34 by omega)]; exact zK141
    have zK152 : zh145 (o + 34) = some (.inr (6, [.ref ((o + 34) + 1), .int 0, .int 0])) := by rw [ze146]; rw [va_up_ne _ _ (show o + 34 ≠ o + 35 by omega)]; exact va_up_self _ _ _
    have zK153 : zh145 (o + 35) = arI κ 40 (fun _ => 0) := by rw [ze146]; exact va_up_self _ _ _
    have zl154 : ∀ zq : Nat, zq < o → zh145 zq = h zq := by intro zq hzq; rw [ze146, va_up_ne _ _ (show zq ≠ o + 35 by omega), va_up_ne _ _ (show zq ≠ o + 34 by omega)]; exact zl143 zq hzq
    have zw155 : ∀ zq : Nat, o + 1 ≤ zq → zq < o + 33 → zh145 zq = zh113 zq := by intro zq hq1 hq2; rw [ze146, va_up_ne _ _ (show zq ≠ o + 35 by omega), va_up_ne _ _ (show zq ≠ o + 34 by omega)]; try exact zw144 zq hq1 hq2
    refine z_aast (t := 3) (E := "IcicleRings$Row") X dX11_init_67 zK151 rfl zK152 rfl (Or.inl rfl) (vp_in_nI (n := 0) (by decide) (by decide)) (congrArg (fun z => va_up zh145 (o + 33) (arR κ 3 4 (va_up (fun _ => none) z (some (o + 34))))) (nI_clamp (n := 0) (by omega))) ?_
    obtain ⟨zh156, ze157⟩ : ∃ z : Mm, z = va_up zh145 (o + 33) (arR κ 3 4 (va_up (fun _ => none) 0 (some (o + 34)))) := ⟨_, rfl⟩
    refine z_heap (h' := zh156) ze157.symm ?_
    have zK158 := up_off ze157 (show o ≠ o + 33 by omega) zK150
    have zK159 := up_at ze157
    have zK160 := up_off ze157 (show o + 34 ≠ o + 33 by omega) zK152
    have zK161 := up_off ze157 (show o + 35 ≠ o + 33 by omega) zK153
    have zl162 : ∀ zq : Nat, zq < o → zh156 zq = h zq := by intro zq hzq; rw [ze157, va_up_ne _ _ (show zq ≠ o + 33 by omega)]; exact zl154 zq hzq
    have zw163 : ∀ zq : Nat, o + 1 ≤ zq → zq < o + 33 → zh156 zq = zh113 zq := by intro zq hq1 hq2; rw [ze157, va_up_ne _ _ (show zq ≠ o + 33 by omega)]; try exact zw155 zq hq1 hq2
    refine z_iinc (v := 1) (ls' := [(1, .int 1), (0, .ref o)]) X 0 dX11_init_68 rfl rfl (by decide) rfl ?_
    refine z_goto X 47 dX11_init_71 (by decide) ?_
    refine z_iload_n X 0 dX11_init_47 rfl ?_
    refine z_iconst (v := 4) X dX11_init_48 (by decide) ?_
    refine z_icmp_ge X 74 dX11_init_49 (by decide) (fun zc164 => ?_) (fun zc164 => ?_)
    · first | exact absurd zc164 (by decide) | exact absurd (by decide) zc164
    · try replace zc164 := mt (nI_leI (a := 4) (b := 1) (by omega) (by omega)).mpr zc164
      refine z_aload_n X 1 dX11_init_52 rfl ?_
      refine z_get X fl_X11_28_11 dX11_init_53 zK158 rfl ?_
      refine z_iload_n X 0 dX11_init_56 rfl ?_
      refine z_new X fn_X6 dX11_init_57 wd_214 (by omega) (by omega) ?_
      obtain ⟨zh165, ze166⟩ : ∃ z : Mm, z = va_up zh156 (o + 36) (some (.inr (6, [.null, .int 0, .int 0]))) := ⟨_, rfl⟩
      refine z_heap (h' := zh165) ze166.symm ?_
      have zK167 := up_off ze166 (show o ≠ o + 36 by omega) zK158
      have zK168 := up_off ze166 (show o + 33 ≠ o + 36 by omega) zK159
      have zK169 := up_off ze166 (show o + 34 ≠ o + 36 by omega) zK160
      have zK170 := up_off ze166 (show o + 35 ≠ o + 36 by omega) zK161
      have zK171 := up_at ze166
      have zl172 : ∀ zq : Nat, zq < o → zh165 zq = h zq := by intro zq hzq; rw [ze166, va_up_ne _ _ (show zq ≠ o + 36 by omega)]; exact zl162 zq hzq
      have zw173 : ∀ zq : Nat, o + 1 ≤ zq → zq < o + 33 → zh165 zq = zh113 zq := by intro zq hq1 hq2; rw [ze166, va_up_ne _ _ (show zq ≠ o + 36 by omega)]; try exact zw163 zq hq1 hq2
      refine z_dup X dX11_init_60 rfl ?_
      refine z_bipush (v := 40) X dX11_init_61 (by decide) ?_
      refine z_iconst (v := 0) X dX11_init_63 (by decide) ?_
      refine z_callI X (c_Row_init (κ := κ) (r := (o + 36)) (b := (0)) (N := (40)) zK171 (by decide)) mk_X6_init dX11_init_64 wd_216 wd_169 rfl rfl rfl (Nat.le_of_ble_eq_true rfl) (Nat.le_of_ble_eq_true rfl) (Nat.le_of_ble_eq_true rfl) (by omega) (by omega) (fun q zh174 zm176 zp177 => ?_)
      obtain ⟨rfl, ze175, zn178⟩ := zp177
      subst zm176
      refine z_st (st' := [.ref (o + 36), .int 1, .ref (o + 33)]) rfl ?_
      have zK179 : zh174 o = some (.inr (11, [.ref (o + 1), .ref (o + 14), .ref (o + 27), .ref (o + 33), .null, .null, .null, .null, .null, .int 0])) := by rw [ze175]; rw [va_up_ne _ _ (show o ≠ o + 37 by omega)]; rw [va_up_ne _ _ (show o ≠ o + 36 by omega)]; exact zK167
      have zK180 : zh174 (o + 33) = arR κ 3 4 (va_up (fun _ => none) 0 (some (o + 34))) := by rw [ze175]; rw [va_up_ne _ _ (show o + 33 ≠ o + 37 by omega)]; rw [va_up_ne _ _ (show o + 33 ≠ o + 36 by omega)]; exact zK168
      have zK181 : zh174 (o + 34) = some (.inr (6, [.ref ((o + 34) + 1), .int 0, .int 0])) := by rw [ze175]; rw [va_up_ne _ _ (show o + 34 ≠ o + 37 by omega)]; rw [va_up_ne _ _ (show o + 34 ≠ o + 36 by omega)]; exact zK169
      have zK182 : zh174 (o + 35) = arI κ 40 (fun _ => 0) := by rw [ze175]; rw [va_up_ne _ _ (show o + 35 ≠ o + 37 by omega)]; rw [va_up_ne _ _ (show o + 35 ≠ o + 36 by omega)]; exact zK170
      have zK183 : zh174 (o + 36) = some (.inr (6, [.ref ((o + 36) + 1), .int 0, .int 0])) := by rw [ze175]; rw [va_up_ne _ _ (show o + 36 ≠ o + 37 by omega)]; exact va_up_self _ _ _
      have zK184 : zh174 (o + 37) = arI κ 40 (fun _ => 0) := by rw [ze175]; exact va_up_self _ _ _
      have zl185 : ∀ zq : Nat, zq < o → zh174 zq = h zq := by intro zq hzq; rw [ze175, va_up_ne _ _ (show zq ≠ o + 37 by omega), va_up_ne _ _ (show zq ≠ o + 36 by omega)]; exact zl172 zq hzq
      have zw186 : ∀ zq : Nat, o + 1 ≤ zq → zq < o + 33 → zh174 zq = zh113 zq := by intro zq hq1 hq2; rw [ze175, va_up_ne _ _ (show zq ≠ o + 37 by omega), va_up_ne _ _ (show zq ≠ o + 36 by omega)]; try exact zw173 zq hq1 hq2
      refine z_aast (t := 3) (E := "IcicleRings$Row") X dX11_init_67 zK180 rfl zK183 rfl (Or.inl rfl) (vp_in_nI (n := 1) (by decide) (by decide)) (congrArg (fun z => va_up zh174 (o + 33) (arR κ 3 4 (va_up (va_up (fun _ => none) 0 (some (o + 34))) z (some (o + 36))))) (nI_clamp (n := 1) (by omega))) ?_
      obtain ⟨zh187, ze188⟩ : ∃ z : Mm, z = va_up zh174 (o + 33) (arR κ 3 4 (va_up (va_up (fun _ => none) 0 (some (o + 34))) 1 (some (o + 36)))) := ⟨_, rfl⟩
      refine z_heap (h' := zh187) ze188.symm ?_
      have zK189 := up_off ze188 (show o ≠ o + 33 by omega) zK179
      have zK190 := up_at ze188
      have zK191 := up_off ze188 (show o + 34 ≠ o + 33 by omega) zK181
      have zK192 := up_off ze188 (show o + 35 ≠ o + 33 by omega) zK182
      have zK193 := up_off ze188 (show o + 36 ≠ o + 33 by omega) zK183
      have zK194 := up_off ze188 (show o + 37 ≠ o + 33 by omega) zK184
      have zl195 : ∀ zq : Nat, zq < o → zh187 zq = h zq := by intro zq hzq; rw [ze188, va_up_ne _ _ (show zq ≠ o + 33 by omega)]; exact zl185 zq hzq
      have zw196 : ∀ zq : Nat, o + 1 ≤ zq → zq < o + 33 → zh187 zq = zh113 zq := by intro zq hq1 hq2; rw [ze188, va_up_ne _ _ (show zq ≠ o + 33 by omega)]; try exact zw186 zq hq1 hq2
      refine z_iinc (v := 2) (ls' := [(1, .int 2), (0, .ref o)]) X 0 dX11_init_68 rfl rfl (by decide) rfl ?_
      refine z_goto X 47 dX11_init_71 (by decide) ?_
      refine z_iload_n X 0 dX11_init_47 rfl ?_
      refine z_iconst (v := 4) X dX11_init_48 (by decide) ?_
      refine z_icmp_ge X 74 dX11_init_49 (by decide) (fun zc197 => ?_) (fun zc197 => ?_)
      · first | exact absurd zc197 (by decide) | exact absurd (by decide) zc197
      · try replace zc197 := mt (nI_leI (a := 4) (b := 2) (by omega) (by omega)).mpr zc197
        refine z_aload_n X 1 dX11_init_52 rfl ?_
        refine z_get X fl_X11_28_11 dX11_init_53 zK189 rfl ?_
        refine z_iload_n X 0 dX11_init_56 rfl ?_
        refine z_new X fn_X6 dX11_init_57 wd_214 (by omega) (by omega) ?_
        obtain ⟨zh198, ze199⟩ : ∃ z : Mm, z = va_up zh187 (o + 38) (some (.inr (6, [.null, .int 0, .int 0]))) := ⟨_, rfl⟩
        refine z_heap (h' := zh198) ze199.symm ?_
        have zK200 := up_off ze199 (show o ≠ o + 38 by omega) zK189
        have zK201 := up_off ze199 (show o + 33 ≠ o + 38 by omega) zK190
        have zK202 := up_off ze199 (show o + 34 ≠ o + 38 by omega) zK191
        have zK203 := up_off ze199 (show o + 35 ≠ o + 38 by omega) zK192
        have zK204 := up_off ze199 (show o + 36 ≠ o + 38 by omega) zK193
        have zK205 := up_off ze199 (show o + 37 ≠ o + 38 by omega) zK194
        have zK206 := up_at ze199
        have zl207 : ∀ zq : Nat, zq < o → zh198 zq = h zq := by intro zq hzq; rw [ze199, va_up_ne _ _ (show zq ≠ o + 38 by omega)]; exact zl195 zq hzq
        have zw208 : ∀ zq : Nat, o + 1 ≤ zq → zq < o + 33 → zh198 zq = zh113 zq := by intro zq hq1 hq2; rw [ze199, va_up_ne _ _ (show zq ≠ o + 38 by omega)]; try exact zw196 zq hq1 hq2
        refine z_dup X dX11_init_60 rfl ?_
        refine z_bipush (v := 40) X dX11_init_61 (by decide) ?_
        refine z_iconst (v := 0) X dX11_init_63 (by decide) ?_
        refine z_callI X (c_Row_init (κ := κ) (r := (o + 38)) (b := (0)) (N := (40)) zK206 (by decide)) mk_X6_init dX11_init_64 wd_216 wd_169 rfl rfl rfl (Nat.le_of_ble_eq_true rfl) (Nat.le_of_ble_eq_true rfl) (Nat.le_of_ble_eq_true rfl) (by omega) (by omega) (fun q zh209 zm211 zp212 => ?_)
        obtain ⟨rfl, ze210, zn213⟩ := zp212
        subst zm211
        refine z_st (st' := [.ref (o + 38), .int 2, .ref (o + 33)]) rfl ?_
        have zK214 : zh209 o = some (.inr (11, [.ref (o + 1), .ref (o + 14), .ref (o + 27), .ref (o + 33), .null, .null, .null, .null, .null, .int 0])) := by rw [ze210]; rw [va_up_ne _ _ (show o ≠ o + 39 by omega)]; rw [va_up_ne _ _ (show o ≠ o + 38 by omega)]; exact zK200
        have zK215 : zh209 (o + 33) = arR κ 3 4 (va_up (va_up (fun _ => none) 0 (some (o + 34))) 1 (some (o + 36))) := by rw [ze210]; rw [va_up_ne _ _ (show o + 33 ≠ o + 39 by omega)]; rw [va_up_ne _ _ (show o + 33 ≠ o + 38 by omega)]; exact zK201
        have zK216 : zh209 (o + 34) = some (.inr (6, [.ref ((o + 34) + 1), .int 0, .int 0])) := by rw [ze210]; rw [va_up_ne _ _ (show o + 34 ≠ o + 39 by omega)]; rw [va_up_ne _ _ (show o + 34 ≠ o + 38 by omega)]; exact zK202
        have zK217 : zh209 (o + 35) = arI κ 40 (fun _ => 0) := by rw [ze210]; rw [va_up_ne _ _ (show o + 35 ≠ o + 39 by omega)]; rw [va_up_ne _ _ (show o + 35 ≠ o + 38 by omega)]; exact zK203
        have zK218 : zh209 (o + 36) = some (.inr (6, [.ref ((o + 36) + 1), .int 0, .int 0])) := by rw [ze210]; rw [va_up_ne _ _ (show o + 36 ≠ o + 39 by omega)]; rw [va_up_ne _ _ (show o + 36 ≠ o + 38 by omega)]; exact zK204
        have zK219 : zh209 (o + 37) = arI κ 40 (fun _ => 0) := by rw [ze210]; rw [va_up_ne _ _ (show o + 37 ≠ o + 39 by omega)]; rw [va_up_ne _ _ (show o + 37 ≠ o + 38 by omega)]; exact zK205
        have zK220 : zh209 (o + 38) = some (.inr (6, [.ref ((o + 38) + 1), .int 0, .int 0])) := by rw [ze210]; rw [va_up_ne _ _ (show o + 38 ≠ o + 39 by omega)]; exact va_up_self _ _ _
        have zK221 : zh209 (o + 39) = arI κ 40 (fun _ => 0) := by rw [ze210]; exact va_up_self _ _ _
        have zl222 : ∀ zq : Nat, zq < o → zh209 zq = h zq := by intro zq hzq; rw [ze210, va_up_ne _ _ (show zq ≠ o + 39 by omega), va_up_ne _ _ (show zq ≠ o + 38 by omega)]; exact zl207 zq hzq
        have zw223 : ∀ zq : Nat, o + 1 ≤ zq → zq < o + 33 → zh209 zq = zh113 zq := by intro zq hq1 hq2; rw [ze210, va_up_ne _ _ (show zq ≠ o + 39 by omega), va_up_ne _ _ (show zq ≠ o + 38 by omega)]; try exact zw208 zq hq1 hq2
        refine z_aast (t := 3) (E := "IcicleRings$Row") X dX11_init_67 zK215 rfl zK220 rfl (Or.inl rfl) (vp_in_nI (n := 2) (by decide) (by decide)) (congrArg (fun z => va_up zh209 (o + 33) (arR κ 3 4 (va_up (va_up (va_up (fun _ => none) 0 (some (o + 34))) 1 (some (o + 36))) z (some (o + 38))))) (nI_clamp (n := 2) (by omega))) ?_
        obtain ⟨zh224, ze225⟩ : ∃ z : Mm, z = va_up zh209 (o + 33) (arR κ 3 4 (va_up (va_up (va_up (fun _ => none) 0 (some (o + 34))) 1 (some (o + 36))) 2 (some (o + 38)))) := ⟨_, rfl⟩
        refine z_heap (h' := zh224) ze225.symm ?_
        have zK226 := up_off ze225 (show o ≠ o + 33 by omega) zK214
        have zK227 := up_at ze225
        have zK228 := up_off ze225 (show o + 34 ≠ o + 33 by omega) zK216
        have zK229 := up_off ze225 (show o + 35 ≠ o + 33 by omega) zK217
        have zK230 := up_off ze225 (show o + 36 ≠ o + 33 by omega) zK218
        have zK231 := up_off ze225 (show o + 37 ≠ o + 33 by omega) zK219
        have zK232 := up_off ze225 (show o + 38 ≠ o + 33 by omega) zK220
        have zK233 := up_off ze225 (show o + 39 ≠ o + 33 by omega) zK221
        have zl234 : ∀ zq : Nat, zq < o → zh224 zq = h zq := by intro zq hzq; rw [ze225, va_up_ne _ _ (show zq ≠ o + 33 by omega)]; exact zl222 zq hzq
        have zw235 : ∀ zq : Nat, o + 1 ≤ zq → zq < o + 33 → zh224 zq = zh113 zq := by intro zq hq1 hq2; rw [ze225, va_up_ne _ _ (show zq ≠ o + 33 by omega)]; try exact zw223 zq hq1 hq2
        refine z_iinc (v := 3) (ls' := [(1, .int 3), (0, .ref o)]) X 0 dX11_init_68 rfl rfl (by decide) rfl ?_
        refine z_goto X 47 dX11_init_71 (by decide) ?_
        refine z_iload_n X 0 dX11_init_47 rfl ?_
        refine z_iconst (v := 4) X dX11_init_48 (by decide) ?_
        refine z_icmp_ge X 74 dX11_init_49 (by decide) (fun zc236 => ?_) (fun zc236 => ?_)
        · first | exact absurd zc236 (by decide) | exact absurd (by decide) zc236
        · try replace zc236 := mt (nI_leI (a := 4) (b := 3) (by omega) (by omega)).mpr zc236
          refine z_aload_n X 1 dX11_init_52 rfl ?_
          refine z_get X fl_X11_28_11 dX11_init_53 zK226 rfl ?_
          refine z_iload_n X 0 dX11_init_56 rfl ?_
          refine z_new X fn_X6 dX11_init_57 wd_214 (by omega) (by omega) ?_
          obtain ⟨zh237, ze238⟩ : ∃ z : Mm, z = va_up zh224 (o + 40) (some (.inr (6, [.null, .int 0, .int 0]))) := ⟨_, rfl⟩
          refine z_heap (h' := zh237) ze238.symm ?_
          have zK239 := up_off ze238 (show o ≠ o + 40 by omega) zK226
          have zK240 := up_off ze238 (show o + 33 ≠ o + 40 by omega) zK227
          have zK241 := up_off ze238 (show o + 34 ≠ o + 40 by omega) zK228
          have zK242 := up_off ze238 (show o + 35 ≠ o + 40 by omega) zK229
          have zK243 := up_off ze238 (show o + 36 ≠ o + 40 by omega) zK230
          have zK244 := up_off ze238 (show o + 37 ≠ o + 40 by omega) zK231
          have zK245 := up_off ze238 (show o + 38 ≠ o + 40 by omega) zK232
          have zK246 := up_off ze238 (show o + 39 ≠ o + 40 by omega) zK233
          have zK247 := up_at ze238
          have zl248 : ∀ zq : Nat, zq < o → zh237 zq = h zq := by intro zq hzq; rw [ze238, va_up_ne _ _ (show zq ≠ o + 40 by omega)]; exact zl234 zq hzq
          have zw249 : ∀ zq : Nat, o + 1 ≤ zq → zq < o + 33 → zh237 zq = zh113 zq := by intro zq hq1 hq2; rw [ze238, va_up_ne _ _ (show zq ≠ o + 40 by omega)]; try exact zw235 zq hq1 hq2
          refine z_dup X dX11_init_60 rfl ?_
          refine z_bipush (v := 40) X dX11_init_61 (by decide) ?_
          refine z_iconst (v := 0) X dX11_init_63 (by decide) ?_
          refine z_callI X (c_Row_init (κ := κ) (r := (o + 40)) (b := (0)) (N := (40)) zK247 (by decide)) mk_X6_init dX11_init_64 wd_216 wd_169 rfl rfl rfl (Nat.le_of_ble_eq_true rfl) (Nat.le_of_ble_eq_true rfl) (Nat.le_of_ble_eq_true rfl) (by omega) (by omega) (fun q zh250 zm252 zp253 => ?_)
          obtain ⟨rfl, ze251, zn254⟩ := zp253
          subst zm252
          refine z_st (st' := [.ref (o + 40), .int 3, .ref (o + 33)]) rfl ?_
          have zK255 : zh250 o = some (.inr (11, [.ref (o + 1), .ref (o + 14), .ref (o + 27), .ref (o + 33), .null, .null, .null, .null, .null, .int 0])) := by rw [ze251]; rw [va_up_ne _ _ (show o ≠ o + 41 by omega)]; rw [va_up_ne _ _ (show o ≠ o + 40 by omega)]; exact zK239
          have zK256 : zh250 (o + 33) = arR κ 3 4 (va_up (va_up (va_up (fun _ => none) 0 (some (o + 34))) 1 (some (o + 36))) 2 (some (o + 38))) := by rw [ze251]; rw [va_up_ne _ _ (show o + 33 ≠ o + 41 by omega)]; rw [va_up_ne _ _ (show o + 33 ≠ o + 40 by omega)]; exact zK240
          have zK257 : zh250 (o + 34) = some (.inr (6, [.ref ((o + 34) + 1), .int 0, .int 0])) := by rw [ze251]; rw [va_up_ne _ _ (show o + 34 ≠ o + 41 by omega)]; rw [va_up_ne _ _ (show o + 34 ≠ o + 40 by omega)]; exact zK241
          have zK258 : zh250 (o + 35) = arI κ 40 (fun _ => 0) := by rw [ze251]; rw [va_up_ne _ _ (show o + 35 ≠ o + 41 by omega)]; rw [va_up_ne _ _ (show o + 35 ≠ o + 40 by omega)]; exact zK242
          have zK259 : zh250 (o + 36) = some (.inr (6, [.ref ((o + 36) + 1), .int 0, .int 0])) := by rw [ze251]; rw [va_up_ne _ _ (show o + 36 ≠ o + 41 by omega)]; rw [va_up_ne _ _ (show o + 36 ≠ o + 40 by omega)]; exact zK243
          have zK260 : zh250 (o + 37) = arI κ 40 (fun _ => 0) := by rw [ze251]; rw [va_up_ne _ _ (show o + 37 ≠ o + 41 by omega)]; rw [va_up_ne _ _ (show o + 37 ≠ o + 40 by omega)]; exact zK244
          have zK261 : zh250 (o + 38) = some (.inr (6, [.ref ((o + 38) + 1), .int 0, .int 0])) := by rw [ze251]; rw [va_up_ne _ _ (show o + 38 ≠ o + 41 by omega)]; rw [va_up_ne _ _ (show o + 38 ≠ o + 40 by omega)]; exact zK245
          have zK262 : zh250 (o + 39) = arI κ 40 (fun _ => 0) := by rw [ze251]; rw [va_up_ne _ _ (show o + 39 ≠ o + 41 by omega)]; rw [va_up_ne _ _ (show o + 39 ≠ o + 40 by omega)]; exact zK246
          have zK263 : zh250 (o + 40) = some (.inr (6, [.ref ((o + 40) + 1), .int 0, .int 0])) := by rw [ze251]; rw [va_up_ne _ _ (show o + 40 ≠ o + 41 by omega)]; exact va_up_self _ _ _
          have zK264 : zh250 (o + 41) = arI κ 40 (fun _ => 0) := by rw [ze251]; exact va_up_self _ _ _
          have zl265 : ∀ zq : Nat, zq < o → zh250 zq = h zq := by intro zq hzq; rw [ze251, va_up_ne _ _ (show zq ≠ o + 41 by omega), va_up_ne _ _ (show zq ≠ o + 40 by omega)]; exact zl248 zq hzq
          have zw266 : ∀ zq : Nat, o + 1 ≤ zq → zq < o + 33 → zh250 zq = zh113 zq := by intro zq hq1 hq2; rw [ze251, va_up_ne _ _ (show zq ≠ o + 41 by omega), va_up_ne _ _ (show zq ≠ o + 40 by omega)]; try exact zw249 zq hq1 hq2
          refine z_aast (t := 3) (E := "IcicleRings$Row") X dX11_init_67 zK256 rfl zK263 rfl (Or.inl rfl) (vp_in_nI (n := 3) (by decide) (by decide)) (congrArg (fun z => va_up zh250 (o + 33) (arR κ 3 4 (va_up (va_up (va_up (va_up (fun _ => none) 0 (some (o + 34))) 1 (some (o + 36))) 2 (some (o + 38))) z (some (o + 40))))) (nI_clamp (n := 3) (by omega))) ?_
          obtain ⟨zh267, ze268⟩ : ∃ z : Mm, z = va_up zh250 (o + 33) (arR κ 3 4 (va_up (va_up (va_up (va_up (fun _ => none) 0 (some (o + 34))) 1 (some (o + 36))) 2 (some (o + 38))) 3 (some (o + 40)))) := ⟨_, rfl⟩
          refine z_heap (h' := zh267) ze268.symm ?_
          have zK269 := up_off ze268 (show o ≠ o + 33 by omega) zK255
          have zK270 := up_at ze268
          have zK271 := up_off ze268 (show o + 34 ≠ o + 33 by omega) zK257
          have zK272 := up_off ze268 (show o + 35 ≠ o + 33 by omega) zK258
          have zK273 := up_off ze268 (show o + 36 ≠ o + 33 by omega) zK259
          have zK274 := up_off ze268 (show o + 37 ≠ o + 33 by omega) zK260
          have zK275 := up_off ze268 (show o + 38 ≠ o + 33 by omega) zK261
          have zK276 := up_off ze268 (show o + 39 ≠ o + 33 by omega) zK262
          have zK277 := up_off ze268 (show o + 40 ≠ o + 33 by omega) zK263
          have zK278 := up_off ze268 (show o + 41 ≠ o + 33 by omega) zK264
          have zl279 : ∀ zq : Nat, zq < o → zh267 zq = h zq := by intro zq hzq; rw [ze268, va_up_ne _ _ (show zq ≠ o + 33 by omega)]; exact zl265 zq hzq
          have zw280 : ∀ zq : Nat, o + 1 ≤ zq → zq < o + 33 → zh267 zq = zh113 zq := by intro zq hq1 hq2; rw [ze268, va_up_ne _ _ (show zq ≠ o + 33 by omega)]; try exact zw266 zq hq1 hq2
          refine z_iinc (v := 4) (ls' := [(1, .int 4), (0, .ref o)]) X 0 dX11_init_68 rfl rfl (by decide) rfl ?_
          refine z_goto X 47 dX11_init_71 (by decide) ?_
          refine z_iload_n X 0 dX11_init_47 rfl ?_
          refine z_iconst (v := 4) X dX11_init_48 (by decide) ?_
          refine z_icmp_ge X 74 dX11_init_49 (by decide) (fun zc281 => ?_) (fun zc281 => ?_)
          · try replace zc281 := (nI_leI (a := 4) (b := 4) (by omega) (by omega)).mp zc281
            refine z_extR (g := shF o) zK270 (by intro k hk; have h4 : k = 0 ∨ k = 1 ∨ k = 2 ∨ k = 3 := (by omega); rcases h4 with rfl | rfl | rfl | rfl <;> rfl) ?_
            obtain ⟨zh282, ze283⟩ : ∃ z : Mm, z = va_up zh267 (o + 33) (arR κ 3 4 (shF o)) := ⟨_, rfl⟩
            refine z_heap (h' := zh282) ze283.symm ?_
            have zK284 := up_off ze283 (show o ≠ o + 33 by omega) zK269
            have zK285 := up_at ze283
            have zK286 := up_off ze283 (show o + 34 ≠ o + 33 by omega) zK271
            have zK287 := up_off ze283 (show o + 35 ≠ o + 33 by omega) zK272
            have zK288 := up_off ze283 (show o + 36 ≠ o + 33 by omega) zK273
            have zK289 := up_off ze283 (show o + 37 ≠ o + 33 by omega) zK274
            have zK290 := up_off ze283 (show o + 38 ≠ o + 33 by omega) zK275
            have zK291 := up_off ze283 (show o + 39 ≠ o + 33 by omega) zK276
            have zK292 := up_off ze283 (show o + 40 ≠ o + 33 by omega) zK277
            have zK293 := up_off ze283 (show o + 41 ≠ o + 33 by omega) zK278
            have zl294 : ∀ zq : Nat, zq < o → zh282 zq = h zq := by intro zq hzq; rw [ze283, va_up_ne _ _ (show zq ≠ o + 33 by omega)]; exact zl279 zq hzq
            have zw295 : ∀ zq : Nat, o + 1 ≤ zq → zq < o + 33 → zh282 zq = zh113 zq := by intro zq hq1 hq2; rw [ze283, va_up_ne _ _ (show zq ≠ o + 33 by omega)]; try exact zw280 zq hq1 hq2
            have zw296 : ∀ zq : Nat, o + 1 ≤ zq → zq < o + 42 → zh282 zq = zh282 zq := fun _ _ _ => rfl
            refine z_aload_n X 1 dX11_init_74 rfl ?_
            refine z_bipush (v := 6) X dX11_init_75 (by decide) ?_
            refine z_newq (t := 3) (N := 6) X dX11_init_77 wd_214 (by decide) rfl (by decide) (by decide) (by omega) (by omega) (by omega) ?_
            obtain ⟨zh297, ze298⟩ : ∃ z : Mm, z = va_up zh282 (o + 42) (arR κ 3 6 (fun _ => none)) := ⟨_, rfl⟩
            refine z_heap (h' := zh297) ze298.symm ?_
            have zK299 := up_off ze298 (show o ≠ o + 42 by omega) zK284
            have zK300 := up_at ze298
            have zl301 : ∀ zq : Nat, zq < o → zh297 zq = h zq := by intro zq hzq; rw [ze298, va_up_ne _ _ (show zq ≠ o + 42 by omega)]; exact zl294 zq hzq
            have zw302 : ∀ zq : Nat, o + 1 ≤ zq → zq < o + 42 → zh297 zq = zh282 zq := by intro zq hq1 hq2; rw [ze298, va_up_ne _ _ (show zq ≠ o + 42 by omega)]; try exact zw296 zq hq1 hq2
            refine z_putF X E fp_X11_35_11 dX11_init_80 zK299 (by first | rfl | decide) (by first | rfl | decide) (Nat.le_of_ble_eq_true rfl) rfl ?_
            obtain ⟨zh303, ze304⟩ : ∃ z : Mm, z = va_up zh297 o (some (.inr (11, [.ref (o + 1), .ref (o + 14), .ref (o + 27), .ref (o + 33), .ref (o + 42), .null, .null, .null, .null, .int 0]))) := ⟨_, rfl⟩
            refine z_heap (h' := zh303) ze304.symm ?_
            have zK305 := up_at ze304
            have zK306 := up_off ze304 (show o + 42 ≠ o by omega) zK300
            have zl307 : ∀ zq : Nat, zq < o → zh303 zq = h zq := by intro zq hzq; rw [ze304, va_up_ne _ _ (show zq ≠ o by omega)]; exact zl301 zq hzq
            have zw308 : ∀ zq : Nat, o + 1 ≤ zq → zq < o + 42 → zh303 zq = zh282 zq := by intro zq hq1 hq2; rw [ze304, va_up_ne _ _ (show zq ≠ o by omega)]; try exact zw302 zq hq1 hq2
            refine z_iconst (v := 0) X dX11_init_83 (by decide) ?_
            refine z_istore_n (ls' := [(1, .int 0), (0, .ref o)]) X dX11_init_84 (by decide) rfl ?_
            refine z_iload_n X 0 dX11_init_85 rfl ?_
            refine z_bipush (v := 6) X dX11_init_86 (by decide) ?_
            refine z_icmp_ge X 114 dX11_init_88 (by decide) (fun zc309 => ?_) (fun zc309 => ?_)
            · first | exact absurd zc309 (by decide) | exact absurd (by decide) zc309
            · try replace zc309 := mt (nI_leI (a := 6) (b := 0) (by omega) (by omega)).mpr zc309
              refine z_aload_n X 1 dX11_init_91 rfl ?_
              refine z_get X fl_X11_35_11 dX11_init_92 zK305 rfl ?_
              refine z_iload_n X 0 dX11_init_95 rfl ?_
              refine z_new X fn_X6 dX11_init_96 wd_214 (by omega) (by omega) ?_
              obtain ⟨zh310, ze311⟩ : ∃ z : Mm, z = va_up zh303 (o + 43) (some (.inr (6, [.null, .int 0, .int 0]))) := ⟨_, rfl⟩
              refine z_heap (h' := zh310) ze311.symm ?_
              have zK312 := up_off ze311 (show o ≠ o + 43 by omega) zK305
              have zK313 := up_off ze311 (show o + 42 ≠ o + 43 by omega) zK306
              have zK314 := up_at ze311
              have zl315 : ∀ zq : Nat, zq < o → zh310 zq = h zq := by intro zq hzq; rw [ze311, va_up_ne _ _ (show zq ≠ o + 43 by omega)]; exact zl307 zq hzq
              have zw316 : ∀ zq : Nat, o + 1 ≤ zq → zq < o + 42 → zh310 zq = zh282 zq := by intro zq hq1 hq2; rw [ze311, va_up_ne _ _ (show zq ≠ o + 43 by omega)]; try exact zw308 zq hq1 hq2
              refine z_dup X dX11_init_99 rfl ?_
              refine z_bipush (v := 40) X dX11_init_100 (by decide) ?_
              refine z_bipush (v := 32) X dX11_init_102 (by decide) ?_
              refine z_callI X (c_Row_init (κ := κ) (r := (o + 43)) (b := (32)) (N := (40)) zK314 (by decide)) mk_X6_init dX11_init_104 wd_216 wd_169 rfl rfl rfl (Nat.le_of_ble_eq_true rfl) (Nat.le_of_ble_eq_true rfl) (Nat.le_of_ble_eq_true rfl) (by omega) (by omega) (fun q zh317 zm319 zp320 => ?_)
              obtain ⟨rfl, ze318, zn321⟩ := zp320
              subst zm319
              refine z_st (st' := [.ref (o + 43), .int 0, .ref (o + 42)]) rfl ?_
              have zK322 : zh317 o = some (.inr (11, [.ref (o + 1), .ref (o + 14), .ref (o + 27), .ref (o + 33), .ref (o + 42), .null, .null, .null, .null, .int 0])) := by rw [ze318]; rw [va_up_ne _ _ (show o ≠ o + 44 by omega)]; rw [va_up_ne _ _ (show o ≠ o + 43 by omega)]; exact zK312
              have zK323 : zh317 (o + 42) = arR κ 3 6 (fun _ => none) := by rw [ze318]; rw [va_up_ne _ _ (show o + 42 ≠ o + 44 by omega)]; rw [va_up_ne _ _ (show o + 42 ≠ o + 43 by omega)]; exact zK313
              have zK324 : zh317 (o + 43) = some (.inr (6, [.ref ((o + 43) + 1), .int 0, .int 32])) := by rw [ze318]; rw [va_up_ne _ _ (show o + 43 ≠ o + 44 by omega)]; exact va_up_self _ _ _
              have zK325 : zh317 (o + 44) = arI κ 40 (fun _ => 0) := by rw [ze318]; exact va_up_self _ _ _
              have zl326 : ∀ zq : Nat, zq < o → zh317 zq = h zq := by intro zq hzq; rw [ze318, va_up_ne _ _ (show zq ≠ o + 44 by omega), va_up_ne _ _ (show zq ≠ o + 43 by omega)]; exact zl315 zq hzq
              have zw327 : ∀ zq : Nat, o + 1 ≤ zq → zq < o + 42 → zh317 zq = zh282 zq := by intro zq hq1 hq2; rw [ze318, va_up_ne _ _ (show zq ≠ o + 44 by omega), va_up_ne _ _ (show zq ≠ o + 43 by omega)]; try exact zw316 zq hq1 hq2
              refine z_aast (t := 3) (E := "IcicleRings$Row") X dX11_init_107 zK323 rfl zK324 rfl (Or.inl rfl) (vp_in_nI (n := 0) (by decide) (by decide)) (congrArg (fun z => va_up zh317 (o + 42) (arR κ 3 6 (va_up (fun _ => none) z (some (o + 43))))) (nI_clamp (n := 0) (by omega))) ?_
              obtain ⟨zh328, ze329⟩ : ∃ z : Mm, z = va_up zh317 (o + 42) (arR κ 3 6 (va_up (fun _ => none) 0 (some (o + 43)))) := ⟨_, rfl⟩
              refine z_heap (h' := zh328) ze329.symm ?_
              have zK330 := up_off ze329 (show o ≠ o + 42 by omega) zK322
              have zK331 := up_at ze329
              have zK332 := up_off ze329 (show o + 43 ≠ o + 42 by omega) zK324
              have zK333 := up_off ze329 (show o + 44 ≠ o + 42 by omega) zK325
              have zl334 : ∀ zq : Nat, zq < o → zh328 zq = h zq := by intro zq hzq; rw [ze329, va_up_ne _ _ (show zq ≠ o + 42 by omega)]; exact zl326 zq hzq
              have zw335 : ∀ zq : Nat, o + 1 ≤ zq → zq < o + 42 → zh328 zq = zh282 zq := by intro zq hq1 hq2; rw [ze329, va_up_ne _ _ (show zq ≠ o + 42 by omega)]; try exact zw327 zq hq1 hq2
              refine z_iinc (v := 1) (ls' := [(1, .int 1), (0, .ref o)]) X 0 dX11_init_108 rfl rfl (by decide) rfl ?_
              refine z_goto X 85 dX11_init_111 (by decide) ?_
              refine z_iload_n X 0 dX11_init_85 rfl ?_
              refine z_bipush (v := 6) X dX11_init_86 (by decide) ?_
              refine z_icmp_ge X 114 dX11_init_88 (by decide) (fun zc336 => ?_) (fun zc336 => ?_)
              · first | exact absurd zc336 (by decide) | exact absurd (by decide) zc336
              · try replace zc336 := mt (nI_leI (a := 6) (b := 1) (by omega) (by omega)).mpr zc336
                refine z_aload_n X 1 dX11_init_91 rfl ?_
                refine z_get X fl_X11_35_11 dX11_init_92 zK330 rfl ?_
                refine z_iload_n X 0 dX11_init_95 rfl ?_
                refine z_new X fn_X6 dX11_init_96 wd_214 (by omega) (by omega) ?_
                obtain ⟨zh337, ze338⟩ : ∃ z : Mm, z = va_up zh328 (o + 45) (some (.inr (6, [.null, .int 0, .int 0]))) := ⟨_, rfl⟩
                refine z_heap (h' := zh337) ze338.symm ?_
                have zK339 := up_off ze338 (show o ≠ o + 45 by omega) zK330
                have zK340 := up_off ze338 (show o + 42 ≠ o + 45 by omega) zK331
                have zK341 := up_off ze338 (show o + 43 ≠ o + 45 by omega) zK332
                have zK342 := up_off ze338 (show o + 44 ≠ o + 45 by omega) zK333
                have zK343 := up_at ze338
                have zl344 : ∀ zq : Nat, zq < o → zh337 zq = h zq := by intro zq hzq; rw [ze338, va_up_ne _ _ (show zq ≠ o + 45 by omega)]; exact zl334 zq hzq
                have zw345 : ∀ zq : Nat, o + 1 ≤ zq → zq < o + 42 → zh337 zq = zh282 zq := by intro zq hq1 hq2; rw [ze338, va_up_ne _ _ (show zq ≠ o + 45 by omega)]; try exact zw335 zq hq1 hq2
                refine z_dup X dX11_init_99 rfl ?_
                refine z_bipush (v := 40) X dX11_init_100 (by decide) ?_
                refine z_bipush (v := 32) X dX11_init_102 (by decide) ?_
                refine z_callI X (c_Row_init (κ := κ) (r := (o + 45)) (b := (32)) (N := (40)) zK343 (by decide)) mk_X6_init dX11_init_104 wd_216 wd_169 rfl rfl rfl (Nat.le_of_ble_eq_true rfl) (Nat.le_of_ble_eq_true rfl) (Nat.le_of_ble_eq_true rfl) (by omega) (by omega) (fun q zh346 zm348 zp349 => ?_)
                obtain ⟨rfl, ze347, zn350⟩ := zp349
                subst zm348
                refine z_st (st' := [.ref (o + 45), .int 1, .ref (o + 42)]) rfl ?_
                have zK351 : zh346 o = some (.inr (11, [.ref (o + 1), .ref (o + 14), .ref (o + 27), .ref (o + 33), .ref (o + 42), .null, .null, .null, .null, .int 0])) := by rw [ze347]; rw [va_up_ne _ _ (show o ≠ o + 46 by omega)]; rw [va_up_ne _ _ (show o ≠ o + 45 by omega)]; exact zK339
                have zK352 : zh346 (o + 42) = arR κ 3 6 (va_up (fun _ => none) 0 (some (o + 43))) := by rw [ze347]; rw [va_up_ne _ _ (show o + 42 ≠ o + 46 by omega)]; rw [va_up_ne _ _ (show o + 42 ≠ o + 45 by omega)]; exact zK340
                have zK353 : zh346 (o + 43) = some (.inr (6, [.ref ((o + 43) + 1), .int 0, .int 32])) := by rw [ze347]; rw [va_up_ne _ _ (show o + 43 ≠ o + 46 by omega)]; rw [va_up_ne _ _ (show o + 43 ≠ o + 45 by omega)]; exact zK341
                have zK354 : zh346 (o + 44) = arI κ 40 (fun _ => 0) := by rw [ze347]; rw [va_up_ne _ _ (show o + 44 ≠ o + 46 by omega)]; rw [va_up_ne _ _ (show o + 44 ≠ o + 45 by omega)]; exact zK342
                have zK355 : zh346 (o + 45) = some (.inr (6, [.ref ((o + 45) + 1), .int 0, .int 32])) := by rw [ze347]; rw [va_up_ne _ _ (show o + 45 ≠ o + 46 by omega)]; exact va_up_self _ _ _
                have zK356 : zh346 (o + 46) = arI κ 40 (fun _ => 0) := by rw [ze347]; exact va_up_self _ _ _
                have zl357 : ∀ zq : Nat, zq < o → zh346 zq = h zq := by intro zq hzq; rw [ze347, va_up_ne _ _ (show zq ≠ o + 46 by omega), va_up_ne _ _ (show zq ≠ o + 45 by omega)]; exact zl344 zq hzq
                have zw358 : ∀ zq : Nat, o + 1 ≤ zq → zq < o + 42 → zh346 zq = zh282 zq := by intro zq hq1 hq2; rw [ze347, va_up_ne _ _ (show zq ≠ o + 46 by omega), va_up_ne _ _ (show zq ≠ o + 45 by omega)]; try exact zw345 zq hq1 hq2
                refine z_aast (t := 3) (E := "IcicleRings$Row") X dX11_init_107 zK352 rfl zK355 rfl (Or.inl rfl) (vp_in_nI (n := 1) (by decide) (by decide)) (congrArg (fun z => va_up zh346 (o + 42) (arR κ 3 6 (va_up (va_up (fun _ => none) 0 (some (o + 43))) z (some (o + 45))))) (nI_clamp (n := 1) (by omega))) ?_
                obtain ⟨zh359, ze360⟩ : ∃ z : Mm, z = va_up zh346 (o + 42) (arR κ 3 6 (va_up (va_up (fun _ => none) 0 (some (o + 43))) 1 (some (o + 45)))) := ⟨_, rfl⟩
                refine z_heap (h' := zh359) ze360.symm ?_
                have zK361 := up_off ze360 (show o ≠ o + 42 by omega) zK351
                have zK362 := up_at ze360
                have zK363 := up_off ze360 (show o + 43 ≠ o + 42 by omega) zK353
                have zK364 := up_off ze360 (show o + 44 ≠ o + 42 by omega) zK354
                have zK365 := up_off ze360 (show o + 45 ≠ o + 42 by omega) zK355
                have zK366 := up_off ze360 (show o + 46 ≠ o + 42 by omega) zK356
                have zl367 : ∀ zq : Nat, zq < o → zh359 zq = h zq := by intro zq hzq; rw [ze360, va_up_ne _ _ (show zq ≠ o + 42 by omega)]; exact zl357 zq hzq
                have zw368 : ∀ zq : Nat, o + 1 ≤ zq → zq < o + 42 → zh359 zq = zh282 zq := by intro zq hq1 hq2; rw [ze360, va_up_ne _ _ (show zq ≠ o + 42 by omega)]; try exact zw358 zq hq1 hq2
                refine z_iinc (v := 2) (ls' := [(1, .int 2), (0, .ref o)]) X 0 dX11_init_108 rfl rfl (by decide) rfl ?_
                refine z_goto X 85 dX11_init_111 (by decide) ?_
                refine z_iload_n X 0 dX11_init_85 rfl ?_
                refine z_bipush (v := 6) X dX11_init_86 (by decide) ?_
                refine z_icmp_ge X 114 dX11_init_88 (by decide) (fun zc369 => ?_) (fun zc369 => ?_)
                · first | exact absurd zc369 (by decide) | exact absurd (by decide) zc369
                · try replace zc369 := mt (nI_leI (a := 6) (b := 2) (by omega) (by omega)).mpr zc369
                  refine z_aload_n X 1 dX11_init_91 rfl ?_
                  refine z_get X fl_X11_35_11 dX11_init_92 zK361 rfl ?_
                  refine z_iload_n X 0 dX11_init_95 rfl ?_
                  refine z_new X fn_X6 dX11_init_96 wd_214 (by omega) (by omega) ?_
                  obtain ⟨zh370, ze371⟩ : ∃ z : Mm, z = va_up zh359 (o + 47) (some (.inr (6, [.null, .int 0, .int 0]))) := ⟨_, rfl⟩
                  refine z_heap (h' := zh370) ze371.symm ?_
                  have zK372 := up_off ze371 (show o ≠ o + 47 by omega) zK361
                  have zK373 := up_off ze371 (show o + 42 ≠ o + 47 by omega) zK362
                  have zK374 := up_off ze371 (show o + 43 ≠ o + 47 by omega) zK363
                  have zK375 := up_off ze371 (show o + 44 ≠ o + 47 by omega) zK364
                  have zK376 := up_off ze371 (show o + 45 ≠ o + 47 by omega) zK365
                  have zK377 := up_off ze371 (show o + 46 ≠ o + 47 by omega) zK366
                  have zK378 := up_at ze371
                  have zl379 : ∀ zq : Nat, zq < o → zh370 zq = h zq := by intro zq hzq; rw [ze371, va_up_ne _ _ (show zq ≠ o + 47 by omega)]; exact zl367 zq hzq
                  have zw380 : ∀ zq : Nat, o + 1 ≤ zq → zq < o + 42 → zh370 zq = zh282 zq := by intro zq hq1 hq2; rw [ze371, va_up_ne _ _ (show zq ≠ o + 47 by omega)]; try exact zw368 zq hq1 hq2
                  refine z_dup X dX11_init_99 rfl ?_
                  refine z_bipush (v := 40) X dX11_init_100 (by decide) ?_
                  refine z_bipush (v := 32) X dX11_init_102 (by decide) ?_
                  refine z_callI X (c_Row_init (κ := κ) (r := (o + 47)) (b := (32)) (N := (40)) zK378 (by decide)) mk_X6_init dX11_init_104 wd_216 wd_169 rfl rfl rfl (Nat.le_of_ble_eq_true rfl) (Nat.le_of_ble_eq_true rfl) (Nat.le_of_ble_eq_true rfl) (by omega) (by omega) (fun q zh381 zm383 zp384 => ?_)
                  obtain ⟨rfl, ze382, zn385⟩ := zp384
                  subst zm383
                  refine z_st (st' := [.ref (o + 47), .int 2, .ref (o + 42)]) rfl ?_
                  have zK386 : zh381 o = some (.inr (11, [.ref (o + 1), .ref (o + 14), .ref (o + 27), .ref (o + 33), .ref (o + 42), .null, .null, .null, .null, .int 0])) := by rw [ze382]; rw [va_up_ne _ _ (show o ≠ o + 48 by omega)]; rw [va_up_ne _ _ (show o ≠ o + 47 by omega)]; exact zK372
                  have zK387 : zh381 (o + 42) = arR κ 3 6 (va_up (va_up (fun _ => none) 0 (some (o + 43))) 1 (some (o + 45))) := by rw [ze382]; rw [va_up_ne _ _ (show o + 42 ≠ o + 48 by omega)]; rw [va_up_ne _ _ (show o + 42 ≠ o + 47 by omega)]; exact zK373
                  have zK388 : zh381 (o + 43) = some (.inr (6, [.ref ((o + 43) + 1), .int 0, .int 32])) := by rw [ze382]; rw [va_up_ne _ _ (show o + 43 ≠ o + 48 by omega)]; rw [va_up_ne _ _ (show o + 43 ≠ o + 47 by omega)]; exact zK374
                  have zK389 : zh381 (o + 44) = arI κ 40 (fun _ => 0) := by rw [ze382]; rw [va_up_ne _ _ (show o + 44 ≠ o + 48 by omega)]; rw [va_up_ne _ _ (show o + 44 ≠ o + 47 by omega)]; exact zK375
                  have zK390 : zh381 (o + 45) = some (.inr (6, [.ref ((o + 45) + 1), .int 0, .int 32])) := by rw [ze382]; rw [va_up_ne _ _ (show o + 45 ≠ o + 48 by omega)]; rw [va_up_ne _ _ (show o + 45 ≠ o + 47 by omega)]; exact zK376
                  have zK391 : zh381 (o + 46) = arI κ 40 (fun _ => 0) := by rw [ze382]; rw [va_up_ne _ _ (show o + 46 ≠ o + 48 by omega)]; rw [va_up_ne _ _ (show o + 46 ≠ o + 47 by omega)]; exact zK377
                  have zK392 : zh381 (o + 47) = some (.inr (6, [.ref ((o + 47) + 1), .int 0, .int 32])) := by rw [ze382]; rw [va_up_ne _ _ (show o + 47 ≠ o + 48 by omega)]; exact va_up_self _ _ _
                  have zK393 : zh381 (o + 48) = arI κ 40 (fun _ => 0) := by rw [ze382]; exact va_up_self _ _ _
                  have zl394 : ∀ zq : Nat, zq < o → zh381 zq = h zq := by intro zq hzq; rw [ze382, va_up_ne _ _ (show zq ≠ o + 48 by omega), va_up_ne _ _ (show zq ≠ o + 47 by omega)]; exact zl379 zq hzq
                  have zw395 : ∀ zq : Nat, o + 1 ≤ zq → zq < o + 42 → zh381 zq = zh282 zq := by intro zq hq1 hq2; rw [ze382, va_up_ne _ _ (show zq ≠ o + 48 by omega), va_up_ne _ _ (show zq ≠ o + 47 by omega)]; try exact zw380 zq hq1 hq2
                  refine z_aast (t := 3) (E := "IcicleRings$Row") X dX11_init_107 zK387 rfl zK392 rfl (Or.inl rfl) (vp_in_nI (n := 2) (by decide) (by decide)) (congrArg (fun z => va_up zh381 (o + 42) (arR κ 3 6 (va_up (va_up (va_up (fun _ => none) 0 (some (o + 43))) 1 (some (o + 45))) z (some (o + 47))))) (nI_clamp (n := 2) (by omega))) ?_
                  obtain ⟨zh396, ze397⟩ : ∃ z : Mm, z = va_up zh381 (o + 42) (arR κ 3 6 (va_up (va_up (va_up (fun _ => none) 0 (some (o + 43))) 1 (some (o + 45))) 2 (some (o + 47)))) := ⟨_, rfl⟩
                  refine z_heap (h' := zh396) ze397.symm ?_
                  have zK398 := up_off ze397 (show o ≠ o + 42 by omega) zK386
                  have zK399 := up_at ze397
                  have zK400 := up_off ze397 (show o + 43 ≠ o + 42 by omega) zK388
                  have zK401 := up_off ze397 (show o + 44 ≠ o + 42 by omega) zK389
                  have zK402 := up_off ze397 (show o + 45 ≠ o + 42 by omega) zK390
                  have zK403 := up_off ze397 (show o + 46 ≠ o + 42 by omega) zK391
                  have zK404 := up_off ze397 (show o + 47 ≠ o + 42 by omega) zK392
                  have zK405 := up_off ze397 (show o + 48 ≠ o + 42 by omega) zK393
                  have zl406 : ∀ zq : Nat, zq < o → zh396 zq = h zq := by intro zq hzq; rw [ze397, va_up_ne _ _ (show zq ≠ o + 42 by omega)]; exact zl394 zq hzq
                  have zw407 : ∀ zq : Nat, o + 1 ≤ zq → zq < o + 42 → zh396 zq = zh282 zq := by intro zq hq1 hq2; rw [ze397, va_up_ne _ _ (show zq ≠ o + 42 by omega)]; try exact zw395 zq hq1 hq2
                  refine z_iinc (v := 3) (ls' := [(1, .int 3), (0, .ref o)]) X 0 dX11_init_108 rfl rfl (by decide) rfl ?_
                  refine z_goto X 85 dX11_init_111 (by decide) ?_
                  refine z_iload_n X 0 dX11_init_85 rfl ?_
                  refine z_bipush (v := 6) X dX11_init_86 (by decide) ?_
                  refine z_icmp_ge X 114 dX11_init_88 (by decide) (fun zc408 => ?_) (fun zc408 => ?_)
                  · first | exact absurd zc408 (by decide) | exact absurd (by decide) zc408
                  · try replace zc408 := mt (nI_leI (a := 6) (b := 3) (by omega) (by omega)).mpr zc408
                    refine z_aload_n X 1 dX11_init_91 rfl ?_
                    refine z_get X fl_X11_35_11 dX11_init_92 zK398 rfl ?_
                    refine z_iload_n X 0 dX11_init_95 rfl ?_
                    refine z_new X fn_X6 dX11_init_96 wd_214 (by omega) (by omega) ?_
                    obtain ⟨zh409, ze410⟩ : ∃ z : Mm, z = va_up zh396 (o + 49) (some (.inr (6, [.null, .int 0, .int 0]))) := ⟨_, rfl⟩
                    refine z_heap (h' := zh409) ze410.symm ?_
                    have zK411 := up_off ze410 (show o ≠ o + 49 by omega) zK398
                    have zK412 := up_off ze410 (show o + 42 ≠ o + 49 by omega) zK399
                    have zK413 := up_off ze410 (show o + 43 ≠ o + 49 by omega) zK400
                    have zK414 := up_off ze410 (show o + 44 ≠ o + 49 by omega) zK401
                    have zK415 := up_off ze410 (show o + 45 ≠ o + 49 by omega) zK402
                    have zK416 := up_off ze410 (show o + 46 ≠ o + 49 by omega) zK403
                    have zK417 := up_off ze410 (show o + 47 ≠ o + 49 by omega) zK404
                    have zK418 := up_off ze410 (show o + 48 ≠ o + 49 by omega) zK405
                    have zK419 := up_at ze410
                    have zl420 : ∀ zq : Nat, zq < o → zh409 zq = h zq := by intro zq hzq; rw [ze410, va_up_ne _ _ (show zq ≠ o + 49 by omega)]; exact zl406 zq hzq
                    have zw421 : ∀ zq : Nat, o + 1 ≤ zq → zq < o + 42 → zh409 zq = zh282 zq := by intro zq hq1 hq2; rw [ze410, va_up_ne _ _ (show zq ≠ o + 49 by omega)]; try exact zw407 zq hq1 hq2
                    refine z_dup X dX11_init_99 rfl ?_
                    refine z_bipush (v := 40) X dX11_init_100 (by decide) ?_
                    refine z_bipush (v := 32) X dX11_init_102 (by decide) ?_
                    refine z_callI X (c_Row_init (κ := κ) (r := (o + 49)) (b := (32)) (N := (40)) zK419 (by decide)) mk_X6_init dX11_init_104 wd_216 wd_169 rfl rfl rfl (Nat.le_of_ble_eq_true rfl) (Nat.le_of_ble_eq_true rfl) (Nat.le_of_ble_eq_true rfl) (by omega) (by omega) (fun q zh422 zm424 zp425 => ?_)
                    obtain ⟨rfl, ze423, zn426⟩ := zp425
                    subst zm424
                    refine z_st (st' := [.ref (o + 49), .int 3, .ref (o + 42)]) rfl ?_
                    have zK427 : zh422 o = some (.inr (11, [.ref (o + 1), .ref (o + 14), .ref (o + 27), .ref (o + 33), .ref (o + 42), .null, .null, .null, .null, .int 0])) := by rw [ze423]; rw [va_up_ne _ _ (show o ≠ o + 50 by omega)]; rw [va_up_ne _ _ (show o ≠ o + 49 by omega)]; exact zK411
                    have zK428 : zh422 (o + 42) = arR κ 3 6 (va_up (va_up (va_up (fun _ => none) 0 (some (o + 43))) 1 (some (o + 45))) 2 (some (o + 47))) := by rw [ze423]; rw [va_up_ne _ _ (show o + 42 ≠ o + 50 by omega)]; rw [va_up_ne _ _ (show o + 42 ≠ o + 49 by omega)]; exact zK412
                    have zK429 : zh422 (o + 43) = some (.inr (6, [.ref ((o + 43) + 1), .int 0, .int 32])) := by rw [ze423]; rw [va_up_ne _ _ (show o + 43 ≠ o + 50 by omega)]; rw [va_up_ne _ _ (show o + 43 ≠ o + 49 by omega)]; exact zK413
                    have zK430 : zh422 (o + 44) = arI κ 40 (fun _ => 0) := by rw [ze423]; rw [va_up_ne _ _ (show o + 44 ≠ o + 50 by omega)]; rw [va_up_ne _ _ (show o + 44 ≠ o + 49 by omega)]; exact zK414
                    have zK431 : zh422 (o + 45) = some (.inr (6, [.ref ((o + 45) + 1), .int 0, .int 32])) := by rw [ze423]; rw [va_up_ne _ _ (show o + 45 ≠ o + 50 by omega)]; rw [va_up_ne _ _ (show o + 45 ≠ o + 49 by omega)]; exact zK415
                    have zK432 : zh422 (o + 46) = arI κ 40 (fun _ => 0) := by rw [ze423]; rw [va_up_ne _ _ (show o + 46 ≠ o + 50 by omega)]; rw [va_up_ne _ _ (show o + 46 ≠ o + 49 by omega)]; exact zK416
                    have zK433 : zh422 (o + 47) = some (.inr (6, [.ref ((o + 47) + 1), .int 0, .int 32])) := by rw [ze423]; rw [va_up_ne _ _ (show o + 47 ≠ o + 50 by omega)]; rw [va_up_ne _ _ (show o + 47 ≠ o + 49 by omega)]; exact zK417
                    have zK434 : zh422 (o + 48) = arI κ 40 (fun _ => 0) := by rw [ze423]; rw [va_up_ne _ _ (show o + 48 ≠ o + 50 by omega)]; rw [va_up_ne _ _ (show o + 48 ≠ o + 49 by omega)]; exact zK418
                    have zK435 : zh422 (o + 49) = some (.inr (6, [.ref ((o + 49) + 1), .int 0, .int 32])) := by rw [ze423]; rw [va_up_ne _ _ (show o + 49 ≠ o + 50 by omega)]; exact va_up_self _ _ _
                    have zK436 : zh422 (o + 50) = arI κ 40 (fun _ => 0) := by rw [ze423]; exact va_up_self _ _ _
                    have zl437 : ∀ zq : Nat, zq < o → zh422 zq = h zq := by intro zq hzq; rw [ze423, va_up_ne _ _ (show zq ≠ o + 50 by omega), va_up_ne _ _ (show zq ≠ o + 49 by omega)]; exact zl420 zq hzq
                    have zw438 : ∀ zq : Nat, o + 1 ≤ zq → zq < o + 42 → zh422 zq = zh282 zq := by intro zq hq1 hq2; rw [ze423, va_up_ne _ _ (show zq ≠ o + 50 by omega), va_up_ne _ _ (show zq ≠ o + 49 by omega)]; try exact zw421 zq hq1 hq2
                    refine z_aast (t := 3) (E := "IcicleRings$Row") X dX11_init_107 zK428 rfl zK435 rfl (Or.inl rfl) (vp_in_nI (n := 3) (by decide) (by decide)) (congrArg (fun z => va_up zh422 (o + 42) (arR κ 3 6 (va_up (va_up (va_up (va_up (fun _ => none) 0 (some (o + 43))) 1 (some (o + 45))) 2 (some (o + 47))) z (some (o + 49))))) (nI_clamp (n := 3) (by omega))) ?_
                    obtain ⟨zh439, ze440⟩ : ∃ z : Mm, z = va_up zh422 (o + 42) (arR κ 3 6 (va_up (va_up (va_up (va_up (fun _ => none) 0 (some (o + 43))) 1 (some (o + 45))) 2 (some (o + 47))) 3 (some (o + 49)))) := ⟨_, rfl⟩
                    refine z_heap (h' := zh439) ze440.symm ?_
                    have zK441 := up_off ze440 (show o ≠ o + 42 by omega) zK427
                    have zK442 := up_at ze440
                    have zK443 := up_off ze440 (show o + 43 ≠ o + 42 by omega) zK429
                    have zK444 := up_off ze440 (show o + 44 ≠ o + 42 by omega) zK430
                    have zK445 := up_off ze440 (show o + 45 ≠ o + 42 by omega) zK431
                    have zK446 := up_off ze440 (show o + 46 ≠ o + 42 by omega) zK432
                    have zK447 := up_off ze440 (show o + 47 ≠ o + 42 by omega) zK433
                    have zK448 := up_off ze440 (show o + 48 ≠ o + 42 by omega) zK434
                    have zK449 := up_off ze440 (show o + 49 ≠ o + 42 by omega) zK435
                    have zK450 := up_off ze440 (show o + 50 ≠ o + 42 by omega) zK436
                    have zl451 : ∀ zq : Nat, zq < o → zh439 zq = h zq := by intro zq hzq; rw [ze440, va_up_ne _ _ (show zq ≠ o + 42 by omega)]; exact zl437 zq hzq
                    have zw452 : ∀ zq : Nat, o + 1 ≤ zq → zq < o + 42 → zh439 zq = zh282 zq := by intro zq hq1 hq2; rw [ze440, va_up_ne _ _ (show zq ≠ o + 42 by omega)]; try exact zw438 zq hq1 hq2
                    refine z_iinc (v := 4) (ls' := [(1, .int 4), (0, .ref o)]) X 0 dX11_init_108 rfl rfl (by decide) rfl ?_
                    refine z_goto X 85 dX11_init_111 (by decide) ?_
                    refine z_iload_n X 0 dX11_init_85 rfl ?_
                    refine z_bipush (v := 6) X dX11_init_86 (by decide) ?_
                    refine z_icmp_ge X 114 dX11_init_88 (by decide) (fun zc453 => ?_) (fun zc453 => ?_)
                    · first | exact absurd zc453 (by decide) | exact absurd (by decide) zc453
                    · try replace zc453 := mt (nI_leI (a := 6) (b := 4) (by omega) (by omega)).mpr zc453
                      refine z_aload_n X 1 dX11_init_91 rfl ?_
                      refine z_get X fl_X11_35_11 dX11_init_92 zK441 rfl ?_
                      refine z_iload_n X 0 dX11_init_95 rfl ?_
                      refine z_new X fn_X6 dX11_init_96 wd_214 (by omega) (by omega) ?_
                      obtain ⟨zh454, ze455⟩ : ∃ z : Mm, z = va_up zh439 (o + 51) (some (.inr (6, [.null, .int 0, .int 0]))) := ⟨_, rfl⟩
                      refine z_heap (h' := zh454) ze455.symm ?_
                      have zK456 := up_off ze455 (show o ≠ o + 51 by omega) zK441
                      have zK457 := up_off ze455 (show o + 42 ≠ o + 51 by omega) zK442
                      have zK458 := up_off ze455 (show o + 43 ≠ o + 51 by omega) zK443
                      have zK459 := up_off ze455 (show o + 44 ≠ o + 51 by omega) zK444
                      have zK460 := up_off ze455 (show o + 45 ≠ o + 51 by omega) zK445
                      have zK461 := up_off ze455 (show o + 46 ≠ o + 51 by omega) zK446
                      have zK462 := up_off ze455 (show o + 47 ≠ o + 51 by omega) zK447
                      have zK463 := up_off ze455 (show o + 48 ≠ o + 51 by omega) zK448
                      have zK464 := up_off ze455 (show o + 49 ≠ o + 51 by omega) zK449
                      have zK465 := up_off ze455 (show o + 50 ≠ o + 51 by omega) zK450
                      have zK466 := up_at ze455
                      have zl467 : ∀ zq : Nat, zq < o → zh454 zq = h zq := by intro zq hzq; rw [ze455, va_up_ne _ _ (show zq ≠ o + 51 by omega)]; exact zl451 zq hzq
                      have zw468 : ∀ zq : Nat, o + 1 ≤ zq → zq < o + 42 → zh454 zq = zh282 zq := by intro zq hq1 hq2; rw [ze455, va_up_ne _ _ (show zq ≠ o + 51 by omega)]; try exact zw452 zq hq1 hq2
                      refine z_dup X dX11_init_99 rfl ?_
                      refine z_bipush (v := 40) X dX11_init_100 (by decide) ?_
                      refine z_bipush (v := 32) X dX11_init_102 (by decide) ?_
                      refine z_callI X (c_Row_init (κ := κ) (r := (o + 51)) (b := (32)) (N := (40)) zK466 (by decide)) mk_X6_init dX11_init_104 wd_216 wd_169 rfl rfl rfl (Nat.le_of_ble_eq_true rfl) (Nat.le_of_ble_eq_true rfl) (Nat.le_of_ble_eq_true rfl) (by omega) (by omega) (fun q zh469 zm471 zp472 => ?_)
                      obtain ⟨rfl, ze470, zn473⟩ := zp472
                      subst zm471
                      refine z_st (st' := [.ref (o + 51), .int 4, .ref (o + 42)]) rfl ?_
                      have zK474 : zh469 o = some (.inr (11, [.ref (o + 1), .ref (o + 14), .ref (o + 27), .ref (o + 33), .ref (o + 42), .null, .null, .null, .null, .int 0])) := by rw [ze470]; rw [va_up_ne _ _ (show o ≠ o + 52 by omega)]; rw [va_up_ne _ _ (show o ≠ o + 51 by omega)]; exact zK456
                      have zK475 : zh469 (o + 42) = arR κ 3 6 (va_up (va_up (va_up (va_up (fun _ => none) 0 (some (o + 43))) 1 (some (o + 45))) 2 (some (o + 47))) 3 (some (o + 49))) := by rw [ze470]; rw [va_up_ne _ _ (show o + 42 ≠ o + 52 by omega)]; rw [va_up_ne _ _ (show o + 42 ≠ o + 51 by omega)]; exact zK457
                      have zK476 : zh469 (o + 43) = some (.inr (6, [.ref ((o + 43) + 1), .int 0, .int 32])) := by rw [ze470]; rw [va_up_ne _ _ (show o + 43 ≠ o + 52 by omega)]; rw [va_up_ne _ _ (show o + 43 ≠ o + 51 by omega)]; exact zK458
                      have zK477 : zh469 (o + 44) = arI κ 40 (fun _ => 0) := by rw [ze470]; rw [va_up_ne _ _ (show o + 44 ≠ o + 52 by omega)]; rw [va_up_ne _ _ (show o + 44 ≠ o + 51 by omega)]; exact zK459
                      have zK478 : zh469 (o + 45) = some (.inr (6, [.ref ((o + 45) + 1), .int 0, .int 32])) := by rw [ze470]; rw [va_up_ne _ _ (show o + 45 ≠ o + 52 by omega)]; rw [va_up_ne _ _ (show o + 45 ≠ o + 51 by omega)]; exact zK460
                      have zK479 : zh469 (o + 46) = arI κ 40 (fun _ => 0) := by rw [ze470]; rw [va_up_ne _ _ (show o + 46 ≠ o + 52 by omega)]; rw [va_up_ne _ _ (show o + 46 ≠ o + 51 by omega)]; exact zK461
                      have zK480 : zh469 (o + 47) = some (.inr (6, [.ref ((o + 47) + 1), .int 0, .int 32])) := by rw [ze470]; rw [va_up_ne _ _ (show o + 47 ≠ o + 52 by omega)]; rw [va_up_ne _ _ (show o + 47 ≠ o + 51 by omega)]; exact zK462
                      have zK481 : zh469 (o + 48) = arI κ 40 (fun _ => 0) := by rw [ze470]; rw [va_up_ne _ _ (show o + 48 ≠ o + 52 by omega)]; rw [va_up_ne _ _ (show o + 48 ≠ o + 51 by omega)]; exact zK463
                      have zK482 : zh469 (o + 49) = some (.inr (6, [.ref ((o + 49) + 1), .int 0, .int 32])) := by rw [ze470]; rw [va_up_ne _ _ (show o + 49 ≠ o + 52 by omega)]; rw [va_up_ne _ _ (show o + 49 ≠ o + 51 by omega)]; exact zK464
                      have zK483 : zh469 (o + 50) = arI κ 40 (fun _ => 0) := by rw [ze470]; rw [va_up_ne _ _ (show o + 50 ≠ o + 52 by omega)]; rw [va_up_ne _ _ (show o + 50 ≠ o + 51 by omega)]; exact zK465
                      have zK484 : zh469 (o + 51) = some (.inr (6, [.ref ((o + 51) + 1), .int 0, .int 32])) := by rw [ze470]; rw [va_up_ne _ _ (show o + 51 ≠ o + 52 by omega)]; exact va_up_self _ _ _
                      have zK485 : zh469 (o + 52) = arI κ 40 (fun _ => 0) := by rw [ze470]; exact va_up_self _ _ _
                      have zl486 : ∀ zq : Nat, zq < o → zh469 zq = h zq := by intro zq hzq; rw [ze470, va_up_ne _ _ (show zq ≠ o + 52 by omega), va_up_ne _ _ (show zq ≠ o + 51 by omega)]; exact zl467 zq hzq
                      have zw487 : ∀ zq : Nat, o + 1 ≤ zq → zq < o + 42 → zh469 zq = zh282 zq := by intro zq hq1 hq2; rw [ze470, va_up_ne _ _ (show zq ≠ o + 52 by omega), va_up_ne _ _ (show zq ≠ o + 51 by omega)]; try exact zw468 zq hq1 hq2
                      refine z_aast (t := 3) (E := "IcicleRings$Row") X dX11_init_107 zK475 rfl zK484 rfl (Or.inl rfl) (vp_in_nI (n := 4) (by decide) (by decide)) (congrArg (fun z => va_up zh469 (o + 42) (arR κ 3 6 (va_up (va_up (va_up (va_up (va_up (fun _ => none) 0 (some (o + 43))) 1 (some (o + 45))) 2 (some (o + 47))) 3 (some (o + 49))) z (some (o + 51))))) (nI_clamp (n := 4) (by omega))) ?_
                      obtain ⟨zh488, ze489⟩ : ∃ z : Mm, z = va_up zh469 (o + 42) (arR κ 3 6 (va_up (va_up (va_up (va_up (va_up (fun _ => none) 0 (some (o + 43))) 1 (some (o + 45))) 2 (some (o + 47))) 3 (some (o + 49))) 4 (some (o + 51)))) := ⟨_, rfl⟩
                      refine z_heap (h' := zh488) ze489.symm ?_
                      have zK490 := up_off ze489 (show o ≠ o + 42 by omega) zK474
                      have zK491 := up_at ze489
                      have zK492 := up_off ze489 (show o + 43 ≠ o + 42 by omega) zK476
                      have zK493 := up_off ze489 (show o + 44 ≠ o + 42 by omega) zK477
                      have zK494 := up_off ze489 (show o + 45 ≠ o + 42 by omega) zK478
                      have zK495 := up_off ze489 (show o + 46 ≠ o + 42 by omega) zK479
                      have zK496 := up_off ze489 (show o + 47 ≠ o + 42 by omega) zK480
                      have zK497 := up_off ze489 (show o + 48 ≠ o + 42 by omega) zK481
                      have zK498 := up_off ze489 (show o + 49 ≠ o + 42 by omega) zK482
                      have zK499 := up_off ze489 (show o + 50 ≠ o + 42 by omega) zK483
                      have zK500 := up_off ze489 (show o + 51 ≠ o + 42 by omega) zK484
                      have zK501 := up_off ze489 (show o + 52 ≠ o + 42 by omega) zK485
                      have zl502 : ∀ zq : Nat, zq < o → zh488 zq = h zq := by intro zq hzq; rw [ze489, va_up_ne _ _ (show zq ≠ o + 42 by omega)]; exact zl486 zq hzq
                      have zw503 : ∀ zq : Nat, o + 1 ≤ zq → zq < o + 42 → zh488 zq = zh282 zq := by intro zq hq1 hq2; rw [ze489, va_up_ne _ _ (show zq ≠ o + 42 by omega)]; try exact zw487 zq hq1 hq2
                      refine z_iinc (v := 5) (ls' := [(1, .int 5), (0, .ref o)]) X 0 dX11_init_108 rfl rfl (by decide) rfl ?_
                      refine z_goto X 85 dX11_init_111 (by decide) ?_
                      refine z_iload_n X 0 dX11_init_85 rfl ?_
                      refine z_bipush (v := 6) X dX11_init_86 (by decide) ?_
                      refine z_icmp_ge X 114 dX11_init_88 (by decide) (fun zc504 => ?_) (fun zc504 => ?_)
                      · first | exact absurd zc504 (by decide) | exact absurd (by decide) zc504
                      · try replace zc504 := mt (nI_leI (a := 6) (b := 5) (by omega) (by omega)).mpr zc504
                        refine z_aload_n X 1 dX11_init_91 rfl ?_
                        refine z_get X fl_X11_35_11 dX11_init_92 zK490 rfl ?_
                        refine z_iload_n X 0 dX11_init_95 rfl ?_
                        refine z_new X fn_X6 dX11_init_96 wd_214 (by omega) (by omega) ?_
                        obtain ⟨zh505, ze506⟩ : ∃ z : Mm, z = va_up zh488 (o + 53) (some (.inr (6, [.null, .int 0, .int 0]))) := ⟨_, rfl⟩
                        refine z_heap (h' := zh505) ze506.symm ?_
                        have zK507 := up_off ze506 (show o ≠ o + 53 by omega) zK490
                        have zK508 := up_off ze506 (show o + 42 ≠ o + 53 by omega) zK491
                        have zK509 := up_off ze506 (show o + 43 ≠ o + 53 by omega) zK492
                        have zK510 := up_off ze506 (show o + 44 ≠ o + 53 by omega) zK493
                        have zK511 := up_off ze506 (show o + 45 ≠ o + 53 by omega) zK494
                        have zK512 := up_off ze506 (show o + 46 ≠ o + 53 by omega) zK495
                        have zK513 := up_off ze506 (show o + 47 ≠ o + 53 by omega) zK496
                        have zK514 := up_off ze506 (show o + 48 ≠ o + 53 by omega) zK497
                        have zK515 := up_off ze506 (show o + 49 ≠ o + 53 by omega) zK498
                        have zK516 := up_off ze506 (show o + 50 ≠ o + 53 by omega) zK499
                        have zK517 := up_off ze506 (show o + 51 ≠ o + 53 by omega) zK500
                        have zK518 := up_off ze506 (show o + 52 ≠ o + 53 by omega) zK501
                        have zK519 := up_at ze506
                        have zl520 : ∀ zq : Nat, zq < o → zh505 zq = h zq := by intro zq hzq; rw [ze506, va_up_ne _ _ (show zq ≠ o + 53 by omega)]; exact zl502 zq hzq
                        have zw521 : ∀ zq : Nat, o + 1 ≤ zq → zq < o + 42 → zh505 zq = zh282 zq := by intro zq hq1 hq2; rw [ze506, va_up_ne _ _ (show zq ≠ o + 53 by omega)]; try exact zw503 zq hq1 hq2
                        refine z_dup X dX11_init_99 rfl ?_
                        refine z_bipush (v := 40) X dX11_init_100 (by decide) ?_
                        refine z_bipush (v := 32) X dX11_init_102 (by decide) ?_
                        refine z_callI X (c_Row_init (κ := κ) (r := (o + 53)) (b := (32)) (N := (40)) zK519 (by decide)) mk_X6_init dX11_init_104 wd_216 wd_169 rfl rfl rfl (Nat.le_of_ble_eq_true rfl) (Nat.le_of_ble_eq_true rfl) (Nat.le_of_ble_eq_true rfl) (by omega) (by omega) (fun q zh522 zm524 zp525 => ?_)
                        obtain ⟨rfl, ze523, zn526⟩ := zp525
                        subst zm524
                        refine z_st (st' := [.ref (o + 53), .int 5, .ref (o + 42)]) rfl ?_
                        have zK527 : zh522 o = some (.inr (11, [.ref (o + 1), .ref (o + 14), .ref (o + 27), .ref (o + 33), .ref (o + 42), .null, .null, .null, .null, .int 0])) := by rw [ze523]; rw [va_up_ne _ _ (show o ≠ o + 54 by omega)]; rw [va_up_ne _ _ (show o ≠ o + 53 by omega)]; exact zK507
                        have zK528 : zh522 (o + 42) = arR κ 3 6 (va_up (va_up (va_up (va_up (va_up (fun _ => none) 0 (some (o + 43))) 1 (some (o + 45))) 2 (some (o + 47))) 3 (some (o + 49))) 4 (some (o + 51))) := by rw [ze523]; rw [va_up_ne _ _ (show o + 42 ≠ o + 54 by omega)]; rw [va_up_ne _ _ (show o + 42 ≠ o + 53 by omega)]; exact zK508
                        have zK529 : zh522 (o + 43) = some (.inr (6, [.ref ((o + 43) + 1), .int 0, .int 32])) := by rw [ze523]; rw [va_up_ne _ _ (show o + 43 ≠ o + 54 by omega)]; rw [va_up_ne _ _ (show o + 43 ≠ o + 53 by omega)]; exact zK509
                        have zK530 : zh522 (o + 44) = arI κ 40 (fun _ => 0) := by rw [ze523]; rw [va_up_ne _ _ (show o + 44 ≠ o + 54 by omega)]; rw [va_up_ne _ _ (show o + 44 ≠ o + 53 by omega)]; exact zK510
                        have zK531 : zh522 (o + 45) = some (.inr (6, [.ref ((o + 45) + 1), .int 0, .int 32])) := by rw [ze523]; rw [va_up_ne _ _ (show o + 45 ≠ o + 54 by omega)]; rw [va_up_ne _ _ (show o + 45 ≠ o + 53 by omega)]; exact zK511
                        have zK532 : zh522 (o + 46) = arI κ 40 (fun _ => 0) := by rw [ze523]; rw [va_up_ne _ _ (show o + 46 ≠ o + 54 by omega)]; rw [va_up_ne _ _ (show o + 46 ≠ o + 53 by omega)]; exact zK512
                        have zK533 : zh522 (o + 47) = some (.inr (6, [.ref ((o + 47) + 1), .int 0, .int 32])) := by rw [ze523]; rw [va_up_ne _ _ (show o + 47 ≠ o + 54 by omega)]; rw [va_up_ne _ _ (show o + 47 ≠ o + 53 by omega)]; exact zK513
                        have zK534 : zh522 (o + 48) = arI κ 40 (fun _ => 0) := by rw [ze523]; rw [va_up_ne _ _ (show o + 48 ≠ o + 54 by omega)]; rw [va_up_ne _ _ (show o + 48 ≠ o + 53 by omega)]; exact zK514
                        have zK535 : zh522 (o + 49) = some (.inr (6, [.ref ((o + 49) + 1), .int 0, .int 32])) := by rw [ze523]; rw [va_up_ne _ _ (show o + 49 ≠ o + 54 by omega)]; rw [va_up_ne _ _ (show o + 49 ≠ o + 53 by omega)]; exact zK515
                        have zK536 : zh522 (o + 50) = arI κ 40 (fun _ => 0) := by rw [ze523]; rw [va_up_ne _ _ (show o + 50 ≠ o + 54 by omega)]; rw [va_up_ne _ _ (show o + 50 ≠ o + 53 by omega)]; exact zK516
                        have zK537 : zh522 (o + 51) = some (.inr (6, [.ref ((o + 51) + 1), .int 0, .int 32])) := by rw [ze523]; rw [va_up_ne _ _ (show o + 51 ≠ o + 54 by omega)]; rw [va_up_ne _ _ (show o + 51 ≠ o + 53 by omega)]; exact zK517
                        have zK538 : zh522 (o + 52) = arI κ 40 (fun _ => 0) := by rw [ze523]; rw [va_up_ne _ _ (show o + 52 ≠ o + 54 by omega)]; rw [va_up_ne _ _ (show o + 52 ≠ o + 53 by omega)]; exact zK518
                        have zK539 : zh522 (o + 53) = some (.inr (6, [.ref ((o + 53) + 1), .int 0, .int 32])) := by rw [ze523]; rw [va_up_ne _ _ (show o + 53 ≠ o + 54 by omega)]; exact va_up_self _ _ _
                        have zK540 : zh522 (o + 54) = arI κ 40 (fun _ => 0) := by rw [ze523]; exact va_up_self _ _ _
                        have zl541 : ∀ zq : Nat, zq < o → zh522 zq = h zq := by intro zq hzq; rw [ze523, va_up_ne _ _ (show zq ≠ o + 54 by omega), va_up_ne _ _ (show zq ≠ o + 53 by omega)]; exact zl520 zq hzq
                        have zw542 : ∀ zq : Nat, o + 1 ≤ zq → zq < o + 42 → zh522 zq = zh282 zq := by intro zq hq1 hq2; rw [ze523, va_up_ne _ _ (show zq ≠ o + 54 by omega), va_up_ne _ _ (show zq ≠ o + 53 by omega)]; try exact zw521 zq hq1 hq2
                        refine z_aast (t := 3) (E := "IcicleRings$Row") X dX11_init_107 zK528 rfl zK539 rfl (Or.inl rfl) (vp_in_nI (n := 5) (by decide) (by decide)) (congrArg (fun z => va_up zh522 (o + 42) (arR κ 3 6 (va_up (va_up (va_up (va_up (va_up (va_up (fun _ => none) 0 (some (o + 43))) 1 (some (o + 45))) 2 (some (o + 47))) 3 (some (o + 49))) 4 (some (o + 51))) z (some (o + 53))))) (nI_clamp (n := 5) (by omega))) ?_
                        obtain ⟨zh543, ze544⟩ : ∃ z : Mm, z = va_up zh522 (o + 42) (arR κ 3 6 (va_up (va_up (va_up (va_up (va_up (va_up (fun _ => none) 0 (some (o + 43))) 1 (some (o + 45))) 2 (some (o + 47))) 3 (some (o + 49))) 4 (some (o + 51))) 5 (some (o + 53)))) := ⟨_, rfl⟩
                        refine z_heap (h' := zh543) ze544.symm ?_
                        have zK545 := up_off ze544 (show o ≠ o + 42 by omega) zK527
                        have zK546 := up_at ze544
                        have zK547 := up_off ze544 (show o + 43 ≠ o + 42 by omega) zK529
                        have zK548 := up_off ze544 (show o + 44 ≠ o + 42 by omega) zK530
                        have zK549 := up_off ze544 (show o + 45 ≠ o + 42 by omega) zK531
                        have zK550 := up_off ze544 (show o + 46 ≠ o + 42 by omega) zK532
                        have zK551 := up_off ze544 (show o + 47 ≠ o + 42 by omega) zK533
                        have zK552 := up_off ze544 (show o + 48 ≠ o + 42 by omega) zK534
                        have zK553 := up_off ze544 (show o + 49 ≠ o + 42 by omega) zK535
                        have zK554 := up_off ze544 (show o + 50 ≠ o + 42 by omega) zK536
                        have zK555 := up_off ze544 (show o + 51 ≠ o + 42 by omega) zK537
                        have zK556 := up_off ze544 (show o + 52 ≠ o + 42 by omega) zK538
                        have zK557 := up_off ze544 (show o + 53 ≠ o + 42 by omega) zK539
                        have zK558 := up_off ze544 (show o + 54 ≠ o + 42 by omega) zK540
                        have zl559 : ∀ zq : Nat, zq < o → zh543 zq = h zq := by intro zq hzq; rw [ze544, va_up_ne _ _ (show zq ≠ o + 42 by omega)]; exact zl541 zq hzq
                        have zw560 : ∀ zq : Nat, o + 1 ≤ zq → zq < o + 42 → zh543 zq = zh282 zq := by intro zq hq1 hq2; rw [ze544, va_up_ne _ _ (show zq ≠ o + 42 by omega)]; try exact zw542 zq hq1 hq2
                        refine z_iinc (v := 6) (ls' := [(1, .int 6), (0, .ref o)]) X 0 dX11_init_108 rfl rfl (by decide) rfl ?_
                        refine z_goto X 85 dX11_init_111 (by decide) ?_
                        refine z_iload_n X 0 dX11_init_85 rfl ?_
                        refine z_bipush (v := 6) X dX11_init_86 (by decide) ?_
                        refine z_icmp_ge X 114 dX11_init_88 (by decide) (fun zc561 => ?_) (fun zc561 => ?_)
                        · try replace zc561 := (nI_leI (a := 6) (b := 6) (by omega) (by omega)).mp zc561
                          refine z_extR (g := grF o) zK546 (by intro k hk; have h4 : k = 0 ∨ k = 1 ∨ k = 2 ∨ k = 3 ∨ k = 4 ∨ k = 5 := (by omega); rcases h4 with rfl | rfl | rfl | rfl | rfl | rfl <;> rfl) ?_
                          obtain ⟨zh562, ze563⟩ : ∃ z : Mm, z = va_up zh543 (o + 42) (arR κ 3 6 (grF o)) := ⟨_, rfl⟩
                          refine z_heap (h' := zh562) ze563.symm ?_
                          have zK564 := up_off ze563 (show o ≠ o + 42 by omega) zK545
                          have zK565 := up_at ze563
                          have zK566 := up_off ze563 (show o + 43 ≠ o + 42 by omega) zK547
                          have zK567 := up_off ze563 (show o + 44 ≠ o + 42 by omega) zK548
                          have zK568 := up_off ze563 (show o + 45 ≠ o + 42 by omega) zK549
                          have zK569 := up_off ze563 (show o + 46 ≠ o + 42 by omega) zK550
                          have zK570 := up_off ze563 (show o + 47 ≠ o + 42 by omega) zK551
                          have zK571 := up_off ze563 (show o + 48 ≠ o + 42 by omega) zK552
                          have zK572 := up_off ze563 (show o + 49 ≠ o + 42 by omega) zK553
                          have zK573 := up_off ze563 (show o + 50 ≠ o + 42 by omega) zK554
                          have zK574 := up_off ze563 (show o + 51 ≠ o + 42 by omega) zK555
                          have zK575 := up_off ze563 (show o + 52 ≠ o + 42 by omega) zK556
                          have zK576 := up_off ze563 (show o + 53 ≠ o + 42 by omega) zK557
                          have zK577 := up_off ze563 (show o + 54 ≠ o + 42 by omega) zK558
                          have zl578 : ∀ zq : Nat, zq < o → zh562 zq = h zq := by intro zq hzq; rw [ze563, va_up_ne _ _ (show zq ≠ o + 42 by omega)]; exact zl559 zq hzq
                          have zw579 : ∀ zq : Nat, o + 1 ≤ zq → zq < o + 42 → zh562 zq = zh282 zq := by intro zq hq1 hq2; rw [ze563, va_up_ne _ _ (show zq ≠ o + 42 by omega)]; try exact zw560 zq hq1 hq2
                          have zw580 : ∀ zq : Nat, o + 1 ≤ zq → zq < o + 55 → zh562 zq = zh562 zq := fun _ _ _ => rfl
                          refine z_aload_n X 1 dX11_init_114 rfl ?_
                          refine z_new X fn_X6 dX11_init_115 wd_214 (by omega) (by omega) ?_
                          obtain ⟨zh581, ze582⟩ : ∃ z : Mm, z = va_up zh562 (o + 55) (some (.inr (6, [.null, .int 0, .int 0]))) := ⟨_, rfl⟩
                          refine z_heap (h' := zh581) ze582.symm ?_
                          have zK583 := up_off ze582 (show o ≠ o + 55 by omega) zK564
                          have zK584 := up_at ze582
                          have zl585 : ∀ zq : Nat, zq < o → zh581 zq = h zq := by intro zq hzq; rw [ze582, va_up_ne _ _ (show zq ≠ o + 55 by omega)]; exact zl578 zq hzq
                          have zw586 : ∀ zq : Nat, o + 1 ≤ zq → zq < o + 55 → zh581 zq = zh562 zq := by intro zq hq1 hq2; rw [ze582, va_up_ne _ _ (show zq ≠ o + 55 by omega)]; try exact zw580 zq hq1 hq2
                          refine z_dup X dX11_init_118 rfl ?_
                          refine z_bipush (v := 40) X dX11_init_119 (by decide) ?_
                          refine z_bipush (v := 32) X dX11_init_121 (by decide) ?_
                          refine z_callI X (c_Row_init (κ := κ) (r := (o + 55)) (b := (32)) (N := (40)) zK584 (by decide)) mk_X6_init dX11_init_123 wd_216 wd_169 rfl rfl rfl (Nat.le_of_ble_eq_true rfl) (Nat.le_of_ble_eq_true rfl) (Nat.le_of_ble_eq_true rfl) (by omega) (by omega) (fun q zh587 zm589 zp590 => ?_)
                          obtain ⟨rfl, ze588, zn591⟩ := zp590
                          subst zm589
                          refine z_st (st' := [.ref (o + 55), .ref o]) rfl ?_
                          have zK592 : zh587 o = some (.inr (11, [.ref (o + 1), .ref (o + 14), .ref (o + 27), .ref (o + 33), .ref (o + 42), .null, .null, .null, .null, .int 0])) := by rw [ze588]; rw [va_up_ne _ _ (show o ≠ o + 56 by omega)]; rw [va_up_ne _ _ (show o ≠ o + 55 by omega)]; exact zK583
                          have zK593 : zh587 (o + 55) = some (.inr (6, [.ref ((o + 55) + 1), .int 0, .int 32])) := by rw [ze588]; rw [va_up_ne _ _ (show o + 55 ≠ o + 56 by omega)]; exact va_up_self _ _ _
                          have zK594 : zh587 (o + 56) = arI κ 40 (fun _ => 0) := by rw [ze588]; exact va_up_self _ _ _
                          have zl595 : ∀ zq : Nat, zq < o → zh587 zq = h zq := by intro zq hzq; rw [ze588, va_up_ne _ _ (show zq ≠ o + 56 by omega), va_up_ne _ _ (show zq ≠ o + 55 by omega)]; exact zl585 zq hzq
                          have zw596 : ∀ zq : Nat, o + 1 ≤ zq → zq < o + 55 → zh587 zq = zh562 zq := by intro zq hq1 hq2; rw [ze588, va_up_ne _ _ (show zq ≠ o + 56 by omega), va_up_ne _ _ (show zq ≠ o + 55 by omega)]; try exact zw586 zq hq1 hq2
                          refine z_putF X E fp_X11_38_11 dX11_init_126 zK592 (by first | rfl | decide) (by first | rfl | decide) (Nat.le_of_ble_eq_true rfl) rfl ?_
                          obtain ⟨zh597, ze598⟩ : ∃ z : Mm, z = va_up zh587 o (some (.inr (11, [.ref (o + 1), .ref (o + 14), .ref (o + 27), .ref (o + 33), .ref (o + 42), .ref (o + 55), .null, .null, .null, .int 0]))) := ⟨_, rfl⟩
                          refine z_heap (h' := zh597) ze598.symm ?_
                          have zK599 := up_at ze598
                          have zK600 := up_off ze598 (show o + 55 ≠ o by omega) zK593
                          have zK601 := up_off ze598 (show o + 56 ≠ o by omega) zK594
                          have zl602 : ∀ zq : Nat, zq < o → zh597 zq = h zq := by intro zq hzq; rw [ze598, va_up_ne _ _ (show zq ≠ o by omega)]; exact zl595 zq hzq
                          have zw603 : ∀ zq : Nat, o + 1 ≤ zq → zq < o + 55 → zh597 zq = zh562 zq := by intro zq hq1 hq2; rw [ze598, va_up_ne _ _ (show zq ≠ o by omega)]; try exact zw596 zq hq1 hq2
                          refine z_aload_n X 1 dX11_init_129 rfl ?_
                          refine z_new X fn_X6 dX11_init_130 wd_214 (by omega) (by omega) ?_
                          obtain ⟨zh604, ze605⟩ : ∃ z : Mm, z = va_up zh597 (o + 57) (some (.inr (6, [.null, .int 0, .int 0]))) := ⟨_, rfl⟩
                          refine z_heap (h' := zh604) ze605.symm ?_
                          have zK606 := up_off ze605 (show o ≠ o + 57 by omega) zK599
                          have zK607 := up_off ze605 (show o + 55 ≠ o + 57 by omega) zK600
                          have zK608 := up_off ze605 (show o + 56 ≠ o + 57 by omega) zK601
                          have zK609 := up_at ze605
                          have zl610 : ∀ zq : Nat, zq < o → zh604 zq = h zq := by intro zq hzq; rw [ze605, va_up_ne _ _ (show zq ≠ o + 57 by omega)]; exact zl602 zq hzq
                          have zw611 : ∀ zq : Nat, o + 1 ≤ zq → zq < o + 55 → zh604 zq = zh562 zq := by intro zq hq1 hq2; rw [ze605, va_up_ne _ _ (show zq ≠ o + 57 by omega)]; try exact zw603 zq hq1 hq2
                          refine z_dup X dX11_init_133 rfl ?_
                          refine z_bipush (v := 40) X dX11_init_134 (by decide) ?_
                          refine z_bipush (v := 32) X dX11_init_136 (by decide) ?_
                          refine z_callI X (c_Row_init (κ := κ) (r := (o + 57)) (b := (32)) (N := (40)) zK609 (by decide)) mk_X6_init dX11_init_138 wd_216 wd_169 rfl rfl rfl (Nat.le_of_ble_eq_true rfl) (Nat.le_of_ble_eq_true rfl) (Nat.le_of_ble_eq_true rfl) (by omega) (by omega) (fun q zh612 zm614 zp615 => ?_)
                          obtain ⟨rfl, ze613, zn616⟩ := zp615
                          subst zm614
                          refine z_st (st' := [.ref (o + 57), .ref o]) rfl ?_
                          have zK617 : zh612 o = some (.inr (11, [.ref (o + 1), .ref (o + 14), .ref (o + 27), .ref (o + 33), .ref (o + 42), .ref (o + 55), .null, .null, .null, .int 0])) := by rw [ze613]; rw [va_up_ne _ _ (show o ≠ o + 58 by omega)]; rw [va_up_ne _ _ (show o ≠ o + 57 by omega)]; exact zK606
                          have zK618 : zh612 (o + 55) = some (.inr (6, [.ref ((o + 55) + 1), .int 0, .int 32])) := by rw [ze613]; rw [va_up_ne _ _ (show o + 55 ≠ o + 58 by omega)]; rw [va_up_ne _ _ (show o + 55 ≠ o + 57 by omega)]; exact zK607
                          have zK619 : zh612 (o + 56) = arI κ 40 (fun _ => 0) := by rw [ze613]; rw [va_up_ne _ _ (show o + 56 ≠ o + 58 by omega)]; rw [va_up_ne _ _ (show o + 56 ≠ o + 57 by omega)]; exact zK608
                          have zK620 : zh612 (o + 57) = some (.inr (6, [.ref ((o + 57) + 1), .int 0, .int 32])) := by rw [ze613]; rw [va_up_ne _ _ (show o + 57 ≠ o + 58 by omega)]; exact va_up_self _ _ _
                          have zK621 : zh612 (o + 58) = arI κ 40 (fun _ => 0) := by rw [ze613]; exact va_up_self _ _ _
                          have zl622 : ∀ zq : Nat, zq < o → zh612 zq = h zq := by intro zq hzq; rw [ze613, va_up_ne _ _ (show zq ≠ o + 58 by omega), va_up_ne _ _ (show zq ≠ o + 57 by omega)]; exact zl610 zq hzq
                          have zw623 : ∀ zq : Nat, o + 1 ≤ zq → zq < o + 55 → zh612 zq = zh562 zq := by intro zq hq1 hq2; rw [ze613, va_up_ne _ _ (show zq ≠ o + 58 by omega), va_up_ne _ _ (show zq ≠ o + 57 by omega)]; try exact zw611 zq hq1 hq2
                          refine z_putF X E fp_X11_42_11 dX11_init_141 zK617 (by first | rfl | decide) (by first | rfl | decide) (Nat.le_of_ble_eq_true rfl) rfl ?_
                          obtain ⟨zh624, ze625⟩ : ∃ z : Mm, z = va_up zh612 o (some (.inr (11, [.ref (o + 1), .ref (o + 14), .ref (o + 27), .ref (o + 33), .ref (o + 42), .ref (o + 55), .ref (o + 57), .null, .null, .int 0]))) := ⟨_, rfl⟩
                          refine z_heap (h' := zh624) ze625.symm ?_
                          have zK626 := up_at ze625
                          have zK627 := up_off ze625 (show o + 55 ≠ o by omega) zK618
                          have zK628 := up_off ze625 (show o + 56 ≠ o by omega) zK619
                          have zK629 := up_off ze625 (show o + 57 ≠ o by omega) zK620
                          have zK630 := up_off ze625 (show o + 58 ≠ o by omega) zK621
                          have zl631 : ∀ zq : Nat, zq < o → zh624 zq = h zq := by intro zq hzq; rw [ze625, va_up_ne _ _ (show zq ≠ o by omega)]; exact zl622 zq hzq
                          have zw632 : ∀ zq : Nat, o + 1 ≤ zq → zq < o + 55 → zh624 zq = zh562 zq := by intro zq hq1 hq2; rw [ze625, va_up_ne _ _ (show zq ≠ o by omega)]; try exact zw623 zq hq1 hq2
                          refine z_aload_n X 1 dX11_init_144 rfl ?_
                          refine z_new X fn_X6 dX11_init_145 wd_214 (by omega) (by omega) ?_
                          obtain ⟨zh633, ze634⟩ : ∃ z : Mm, z = va_up zh624 (o + 59) (some (.inr (6, [.null, .int 0, .int 0]))) := ⟨_, rfl⟩
                          refine z_heap (h' := zh633) ze634.symm ?_
                          have zK635 := up_off ze634 (show o ≠ o + 59 by omega) zK626
                          have zK636 := up_off ze634 (show o + 55 ≠ o + 59 by omega) zK627
                          have zK637 := up_off ze634 (show o + 56 ≠ o + 59 by omega) zK628
                          have zK638 := up_off ze634 (show o + 57 ≠ o + 59 by omega) zK629
                          have zK639 := up_off ze634 (show o + 58 ≠ o + 59 by omega) zK630
                          have zK640 := up_at ze634
                          have zl641 : ∀ zq : Nat, zq < o → zh633 zq = h zq := by intro zq hzq; rw [ze634, va_up_ne _ _ (show zq ≠ o + 59 by omega)]; exact zl631 zq hzq
                          have zw642 : ∀ zq : Nat, o + 1 ≤ zq → zq < o + 55 → zh633 zq = zh562 zq := by intro zq hq1 hq2; rw [ze634, va_up_ne _ _ (show zq ≠ o + 59 by omega)]; try exact zw632 zq hq1 hq2
                          refine z_dup X dX11_init_148 rfl ?_
                          refine z_bipush (v := 40) X dX11_init_149 (by decide) ?_
                          refine z_bipush (v := 32) X dX11_init_151 (by decide) ?_
                          refine z_callI X (c_Row_init (κ := κ) (r := (o + 59)) (b := (32)) (N := (40)) zK640 (by decide)) mk_X6_init dX11_init_153 wd_216 wd_169 rfl rfl rfl (Nat.le_of_ble_eq_true rfl) (Nat.le_of_ble_eq_true rfl) (Nat.le_of_ble_eq_true rfl) (by omega) (by omega) (fun q zh643 zm645 zp646 => ?_)
                          obtain ⟨rfl, ze644, zn647⟩ := zp646
                          subst zm645
                          refine z_st (st' := [.ref (o + 59), .ref o]) rfl ?_
                          have zK648 : zh643 o = some (.inr (11, [.ref (o + 1), .ref (o + 14), .ref (o + 27), .ref (o + 33), .ref (o + 42), .ref (o + 55), .ref (o + 57), .null, .null, .int 0])) := by rw [ze644]; rw [va_up_ne _ _ (show o ≠ o + 60 by omega)]; rw [va_up_ne _ _ (show o ≠ o + 59 by omega)]; exact zK635
                          have zK649 : zh643 (o + 55) = some (.inr (6, [.ref ((o + 55) + 1), .int 0, .int 32])) := by rw [ze644]; rw [va_up_ne _ _ (show o + 55 ≠ o + 60 by omega)]; rw [va_up_ne _ _ (show o + 55 ≠ o + 59 by omega)]; exact zK636
                          have zK650 : zh643 (o + 56) = arI κ 40 (fun _ => 0) := by rw [ze644]; rw [va_up_ne _ _ (show o + 56 ≠ o + 60 by omega)]; rw [va_up_ne _ _ (show o + 56 ≠ o + 59 by omega)]; exact zK637
                          have zK651 : zh643 (o + 57) = some (.inr (6, [.ref ((o + 57) + 1), .int 0, .int 32])) := by rw [ze644]; rw [va_up_ne _ _ (show o + 57 ≠ o + 60 by omega)]; rw [va_up_ne _ _ (show o + 57 ≠ o + 59 by omega)]; exact zK638
                          have zK652 : zh643 (o + 58) = arI κ 40 (fun _ => 0) := by rw [ze644]; rw [va_up_ne _ _ (show o + 58 ≠ o + 60 by omega)]; rw [va_up_ne _ _ (show o + 58 ≠ o + 59 by omega)]; exact zK639
                          have zK653 : zh643 (o + 59) = some (.inr (6, [.ref ((o + 59) + 1), .int 0, .int 32])) := by rw [ze644]; rw [va_up_ne _ _ (show o + 59 ≠ o + 60 by omega)]; exact va_up_self _ _ _
                          have zK654 : zh643 (o + 60) = arI κ 40 (fun _ => 0) := by rw [ze644]; exact va_up_self _ _ _
                          have zl655 : ∀ zq : Nat, zq < o → zh643 zq = h zq := by intro zq hzq; rw [ze644, va_up_ne _ _ (show zq ≠ o + 60 by omega), va_up_ne _ _ (show zq ≠ o + 59 by omega)]; exact zl641 zq hzq
                          have zw656 : ∀ zq : Nat, o + 1 ≤ zq → zq < o + 55 → zh643 zq = zh562 zq := by intro zq hq1 hq2; rw [ze644, va_up_ne _ _ (show zq ≠ o + 60 by omega), va_up_ne _ _ (show zq ≠ o + 59 by omega)]; try exact zw642 zq hq1 hq2
                          refine z_putF X E fp_X11_45_11 dX11_init_156 zK648 (by first | rfl | decide) (by first | rfl | decide) (Nat.le_of_ble_eq_true rfl) rfl ?_
                          obtain ⟨zh657, ze658⟩ : ∃ z : Mm, z = va_up zh643 o (some (.inr (11, [.ref (o + 1), .ref (o + 14), .ref (o + 27), .ref (o + 33), .ref (o + 42), .ref (o + 55), .ref (o + 57), .ref (o + 59), .null, .int 0]))) := ⟨_, rfl⟩
                          refine z_heap (h' := zh657) ze658.symm ?_
                          have zK659 := up_at ze658
                          have zK660 := up_off ze658 (show o + 55 ≠ o by omega) zK649
                          have zK661 := up_off ze658 (show o + 56 ≠ o by omega) zK650
                          have zK662 := up_off ze658 (show o + 57 ≠ o by omega) zK651
                          have zK663 := up_off ze658 (show o + 58 ≠ o by omega) zK652
                          have zK664 := up_off ze658 (show o + 59 ≠ o by omega) zK653
                          have zK665 := up_off ze658 (show o + 60 ≠ o by omega) zK654
                          have zl666 : ∀ zq : Nat, zq < o → zh657 zq = h zq := by intro zq hzq; rw [ze658, va_up_ne _ _ (show zq ≠ o by omega)]; exact zl655 zq hzq
                          have zw667 : ∀ zq : Nat, o + 1 ≤ zq → zq < o + 55 → zh657 zq = zh562 zq := by intro zq hq1 hq2; rw [ze658, va_up_ne _ _ (show zq ≠ o by omega)]; try exact zw656 zq hq1 hq2
                          refine z_aload_n X 1 dX11_init_159 rfl ?_
                          refine z_bipush (v := 6) X dX11_init_160 (by decide) ?_
                          refine z_newa (N := 6) X dX11_init_162 wd_165 (by decide) (by decide) (by omega) (by omega) (by omega) ?_
                          obtain ⟨zh668, ze669⟩ : ∃ z : Mm, z = va_up zh657 (o + 61) (arI κ 6 (fun _ => 0)) := ⟨_, rfl⟩
                          refine z_heap (h' := zh668) ze669.symm ?_
                          have zK670 := up_off ze669 (show o ≠ o + 61 by omega) zK659
                          have zK671 := up_off ze669 (show o + 55 ≠ o + 61 by omega) zK660
                          have zK672 := up_off ze669 (show o + 56 ≠ o + 61 by omega) zK661
                          have zK673 := up_off ze669 (show o + 57 ≠ o + 61 by omega) zK662
                          have zK674 := up_off ze669 (show o + 58 ≠ o + 61 by omega) zK663
                          have zK675 := up_off ze669 (show o + 59 ≠ o + 61 by omega) zK664
                          have zK676 := up_off ze669 (show o + 60 ≠ o + 61 by omega) zK665
                          have zK677 := up_at ze669
                          have zl678 : ∀ zq : Nat, zq < o → zh668 zq = h zq := by intro zq hzq; rw [ze669, va_up_ne _ _ (show zq ≠ o + 61 by omega)]; exact zl666 zq hzq
                          have zw679 : ∀ zq : Nat, o + 1 ≤ zq → zq < o + 55 → zh668 zq = zh562 zq := by intro zq hq1 hq2; rw [ze669, va_up_ne _ _ (show zq ≠ o + 61 by omega)]; try exact zw667 zq hq1 hq2
                          refine z_putF X E fp_X11_48_11 dX11_init_164 zK670 (by first | rfl | decide) (by first | rfl | decide) (Nat.le_of_ble_eq_true rfl) rfl ?_
                          obtain ⟨zh680, ze681⟩ : ∃ z : Mm, z = va_up zh668 o (some (.inr (11, [.ref (o + 1), .ref (o + 14), .ref (o + 27), .ref (o + 33), .ref (o + 42), .ref (o + 55), .ref (o + 57), .ref (o + 59), .ref (o + 61), .int 0]))) := ⟨_, rfl⟩
                          refine z_heap (h' := zh680) ze681.symm ?_
                          have zK682 := up_at ze681
                          have zK683 := up_off ze681 (show o + 55 ≠ o by omega) zK671
                          have zK684 := up_off ze681 (show o + 56 ≠ o by omega) zK672
                          have zK685 := up_off ze681 (show o + 57 ≠ o by omega) zK673
                          have zK686 := up_off ze681 (show o + 58 ≠ o by omega) zK674
                          have zK687 := up_off ze681 (show o + 59 ≠ o by omega) zK675
                          have zK688 := up_off ze681 (show o + 60 ≠ o by omega) zK676
                          have zK689 := up_off ze681 (show o + 61 ≠ o by omega) zK677
                          have zl690 : ∀ zq : Nat, zq < o → zh680 zq = h zq := by intro zq hzq; rw [ze681, va_up_ne _ _ (show zq ≠ o by omega)]; exact zl678 zq hzq
                          have zw691 : ∀ zq : Nat, o + 1 ≤ zq → zq < o + 55 → zh680 zq = zh562 zq := by intro zq hq1 hq2; rw [ze681, va_up_ne _ _ (show zq ≠ o by omega)]; try exact zw679 zq hq1 hq2
                          refine z_aload_n X 1 dX11_init_167 rfl ?_
                          refine z_iconst (v := 0) X dX11_init_168 (by decide) ?_
                          refine z_put X fp_X11_52_11 dX11_init_169 zK682 (by first | rfl | decide) (by first | rfl | decide) (Nat.le_of_ble_eq_true rfl) rfl ?_
                          obtain ⟨zh692, ze693⟩ : ∃ z : Mm, z = va_up zh680 o (some (.inr (11, [.ref (o + 1), .ref (o + 14), .ref (o + 27), .ref (o + 33), .ref (o + 42), .ref (o + 55), .ref (o + 57), .ref (o + 59), .ref (o + 61), .int 0]))) := ⟨_, rfl⟩
                          refine z_heap (h' := zh692) ze693.symm ?_
                          have zK694 := up_at ze693
                          have zK695 := up_off ze693 (show o + 55 ≠ o by omega) zK683
                          have zK696 := up_off ze693 (show o + 56 ≠ o by omega) zK684
                          have zK697 := up_off ze693 (show o + 57 ≠ o by omega) zK685
                          have zK698 := up_off ze693 (show o + 58 ≠ o by omega) zK686
                          have zK699 := up_off ze693 (show o + 59 ≠ o by omega) zK687
                          have zK700 := up_off ze693 (show o + 60 ≠ o by omega) zK688
                          have zK701 := up_off ze693 (show o + 61 ≠ o by omega) zK689
                          have zl702 : ∀ zq : Nat, zq < o → zh692 zq = h zq := by intro zq hzq; rw [ze693, va_up_ne _ _ (show zq ≠ o by omega)]; exact zl690 zq hzq
                          have zw703 : ∀ zq : Nat, o + 1 ≤ zq → zq < o + 55 → zh692 zq = zh562 zq := by intro zq hq1 hq2; rw [ze693, va_up_ne _ _ (show zq ≠ o by omega)]; try exact zw691 zq hq1 hq2
                          refine z_vret X E dX11_init_172 (by omega) (by omega) ⟨?_, ?_, ?_, ?_, ?_, ?_, ?_, ?_, ?_, ?_, ?_, ?_, ?_, ?_, ?_, ?_, ?_, ?_, ?_, ?_, ?_, ?_, ?_, ?_, ?_, ?_, ?_, ?_, ?_, ?_, ?_, ?_, ?_, ?_, ?_, ?_, ?_, ?_, ?_, ?_, ?_, ?_, ?_, ?_, ?_, ?_, ?_, ?_, ?_, ?_, ?_, ?_, ?_, ?_, ?_, ?_, ?_, ?_, ?_, ?_, ?_, ?_, ?_, ?_, ?_⟩
                          · rfl
                          · rfl
                          · exact zl702
                          · exact zK694
                          · exact (zw703 (o + 1) (by omega) (by omega)).trans ((zw579 (o + 1) (by omega) (by omega)).trans ((zw295 (o + 1) (by omega) (by omega)).trans ((zw123 (o + 1) (by omega) (by omega)).trans ((zw90 (o + 1) (by omega) (by omega)).trans (zK30)))))
                          · exact (zw703 (o + 2) (by omega) (by omega)).trans ((zw579 (o + 2) (by omega) (by omega)).trans ((zw295 (o + 2) (by omega) (by omega)).trans ((zw123 (o + 2) (by omega) (by omega)).trans ((zw90 (o + 2) (by omega) (by omega)).trans (zK31)))))
                          · exact (zw703 (o + 3) (by omega) (by omega)).trans ((zw579 (o + 3) (by omega) (by omega)).trans ((zw295 (o + 3) (by omega) (by omega)).trans ((zw123 (o + 3) (by omega) (by omega)).trans ((zw90 (o + 3) (by omega) (by omega)).trans (zK32)))))
                          · exact (zw703 (o + 4) (by omega) (by omega)).trans ((zw579 (o + 4) (by omega) (by omega)).trans ((zw295 (o + 4) (by omega) (by omega)).trans ((zw123 (o + 4) (by omega) (by omega)).trans ((zw90 (o + 4) (by omega) (by omega)).trans (zK33)))))
                          · exact (zw703 (o + 5) (by omega) (by omega)).trans ((zw579 (o + 5) (by omega) (by omega)).trans ((zw295 (o + 5) (by omega) (by omega)).trans ((zw123 (o + 5) (by omega) (by omega)).trans ((zw90 (o + 5) (by omega) (by omega)).trans (zK34)))))
                          · exact (zw703 (o + 6) (by omega) (by omega)).trans ((zw579 (o + 6) (by omega) (by omega)).trans ((zw295 (o + 6) (by omega) (by omega)).trans ((zw123 (o + 6) (by omega) (by omega)).trans ((zw90 (o + 6) (by omega) (by omega)).trans (zK35)))))
                          · exact (zw703 (o + 7) (by omega) (by omega)).trans ((zw579 (o + 7) (by omega) (by omega)).trans ((zw295 (o + 7) (by omega) (by omega)).trans ((zw123 (o + 7) (by omega) (by omega)).trans ((zw90 (o + 7) (by omega) (by omega)).trans (zK36)))))
                          · exact (zw703 (o + 8) (by omega) (by omega)).trans ((zw579 (o + 8) (by omega) (by omega)).trans ((zw295 (o + 8) (by omega) (by omega)).trans ((zw123 (o + 8) (by omega) (by omega)).trans ((zw90 (o + 8) (by omega) (by omega)).trans (zK37)))))
                          · exact (zw703 (o + 9) (by omega) (by omega)).trans ((zw579 (o + 9) (by omega) (by omega)).trans ((zw295 (o + 9) (by omega) (by omega)).trans ((zw123 (o + 9) (by omega) (by omega)).trans ((zw90 (o + 9) (by omega) (by omega)).trans (zK38)))))
                          · exact (zw703 (o + 10) (by omega) (by omega)).trans ((zw579 (o + 10) (by omega) (by omega)).trans ((zw295 (o + 10) (by omega) (by omega)).trans ((zw123 (o + 10) (by omega) (by omega)).trans ((zw90 (o + 10) (by omega) (by omega)).trans (zK39)))))
                          · exact (zw703 (o + 11) (by omega) (by omega)).trans ((zw579 (o + 11) (by omega) (by omega)).trans ((zw295 (o + 11) (by omega) (by omega)).trans ((zw123 (o + 11) (by omega) (by omega)).trans ((zw90 (o + 11) (by omega) (by omega)).trans (zK40)))))
                          · exact (zw703 (o + 12) (by omega) (by omega)).trans ((zw579 (o + 12) (by omega) (by omega)).trans ((zw295 (o + 12) (by omega) (by omega)).trans ((zw123 (o + 12) (by omega) (by omega)).trans ((zw90 (o + 12) (by omega) (by omega)).trans (zK41)))))
                          · exact (zw703 (o + 13) (by omega) (by omega)).trans ((zw579 (o + 13) (by omega) (by omega)).trans ((zw295 (o + 13) (by omega) (by omega)).trans ((zw123 (o + 13) (by omega) (by omega)).trans ((zw90 (o + 13) (by omega) (by omega)).trans (zK42)))))
                          · exact (zw703 (o + 14) (by omega) (by omega)).trans ((zw579 (o + 14) (by omega) (by omega)).trans ((zw295 (o + 14) (by omega) (by omega)).trans ((zw123 (o + 14) (by omega) (by omega)).trans (zK76))))
                          · exact (zw703 (o + 15) (by omega) (by omega)).trans ((zw579 (o + 15) (by omega) (by omega)).trans ((zw295 (o + 15) (by omega) (by omega)).trans ((zw123 (o + 15) (by omega) (by omega)).trans (zK77))))
                          · exact (zw703 (o + 16) (by omega) (by omega)).trans ((zw579 (o + 16) (by omega) (by omega)).trans ((zw295 (o + 16) (by omega) (by omega)).trans ((zw123 (o + 16) (by omega) (by omega)).trans (zK78))))
                          · exact (zw703 (o + 17) (by omega) (by omega)).trans ((zw579 (o + 17) (by omega) (by omega)).trans ((zw295 (o + 17) (by omega) (by omega)).trans ((zw123 (o + 17) (by omega) (by omega)).trans (zK79))))
                          · exact (zw703 (o + 18) (by omega) (by omega)).trans ((zw579 (o + 18) (by omega) (by omega)).trans ((zw295 (o + 18) (by omega) (by omega)).trans ((zw123 (o + 18) (by omega) (by omega)).trans (zK80))))
                          · exact (zw703 (o + 19) (by omega) (by omega)).trans ((zw579 (o + 19) (by omega) (by omega)).trans ((zw295 (o + 19) (by omega) (by omega)).trans ((zw123 (o + 19) (by omega) (by omega)).trans (zK81))))
                          · exact (zw703 (o + 20) (by omega) (by omega)).trans ((zw579 (o + 20) (by omega) (by omega)).trans ((zw295 (o + 20) (by omega) (by omega)).trans ((zw123 (o + 20) (by omega) (by omega)).trans (zK82))))
                          · exact (zw703 (o + 21) (by omega) (by omega)).trans ((zw579 (o + 21) (by omega) (by omega)).trans ((zw295 (o + 21) (by omega) (by omega)).trans ((zw123 (o + 21) (by omega) (by omega)).trans (zK83))))
                          · exact (zw703 (o + 22) (by omega) (by omega)).trans ((zw579 (o + 22) (by omega) (by omega)).trans ((zw295 (o + 22) (by omega) (by omega)).trans ((zw123 (o + 22) (by omega) (by omega)).trans (zK84))))
                          · exact (zw703 (o + 23) (by omega) (by omega)).trans ((zw579 (o + 23) (by omega) (by omega)).trans ((zw295 (o + 23) (by omega) (by omega)).trans ((zw123 (o + 23) (by omega) (by omega)).trans (zK85))))
                          · exact (zw703 (o + 24) (by omega) (by omega)).trans ((zw579 (o + 24) (by omega) (by omega)).trans ((zw295 (o + 24) (by omega) (by omega)).trans ((zw123 (o + 24) (by omega) (by omega)).trans (zK86))))
                          · exact (zw703 (o + 25) (by omega) (by omega)).trans ((zw579 (o + 25) (by omega) (by omega)).trans ((zw295 (o + 25) (by omega) (by omega)).trans ((zw123 (o + 25) (by omega) (by omega)).trans (zK87))))
                          · exact (zw703 (o + 26) (by omega) (by omega)).trans ((zw579 (o + 26) (by omega) (by omega)).trans ((zw295 (o + 26) (by omega) (by omega)).trans ((zw123 (o + 26) (by omega) (by omega)).trans (zK88))))
                          · exact (zw703 (o + 27) (by omega) (by omega)).trans ((zw579 (o + 27) (by omega) (by omega)).trans ((zw295 (o + 27) (by omega) (by omega)).trans (zK116)))
                          · exact (zw703 (o + 28) (by omega) (by omega)).trans ((zw579 (o + 28) (by omega) (by omega)).trans ((zw295 (o + 28) (by omega) (by omega)).trans (zK117)))
                          · exact (zw703 (o + 29) (by omega) (by omega)).trans ((zw579 (o + 29) (by omega) (by omega)).trans ((zw295 (o + 29) (by omega) (by omega)).trans (zK118)))
                          · exact (zw703 (o + 30) (by omega) (by omega)).trans ((zw579 (o + 30) (by omega) (by omega)).trans ((zw295 (o + 30) (by omega) (by omega)).trans (zK119)))
                          · exact (zw703 (o + 31) (by omega) (by omega)).trans ((zw579 (o + 31) (by omega) (by omega)).trans ((zw295 (o + 31) (by omega) (by omega)).trans (zK120)))
                          · exact (zw703 (o + 32) (by omega) (by omega)).trans ((zw579 (o + 32) (by omega) (by omega)).trans ((zw295 (o + 32) (by omega) (by omega)).trans (zK121)))
                          · exact (zw703 (o + 33) (by omega) (by omega)).trans ((zw579 (o + 33) (by omega) (by omega)).trans (zK285))
                          · exact (zw703 (o + 34) (by omega) (by omega)).trans ((zw579 (o + 34) (by omega) (by omega)).trans (zK286))
                          · exact (zw703 (o + 35) (by omega) (by omega)).trans ((zw579 (o + 35) (by omega) (by omega)).trans (zK287))
                          · exact (zw703 (o + 36) (by omega) (by omega)).trans ((zw579 (o + 36) (by omega) (by omega)).trans (zK288))
                          · exact (zw703 (o + 37) (by omega) (by omega)).trans ((zw579 (o + 37) (by omega) (by omega)).trans (zK289))
                          · exact (zw703 (o + 38) (by omega) (by omega)).trans ((zw579 (o + 38) (by omega) (by omega)).trans (zK290))
                          · exact (zw703 (o + 39) (by omega) (by omega)).trans ((zw579 (o + 39) (by omega) (by omega)).trans (zK291))
                          · exact (zw703 (o + 40) (by omega) (by omega)).trans ((zw579 (o + 40) (by omega) (by omega)).trans (zK292))
                          · exact (zw703 (o + 41) (by omega) (by omega)).trans ((zw579 (o + 41) (by omega) (by omega)).trans (zK293))
                          · exact (zw703 (o + 42) (by omega) (by omega)).trans (zK565)
                          · exact (zw703 (o + 43) (by omega) (by omega)).trans (zK566)
                          · exact (zw703 (o + 44) (by omega) (by omega)).trans (zK567)
                          · exact (zw703 (o + 45) (by omega) (by omega)).trans (zK568)
                          · exact (zw703 (o + 46) (by omega) (by omega)).trans (zK569)
                          · exact (zw703 (o + 47) (by omega) (by omega)).trans (zK570)
                          · exact (zw703 (o + 48) (by omega) (by omega)).trans (zK571)
                          · exact (zw703 (o + 49) (by omega) (by omega)).trans (zK572)
                          · exact (zw703 (o + 50) (by omega) (by omega)).trans (zK573)
                          · exact (zw703 (o + 51) (by omega) (by omega)).trans (zK574)
                          · exact (zw703 (o + 52) (by omega) (by omega)).trans (zK575)
                          · exact (zw703 (o + 53) (by omega) (by omega)).trans (zK576)
                          · exact (zw703 (o + 54) (by omega) (by omega)).trans (zK577)
                          · exact zK695
                          · exact zK696
                          · exact zK697
                          · exact zK698
                          · exact zK699
                          · exact zK700
                          · exact zK701
                        · first | exact absurd zc561 (by decide) | exact absurd (by decide) zc561
          · first | exact absurd zc281 (by decide) | exact absurd (by decide) zc281
