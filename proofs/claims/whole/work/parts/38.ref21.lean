/-- the row of a new object -/
def dIni : Nat → Int32 := upd (upd (upd (upd (upd (upd (upd (fun _ => 0) 1 1) 100 10) 4 200) 6 20) 8 50) 9 100000) 13 1
set_option maxHeartbeats 4000000 in
set_option maxRecDepth 100000 in
theorem r_init {κ : Wc} {l : Launch} {h : Mm} {o : Nat} (K0 : h o = some (.inr (12, [.null, .null, .null, .int 0, .null, .int 0, .int 0, .int 0, .int 0, .int 0, .null, .null, .int 0, .null, .null, .int 0, .null, .int 0, .int 0, .null, .null, .null, .null])))  : Con κ l yX12_init cX12_init 1 none 2 13 1563 [.ref o] h (o + 1) (fun q h' n' => q = none ∧ h' = va_up (va_up (va_up (va_up (va_up (va_up (va_up (va_up (va_up (va_up (va_up (va_up (va_up (va_up h o (some (.inr (12, [.ref (o + 1), .ref (o + 2), .ref (o + 3), .int 0, .ref (o + 4), .int 0, .int 0, .int 0, .int 0, .int 0, .ref (o + 5), .ref (o + 6), .int 0, .ref (o + 7), .ref (o + 8), .int 0, .ref (o + 9), .int 0, .int 0, .ref (o + 10), .ref (o + 11), .ref (o + 12), .ref (o + 13)])))) (o + 1) (arI κ 340 dIni)) (o + 2) (arI κ 340 (fun _ => 0))) (o + 3) (arI κ 340 (fun _ => 0))) (o + 4) (arI κ 6 (fun _ => 0))) (o + 5) (arI κ 3 (fun _ => 0))) (o + 6) (arI κ 40 (fun _ => 0))) (o + 7) (arI κ 6 (fun _ => 0))) (o + 8) (arI κ 240 (fun _ => 0))) (o + 9) (arI κ 40 (fun _ => 0))) (o + 10) (arI κ 4 (fun _ => 0))) (o + 11) (arI κ 4 (fun _ => 0))) (o + 12) (arI κ 160 (fun _ => 0))) (o + 13) (arI κ 40 (fun _ => 0)) ∧ n' = o + 14) := by
  refine Con.of mk_X12_init (Nat.le_of_ble_eq_true rfl) (fun G hG X E => ?_)
  subst hG
  refine z_ls (ls' := [(0, .ref o)]) rfl ?_
  refine z_aload_n X 0 dX12_init_0 rfl ?_
  refine z_objInit X dX12_init_1 wd_934 wd_80 wd_81 (Nat.le_of_ble_eq_true rfl) (Nat.le_of_ble_eq_true rfl) ?_
  refine z_aload_n X 0 dX12_init_4 rfl ?_
  refine z_sipush (v := 340) X dX12_init_5 (by decide) ?_
  refine z_newa (N := 340) X dX12_init_8 wd_165 (by decide) (by decide) (by omega) (by omega) (by omega) ?_
  obtain ⟨zh1, ze2⟩ : ∃ z : Mm, z = va_up h (o + 1) (arI κ 340 (fun _ => 0)) := ⟨_, rfl⟩
  refine z_heap (h' := zh1) ze2.symm ?_
  have zK3 := up_off ze2 (show o ≠ o + 1 by omega) K0
  have zK4 := up_at ze2
  refine z_putF X E fp_X12_7_12 dX12_init_10 zK3 (by first | rfl | decide) (by first | rfl | decide) (Nat.le_of_ble_eq_true rfl) rfl ?_
  obtain ⟨zh5, ze6⟩ : ∃ z : Mm, z = va_up zh1 o (some (.inr (12, [.ref (o + 1), .null, .null, .int 0, .null, .int 0, .int 0, .int 0, .int 0, .int 0, .null, .null, .int 0, .null, .null, .int 0, .null, .int 0, .int 0, .null, .null, .null, .null]))) := ⟨_, rfl⟩
  refine z_heap (h' := zh5) ze6.symm ?_
  have zK7 := up_at ze6
  have zK8 := up_off ze6 (show o + 1 ≠ o by omega) zK4
  refine z_aload_n X 0 dX12_init_13 rfl ?_
  refine z_sipush (v := 340) X dX12_init_14 (by decide) ?_
  refine z_newa (N := 340) X dX12_init_17 wd_165 (by decide) (by decide) (by omega) (by omega) (by omega) ?_
  obtain ⟨zh9, ze10⟩ : ∃ z : Mm, z = va_up zh5 (o + 2) (arI κ 340 (fun _ => 0)) := ⟨_, rfl⟩
  refine z_heap (h' := zh9) ze10.symm ?_
  have zK11 := up_off ze10 (show o ≠ o + 2 by omega) zK7
  have zK12 := up_off ze10 (show o + 1 ≠ o + 2 by omega) zK8
  have zK13 := up_at ze10
  refine z_putF X E fp_X12_13_12 dX12_init_19 zK11 (by first | rfl | decide) (by first | rfl | decide) (Nat.le_of_ble_eq_true rfl) rfl ?_
  obtain ⟨zh14, ze15⟩ : ∃ z : Mm, z = va_up zh9 o (some (.inr (12, [.ref (o + 1), .ref (o + 2), .null, .int 0, .null, .int 0, .int 0, .int 0, .int 0, .int 0, .null, .null, .int 0, .null, .null, .int 0, .null, .int 0, .int 0, .null, .null, .null, .null]))) := ⟨_, rfl⟩
  refine z_heap (h' := zh14) ze15.symm ?_
  have zK16 := up_at ze15
  have zK17 := up_off ze15 (show o + 1 ≠ o by omega) zK12
  have zK18 := up_off ze15 (show o + 2 ≠ o by omega) zK13
  refine z_aload_n X 0 dX12_init_22 rfl ?_
  refine z_sipush (v := 340) X dX12_init_23 (by decide) ?_
  refine z_newa (N := 340) X dX12_init_26 wd_165 (by decide) (by decide) (by omega) (by omega) (by omega) ?_
  obtain ⟨zh19, ze20⟩ : ∃ z : Mm, z = va_up zh14 (o + 3) (arI κ 340 (fun _ => 0)) := ⟨_, rfl⟩
  refine z_heap (h' := zh19) ze20.symm ?_
  have zK21 := up_off ze20 (show o ≠ o + 3 by omega) zK16
  have zK22 := up_off ze20 (show o + 1 ≠ o + 3 by omega) zK17
  have zK23 := up_off ze20 (show o + 2 ≠ o + 3 by omega) zK18
  have zK24 := up_at ze20
  refine z_putF X E fp_X12_16_12 dX12_init_28 zK21 (by first | rfl | decide) (by first | rfl | decide) (Nat.le_of_ble_eq_true rfl) rfl ?_
  obtain ⟨zh25, ze26⟩ : ∃ z : Mm, z = va_up zh19 o (some (.inr (12, [.ref (o + 1), .ref (o + 2), .ref (o + 3), .int 0, .null, .int 0, .int 0, .int 0, .int 0, .int 0, .null, .null, .int 0, .null, .null, .int 0, .null, .int 0, .int 0, .null, .null, .null, .null]))) := ⟨_, rfl⟩
  refine z_heap (h' := zh25) ze26.symm ?_
  have zK27 := up_at ze26
  have zK28 := up_off ze26 (show o + 1 ≠ o by omega) zK22
  have zK29 := up_off ze26 (show o + 2 ≠ o by omega) zK23
  have zK30 := up_off ze26 (show o + 3 ≠ o by omega) zK24
  refine z_aload_n X 0 dX12_init_31 rfl ?_
  refine z_bipush (v := 6) X dX12_init_32 (by decide) ?_
  refine z_newa (N := 6) X dX12_init_34 wd_165 (by decide) (by decide) (by omega) (by omega) (by omega) ?_
  obtain ⟨zh31, ze32⟩ : ∃ z : Mm, z = va_up zh25 (o + 4) (arI κ 6 (fun _ => 0)) := ⟨_, rfl⟩
  refine z_heap (h' := zh31) ze32.symm ?_
  have zK33 := up_off ze32 (show o ≠ o + 4 by omega) zK27
  have zK34 := up_off ze32 (show o + 1 ≠ o + 4 by omega) zK28
  have zK35 := up_off ze32 (show o + 2 ≠ o + 4 by omega) zK29
  have zK36 := up_off ze32 (show o + 3 ≠ o + 4 by omega) zK30
  have zK37 := up_at ze32
  refine z_putF X E fp_X12_19_12 dX12_init_36 zK33 (by first | rfl | decide) (by first | rfl | decide) (Nat.le_of_ble_eq_true rfl) rfl ?_
  obtain ⟨zh38, ze39⟩ : ∃ z : Mm, z = va_up zh31 o (some (.inr (12, [.ref (o + 1), .ref (o + 2), .ref (o + 3), .int 0, .ref (o + 4), .int 0, .int 0, .int 0, .int 0, .int 0, .null, .null, .int 0, .null, .null, .int 0, .null, .int 0, .int 0, .null, .null, .null, .null]))) := ⟨_, rfl⟩
  refine z_heap (h' := zh38) ze39.symm ?_
  have zK40 := up_at ze39
  have zK41 := up_off ze39 (show o + 1 ≠ o by omega) zK34
  have zK42 := up_off ze39 (show o + 2 ≠ o by omega) zK35
  have zK43 := up_off ze39 (show o + 3 ≠ o by omega) zK36
  have zK44 := up_off ze39 (show o + 4 ≠ o by omega) zK37
  refine z_aload_n X 0 dX12_init_39 rfl ?_
  refine z_iconst (v := 3) X dX12_init_40 (by decide) ?_
  refine z_newa (N := 3) X dX12_init_41 wd_165 (by decide) (by decide) (by omega) (by omega) (by omega) ?_
  obtain ⟨zh45, ze46⟩ : ∃ z : Mm, z = va_up zh38 (o + 5) (arI κ 3 (fun _ => 0)) := ⟨_, rfl⟩
  refine z_heap (h' := zh45) ze46.symm ?_
  have zK47 := up_off ze46 (show o ≠ o + 5 by omega) zK40
  have zK48 := up_off ze46 (show o + 1 ≠ o + 5 by omega) zK41
  have zK49 := up_off ze46 (show o + 2 ≠ o + 5 by omega) zK42
  have zK50 := up_off ze46 (show o + 3 ≠ o + 5 by omega) zK43
  have zK51 := up_off ze46 (show o + 4 ≠ o + 5 by omega) zK44
  have zK52 := up_at ze46
  refine z_putF X E fp_X12_22_12 dX12_init_43 zK47 (by first | rfl | decide) (by first | rfl | decide) (Nat.le_of_ble_eq_true rfl) rfl ?_
  obtain ⟨zh53, ze54⟩ : ∃ z : Mm, z = va_up zh45 o (some (.inr (12, [.ref (o + 1), .ref (o + 2), .ref (o + 3), .int 0, .ref (o + 4), .int 0, .int 0, .int 0, .int 0, .int 0, .ref (o + 5), .null, .int 0, .null, .null, .int 0, .null, .int 0, .int 0, .null, .null, .null, .null]))) := ⟨_, rfl⟩
  refine z_heap (h' := zh53) ze54.symm ?_
  have zK55 := up_at ze54
  have zK56 := up_off ze54 (show o + 1 ≠ o by omega) zK48
  have zK57 := up_off ze54 (show o + 2 ≠ o by omega) zK49
  have zK58 := up_off ze54 (show o + 3 ≠ o by omega) zK50
  have zK59 := up_off ze54 (show o + 4 ≠ o by omega) zK51
  have zK60 := up_off ze54 (show o + 5 ≠ o by omega) zK52
  refine z_aload_n X 0 dX12_init_46 rfl ?_
  refine z_bipush (v := 40) X dX12_init_47 (by decide) ?_
  refine z_newa (N := 40) X dX12_init_49 wd_165 (by decide) (by decide) (by omega) (by omega) (by omega) ?_
  obtain ⟨zh61, ze62⟩ : ∃ z : Mm, z = va_up zh53 (o + 6) (arI κ 40 (fun _ => 0)) := ⟨_, rfl⟩
  refine z_heap (h' := zh61) ze62.symm ?_
  have zK63 := up_off ze62 (show o ≠ o + 6 by omega) zK55
  have zK64 := up_off ze62 (show o + 1 ≠ o + 6 by omega) zK56
  have zK65 := up_off ze62 (show o + 2 ≠ o + 6 by omega) zK57
  have zK66 := up_off ze62 (show o + 3 ≠ o + 6 by omega) zK58
  have zK67 := up_off ze62 (show o + 4 ≠ o + 6 by omega) zK59
  have zK68 := up_off ze62 (show o + 5 ≠ o + 6 by omega) zK60
  have zK69 := up_at ze62
  refine z_putF X E fp_X12_25_12 dX12_init_51 zK63 (by first | rfl | decide) (by first | rfl | decide) (Nat.le_of_ble_eq_true rfl) rfl ?_
  obtain ⟨zh70, ze71⟩ : ∃ z : Mm, z = va_up zh61 o (some (.inr (12, [.ref (o + 1), .ref (o + 2), .ref (o + 3), .int 0, .ref (o + 4), .int 0, .int 0, .int 0, .int 0, .int 0, .ref (o + 5), .ref (o + 6), .int 0, .null, .null, .int 0, .null, .int 0, .int 0, .null, .null, .null, .null]))) := ⟨_, rfl⟩
  refine z_heap (h' := zh70) ze71.symm ?_
  have zK72 := up_at ze71
  have zK73 := up_off ze71 (show o + 1 ≠ o by omega) zK64
  have zK74 := up_off ze71 (show o + 2 ≠ o by omega) zK65
  have zK75 := up_off ze71 (show o + 3 ≠ o by omega) zK66
  have zK76 := up_off ze71 (show o + 4 ≠ o by omega) zK67
  have zK77 := up_off ze71 (show o + 5 ≠ o by omega) zK68
  have zK78 := up_off ze71 (show o + 6 ≠ o by omega) zK69
  refine z_aload_n X 0 dX12_init_54 rfl ?_
  refine z_bipush (v := 6) X dX12_init_55 (by decide) ?_
  refine z_newa (N := 6) X dX12_init_57 wd_165 (by decide) (by decide) (by omega) (by omega) (by omega) ?_
  obtain ⟨zh79, ze80⟩ : ∃ z : Mm, z = va_up zh70 (o + 7) (arI κ 6 (fun _ => 0)) := ⟨_, rfl⟩
  refine z_heap (h' := zh79) ze80.symm ?_
  have zK81 := up_off ze80 (show o ≠ o + 7 by omega) zK72
  have zK82 := up_off ze80 (show o + 1 ≠ o + 7 by omega) zK73
  have zK83 := up_off ze80 (show o + 2 ≠ o + 7 by omega) zK74
  have zK84 := up_off ze80 (show o + 3 ≠ o + 7 by omega) zK75
  have zK85 := up_off ze80 (show o + 4 ≠ o + 7 by omega) zK76
  have zK86 := up_off ze80 (show o + 5 ≠ o + 7 by omega) zK77
  have zK87 := up_off ze80 (show o + 6 ≠ o + 7 by omega) zK78
  have zK88 := up_at ze80
  refine z_putF X E fp_X12_28_12 dX12_init_59 zK81 (by first | rfl | decide) (by first | rfl | decide) (Nat.le_of_ble_eq_true rfl) rfl ?_
  obtain ⟨zh89, ze90⟩ : ∃ z : Mm, z = va_up zh79 o (some (.inr (12, [.ref (o + 1), .ref (o + 2), .ref (o + 3), .int 0, .ref (o + 4), .int 0, .int 0, .int 0, .int 0, .int 0, .ref (o + 5), .ref (o + 6), .int 0, .ref (o + 7), .null, .int 0, .null, .int 0, .int 0, .null, .null, .null, .null]))) := ⟨_, rfl⟩
  refine z_heap (h' := zh89) ze90.symm ?_
  have zK91 := up_at ze90
  have zK92 := up_off ze90 (show o + 1 ≠ o by omega) zK82
  have zK93 := up_off ze90 (show o + 2 ≠ o by omega) zK83
  have zK94 := up_off ze90 (show o + 3 ≠ o by omega) zK84
  have zK95 := up_off ze90 (show o + 4 ≠ o by omega) zK85
  have zK96 := up_off ze90 (show o + 5 ≠ o by omega) zK86
  have zK97 := up_off ze90 (show o + 6 ≠ o by omega) zK87
  have zK98 := up_off ze90 (show o + 7 ≠ o by omega) zK88
  refine z_aload_n X 0 dX12_init_62 rfl ?_
  refine z_sipush (v := 240) X dX12_init_63 (by decide) ?_
  refine z_newa (N := 240) X dX12_init_66 wd_165 (by decide) (by decide) (by omega) (by omega) (by omega) ?_
  obtain ⟨zh99, ze100⟩ : ∃ z : Mm, z = va_up zh89 (o + 8) (arI κ 240 (fun _ => 0)) := ⟨_, rfl⟩
  refine z_heap (h' := zh99) ze100.symm ?_
  have zK101 := up_off ze100 (show o ≠ o + 8 by omega) zK91
  have zK102 := up_off ze100 (show o + 1 ≠ o + 8 by omega) zK92
  have zK103 := up_off ze100 (show o + 2 ≠ o + 8 by omega) zK93
  have zK104 := up_off ze100 (show o + 3 ≠ o + 8 by omega) zK94
  have zK105 := up_off ze100 (show o + 4 ≠ o + 8 by omega) zK95
  have zK106 := up_off ze100 (show o + 5 ≠ o + 8 by omega) zK96
  have zK107 := up_off ze100 (show o + 6 ≠ o + 8 by omega) zK97
  have zK108 := up_off ze100 (show o + 7 ≠ o + 8 by omega) zK98
  have zK109 := up_at ze100
  refine z_putF X E fp_X12_31_12 dX12_init_68 zK101 (by first | rfl | decide) (by first | rfl | decide) (Nat.le_of_ble_eq_true rfl) rfl ?_
  obtain ⟨zh110, ze111⟩ : ∃ z : Mm, z = va_up zh99 o (some (.inr (12, [.ref (o + 1), .ref (o + 2), .ref (o + 3), .int 0, .ref (o + 4), .int 0, .int 0, .int 0, .int 0, .int 0, .ref (o + 5), .ref (o + 6), .int 0, .ref (o + 7), .ref (o + 8), .int 0, .null, .int 0, .int 0, .null, .null, .null, .null]))) := ⟨_, rfl⟩
  refine z_heap (h' := zh110) ze111.symm ?_
  have zK112 := up_at ze111
  have zK113 := up_off ze111 (show o + 1 ≠ o by omega) zK102
  have zK114 := up_off ze111 (show o + 2 ≠ o by omega) zK103
  have zK115 := up_off ze111 (show o + 3 ≠ o by omega) zK104
  have zK116 := up_off ze111 (show o + 4 ≠ o by omega) zK105
  have zK117 := up_off ze111 (show o + 5 ≠ o by omega) zK106
  have zK118 := up_off ze111 (show o + 6 ≠ o by omega) zK107
  have zK119 := up_off ze111 (show o + 7 ≠ o by omega) zK108
  have zK120 := up_off ze111 (show o + 8 ≠ o by omega) zK109
  refine z_aload_n X 0 dX12_init_71 rfl ?_
  refine z_bipush (v := 40) X dX12_init_72 (by decide) ?_
  refine z_newa (N := 40) X dX12_init_74 wd_165 (by decide) (by decide) (by omega) (by omega) (by omega) ?_
  obtain ⟨zh121, ze122⟩ : ∃ z : Mm, z = va_up zh110 (o + 9) (arI κ 40 (fun _ => 0)) := ⟨_, rfl⟩
  refine z_heap (h' := zh121) ze122.symm ?_
  have zK123 := up_off ze122 (show o ≠ o + 9 by omega) zK112
  have zK124 := up_off ze122 (show o + 1 ≠ o + 9 by omega) zK113
  have zK125 := up_off ze122 (show o + 2 ≠ o + 9 by omega) zK114
  have zK126 := up_off ze122 (show o + 3 ≠ o + 9 by omega) zK115
  have zK127 := up_off ze122 (show o + 4 ≠ o + 9 by omega) zK116
  have zK128 := up_off ze122 (show o + 5 ≠ o + 9 by omega) zK117
  have zK129 := up_off ze122 (show o + 6 ≠ o + 9 by omega) zK118
  have zK130 := up_off ze122 (show o + 7 ≠ o + 9 by omega) zK119
  have zK131 := up_off ze122 (show o + 8 ≠ o + 9 by omega) zK120
  have zK132 := up_at ze122
  refine z_putF X E fp_X12_34_12 dX12_init_76 zK123 (by first | rfl | decide) (by first | rfl | decide) (Nat.le_of_ble_eq_true rfl) rfl ?_
  obtain ⟨zh133, ze134⟩ : ∃ z : Mm, z = va_up zh121 o (some (.inr (12, [.ref (o + 1), .ref (o + 2), .ref (o + 3), .int 0, .ref (o + 4), .int 0, .int 0, .int 0, .int 0, .int 0, .ref (o + 5), .ref (o + 6), .int 0, .ref (o + 7), .ref (o + 8), .int 0, .ref (o + 9), .int 0, .int 0, .null, .null, .null, .null]))) := ⟨_, rfl⟩
  refine z_heap (h' := zh133) ze134.symm ?_
  have zK135 := up_at ze134
  have zK136 := up_off ze134 (show o + 1 ≠ o by omega) zK124
  have zK137 := up_off ze134 (show o + 2 ≠ o by omega) zK125
  have zK138 := up_off ze134 (show o + 3 ≠ o by omega) zK126
  have zK139 := up_off ze134 (show o + 4 ≠ o by omega) zK127
  have zK140 := up_off ze134 (show o + 5 ≠ o by omega) zK128
  have zK141 := up_off ze134 (show o + 6 ≠ o by omega) zK129
  have zK142 := up_off ze134 (show o + 7 ≠ o by omega) zK130
  have zK143 := up_off ze134 (show o + 8 ≠ o by omega) zK131
  have zK144 := up_off ze134 (show o + 9 ≠ o by omega) zK132
  refine z_aload_n X 0 dX12_init_79 rfl ?_
  refine z_iconst (v := 4) X dX12_init_80 (by decide) ?_
  refine z_newa (N := 4) X dX12_init_81 wd_165 (by decide) (by decide) (by omega) (by omega) (by omega) ?_
  obtain ⟨zh145, ze146⟩ : ∃ z : Mm, z = va_up zh133 (o + 10) (arI κ 4 (fun _ => 0)) := ⟨_, rfl⟩
  refine z_heap (h' := zh145) ze146.symm ?_
  have zK147 := up_off ze146 (show o ≠ o + 10 by omega) zK135
  have zK148 := up_off ze146 (show o + 1 ≠ o + 10 by omega) zK136
  have zK149 := up_off ze146 (show o + 2 ≠ o + 10 by omega) zK137
  have zK150 := up_off ze146 (show o + 3 ≠ o + 10 by omega) zK138
  have zK151 := up_off ze146 (show o + 4 ≠ o + 10 by omega) zK139
  have zK152 := up_off ze146 (show o + 5 ≠ o + 10 by omega) zK140
  have zK153 := up_off ze146 (show o + 6 ≠ o + 10 by omega) zK141
  have zK154 := up_off ze146 (show o + 7 ≠ o + 10 by omega) zK142
  have zK155 := up_off ze146 (show o + 8 ≠ o + 10 by omega) zK143
  have zK156 := up_off ze146 (show o + 9 ≠ o + 10 by omega) zK144
  have zK157 := up_at ze146
  refine z_putF X E fp_X12_37_12 dX12_init_83 zK147 (by first | rfl | decide) (by first | rfl | decide) (Nat.le_of_ble_eq_true rfl) rfl ?_
  obtain ⟨zh158, ze159⟩ : ∃ z : Mm, z = va_up zh145 o (some (.inr (12, [.ref (o + 1), .ref (o + 2), .ref (o + 3), .int 0, .ref (o + 4), .int 0, .int 0, .int 0, .int 0, .int 0, .ref (o + 5), .ref (o + 6), .int 0, .ref (o + 7), .ref (o + 8), .int 0, .ref (o + 9), .int 0, .int 0, .ref (o + 10), .null, .null, .null]))) := ⟨_, rfl⟩
  refine z_heap (h' := zh158) ze159.symm ?_
  have zK160 := up_at ze159
  have zK161 := up_off ze159 (show o + 1 ≠ o by omega) zK148
  have zK162 := up_off ze159 (show o + 2 ≠ o by omega) zK149
  have zK163 := up_off ze159 (show o + 3 ≠ o by omega) zK150
  have zK164 := up_off ze159 (show o + 4 ≠ o by omega) zK151
  have zK165 := up_off ze159 (show o + 5 ≠ o by omega) zK152
  have zK166 := up_off ze159 (show o + 6 ≠ o by omega) zK153
  have zK167 := up_off ze159 (show o + 7 ≠ o by omega) zK154
  have zK168 := up_off ze159 (show o + 8 ≠ o by omega) zK155
  have zK169 := up_off ze159 (show o + 9 ≠ o by omega) zK156
  have zK170 := up_off ze159 (show o + 10 ≠ o by omega) zK157
  refine z_aload_n X 0 dX12_init_86 rfl ?_
  refine z_iconst (v := 4) X dX12_init_87 (by decide) ?_
  refine z_newa (N := 4) X dX12_init_88 wd_165 (by decide) (by decide) (by omega) (by omega) (by omega) ?_
  obtain ⟨zh171, ze172⟩ : ∃ z : Mm, z = va_up zh158 (o + 11) (arI κ 4 (fun _ => 0)) := ⟨_, rfl⟩
  refine z_heap (h' := zh171) ze172.symm ?_
  have zK173 := up_off ze172 (show o ≠ o + 11 by omega) zK160
  have zK174 := up_off ze172 (show o + 1 ≠ o + 11 by omega) zK161
  have zK175 := up_off ze172 (show o + 2 ≠ o + 11 by omega) zK162
  have zK176 := up_off ze172 (show o + 3 ≠ o + 11 by omega) zK163
  have zK177 := up_off ze172 (show o + 4 ≠ o + 11 by omega) zK164
  have zK178 := up_off ze172 (show o + 5 ≠ o + 11 by omega) zK165
  have zK179 := up_off ze172 (show o + 6 ≠ o + 11 by omega) zK166
  have zK180 := up_off ze172 (show o + 7 ≠ o + 11 by omega) zK167
  have zK181 := up_off ze172 (show o + 8 ≠ o + 11 by omega) zK168
  have zK182 := up_off ze172 (show o + 9 ≠ o + 11 by omega) zK169
  have zK183 := up_off ze172 (show o + 10 ≠ o + 11 by omega) zK170
  have zK184 := up_at ze172
  refine z_putF X E fp_X12_40_12 dX12_init_90 zK173 (by first | rfl | decide) (by first | rfl | decide) (Nat.le_of_ble_eq_true rfl) rfl ?_
  obtain ⟨zh185, ze186⟩ : ∃ z : Mm, z = va_up zh171 o (some (.inr (12, [.ref (o + 1), .ref (o + 2), .ref (o + 3), .int 0, .ref (o + 4), .int 0, .int 0, .int 0, .int 0, .int 0, .ref (o + 5), .ref (o + 6), .int 0, .ref (o + 7), .ref (o + 8), .int 0, .ref (o + 9), .int 0, .int 0, .ref (o + 10), .ref (o + 11), .null, .null]))) := ⟨_, rfl⟩
  refine z_heap (h' := zh185) ze186.symm ?_
  have zK187 := up_at ze186
  have zK188 := up_off ze186 (show o + 1 ≠ o by omega) zK174
  have zK189 := up_off ze186 (show o + 2 ≠ o by omega) zK175
  have zK190 := up_off ze186 (show o + 3 ≠ o by omega) zK176
  have zK191 := up_off ze186 (show o + 4 ≠ o by omega) zK177
  have zK192 := up_off ze186 (show o + 5 ≠ o by omega) zK178
  have zK193 := up_off ze186 (show o + 6 ≠ o by omega) zK179
  have zK194 := up_off ze186 (show o + 7 ≠ o by omega) zK180
  have zK195 := up_off ze186 (show o + 8 ≠ o by omega) zK181
  have zK196 := up_off ze186 (show o + 9 ≠ o by omega) zK182
  have zK197 := up_off ze186 (show o + 10 ≠ o by omega) zK183
  have zK198 := up_off ze186 (show o + 11 ≠ o by omega) zK184
  refine z_aload_n X 0 dX12_init_93 rfl ?_
  refine z_sipush (v := 160) X dX12_init_94 (by decide) ?_
  refine z_newa (N := 160) X dX12_init_97 wd_165 (by decide) (by decide) (by omega) (by omega) (by omega) ?_
  obtain ⟨zh199, ze200⟩ : ∃ z : Mm, z = va_up zh185 (o + 12) (arI κ 160 (fun _ => 0)) := ⟨_, rfl⟩
  refine z_heap (h' := zh199) ze200.symm ?_
  have zK201 := up_off ze200 (show o ≠ o + 12 by omega) zK187
  have zK202 := up_off ze200 (show o + 1 ≠ o + 12 by omega) zK188
  have zK203 := up_off ze200 (show o + 2 ≠ o + 12 by omega) zK189
  have zK204 := up_off ze200 (show o + 3 ≠ o + 12 by omega) zK190
  have zK205 := up_off ze200 (show o + 4 ≠ o + 12 by omega) zK191
  have zK206 := up_off ze200 (show o + 5 ≠ o + 12 by omega) zK192
  have zK207 := up_off ze200 (show o + 6 ≠ o + 12 by omega) zK193
  have zK208 := up_off ze200 (show o + 7 ≠ o + 12 by omega) zK194
  have zK209 := up_off ze200 (show o + 8 ≠ o + 12 by omega) zK195
  have zK210 := up_off ze200 (show o + 9 ≠ o + 12 by omega) zK196
  have zK211 := up_off ze200 (show o + 10 ≠ o + 12 by omega) zK197
  have zK212 := up_off ze200 (show o + 11 ≠ o + 12 by omega) zK198
  have zK213 := up_at ze200
  refine z_putF X E fp_X12_43_12 dX12_init_99 zK201 (by first | rfl | decide) (by first | rfl | decide) (Nat.le_of_ble_eq_true rfl) rfl ?_
  obtain ⟨zh214, ze215⟩ : ∃ z : Mm, z = va_up zh199 o (some (.inr (12, [.ref (o + 1), .ref (o + 2), .ref (o + 3), .int 0, .ref (o + 4), .int 0, .int 0, .int 0, .int 0, .int 0, .ref (o + 5), .ref (o + 6), .int 0, .ref (o + 7), .ref (o + 8), .int 0, .ref (o + 9), .int 0, .int 0, .ref (o + 10), .ref (o + 11), .ref (o + 12), .null]))) := ⟨_, rfl⟩
  refine z_heap (h' := zh214) ze215.symm ?_
  have zK216 := up_at ze215
  have zK217 := up_off ze215 (show o + 1 ≠ o by omega) zK202
  have zK218 := up_off ze215 (show o + 2 ≠ o by omega) zK203
  have zK219 := up_off ze215 (show o + 3 ≠ o by omega) zK204
  have zK220 := up_off ze215 (show o + 4 ≠ o by omega) zK205
  have zK221 := up_off ze215 (show o + 5 ≠ o by omega) zK206
  have zK222 := up_off ze215 (show o + 6 ≠ o by omega) zK207
  have zK223 := up_off ze215 (show o + 7 ≠ o by omega) zK208
  have zK224 := up_off ze215 (show o + 8 ≠ o by omega) zK209
  have zK225 := up_off ze215 (show o + 9 ≠ o by omega) zK210
  have zK226 := up_off ze215 (show o + 10 ≠ o by omega) zK211
  have zK227 := up_off ze215 (show o + 11 ≠ o by omega) zK212
  have zK228 := up_off ze215 (show o + 12 ≠ o by omega) zK213
  refine z_aload_n X 0 dX12_init_102 rfl ?_
  refine z_bipush (v := 40) X dX12_init_103 (by decide) ?_
  refine z_newa (N := 40) X dX12_init_105 wd_165 (by decide) (by decide) (by omega) (by omega) (by omega) ?_
  obtain ⟨zh229, ze230⟩ : ∃ z : Mm, z = va_up zh214 (o + 13) (arI κ 40 (fun _ => 0)) := ⟨_, rfl⟩
  refine z_heap (h' := zh229) ze230.symm ?_
  have zK231 := up_off ze230 (show o ≠ o + 13 by omega) zK216
  have zK232 := up_off ze230 (show o + 1 ≠ o + 13 by omega) zK217
  have zK233 := up_off ze230 (show o + 2 ≠ o + 13 by omega) zK218
  have zK234 := up_off ze230 (show o + 3 ≠ o + 13 by omega) zK219
  have zK235 := up_off ze230 (show o + 4 ≠ o + 13 by omega) zK220
  have zK236 := up_off ze230 (show o + 5 ≠ o + 13 by omega) zK221
  have zK237 := up_off ze230 (show o + 6 ≠ o + 13 by omega) zK222
  have zK238 := up_off ze230 (show o + 7 ≠ o + 13 by omega) zK223
  have zK239 := up_off ze230 (show o + 8 ≠ o + 13 by omega) zK224
  have zK240 := up_off ze230 (show o + 9 ≠ o + 13 by omega) zK225
  have zK241 := up_off ze230 (show o + 10 ≠ o + 13 by omega) zK226
  have zK242 := up_off ze230 (show o + 11 ≠ o + 13 by omega) zK227
  have zK243 := up_off ze230 (show o + 12 ≠ o + 13 by omega) zK228
  have zK244 := up_at ze230
  refine z_putF X E fp_X12_46_12 dX12_init_107 zK231 (by first | rfl | decide) (by first | rfl | decide) (Nat.le_of_ble_eq_true rfl) rfl ?_
  obtain ⟨zh245, ze246⟩ : ∃ z : Mm, z = va_up zh229 o (some (.inr (12, [.ref (o + 1), .ref (o + 2), .ref (o + 3), .int 0, .ref (o + 4), .int 0, .int 0, .int 0, .int 0, .int 0, .ref (o + 5), .ref (o + 6), .int 0, .ref (o + 7), .ref (o + 8), .int 0, .ref (o + 9), .int 0, .int 0, .ref (o + 10), .ref (o + 11), .ref (o + 12), .ref (o + 13)]))) := ⟨_, rfl⟩
  refine z_heap (h' := zh245) ze246.symm ?_
  have zK247 := up_at ze246
  have zK248 := up_off ze246 (show o + 1 ≠ o by omega) zK232
  have zK249 := up_off ze246 (show o + 2 ≠ o by omega) zK233
  have zK250 := up_off ze246 (show o + 3 ≠ o by omega) zK234
  have zK251 := up_off ze246 (show o + 4 ≠ o by omega) zK235
  have zK252 := up_off ze246 (show o + 5 ≠ o by omega) zK236
  have zK253 := up_off ze246 (show o + 6 ≠ o by omega) zK237
  have zK254 := up_off ze246 (show o + 7 ≠ o by omega) zK238
  have zK255 := up_off ze246 (show o + 8 ≠ o by omega) zK239
  have zK256 := up_off ze246 (show o + 9 ≠ o by omega) zK240
  have zK257 := up_off ze246 (show o + 10 ≠ o by omega) zK241
  have zK258 := up_off ze246 (show o + 11 ≠ o by omega) zK242
  have zK259 := up_off ze246 (show o + 12 ≠ o by omega) zK243
  have zK260 := up_off ze246 (show o + 13 ≠ o by omega) zK244
  refine z_aload_n X 0 dX12_init_110 rfl ?_
  refine z_get X fl_X12_7_12 dX12_init_111 zK247 rfl ?_
  refine z_iconst (v := 1) X dX12_init_114 (by decide) ?_
  refine z_iconst (v := 1) X dX12_init_115 (by decide) ?_
  refine z_iast X dX12_init_116 zK248 (vp_in_nI (n := 1) (by omega) (by omega)) (congrArg (fun z => va_up zh245 (o + 1) (arI κ 340 (upd (fun _ => 0) z 1))) (nI_clamp (n := 1) (by omega))) ?_
  obtain ⟨zh261, ze262⟩ : ∃ z : Mm, z = va_up zh245 (o + 1) (arI κ 340 (upd (fun _ => 0) 1 1)) := ⟨_, rfl⟩
  refine z_heap (h' := zh261) ze262.symm ?_
  have zK263 := up_off ze262 (show o ≠ o + 1 by omega) zK247
  have zK264 := up_at ze262
  have zK265 := up_off ze262 (show o + 2 ≠ o + 1 by omega) zK249
  have zK266 := up_off ze262 (show o + 3 ≠ o + 1 by omega) zK250
  have zK267 := up_off ze262 (show o + 4 ≠ o + 1 by omega) zK251
  have zK268 := up_off ze262 (show o + 5 ≠ o + 1 by omega) zK252
  have zK269 := up_off ze262 (show o + 6 ≠ o + 1 by omega) zK253
  have zK270 := up_off ze262 (show o + 7 ≠ o + 1 by omega) zK254
  have zK271 := up_off ze262 (show o + 8 ≠ o + 1 by omega) zK255
  have zK272 := up_off ze262 (show o + 9 ≠ o + 1 by omega) zK256
  have zK273 := up_off ze262 (show o + 10 ≠ o + 1 by omega) zK257
  have zK274 := up_off ze262 (show o + 11 ≠ o + 1 by omega) zK258
  have zK275 := up_off ze262 (show o + 12 ≠ o + 1 by omega) zK259
  have zK276 := up_off ze262 (show o + 13 ≠ o + 1 by omega) zK260
  refine z_aload_n X 0 dX12_init_117 rfl ?_
  refine z_get X fl_X12_7_12 dX12_init_118 zK263 rfl ?_
  refine z_bipush (v := 100) X dX12_init_121 (by decide) ?_
  refine z_bipush (v := 10) X dX12_init_123 (by decide) ?_
  refine z_iast X dX12_init_125 zK264 (vp_in_nI (n := 100) (by omega) (by omega)) (congrArg (fun z => va_up zh261 (o + 1) (arI κ 340 (upd (upd (fun _ => 0) 1 1) z 10))) (nI_clamp (n := 100) (by omega))) ?_
  obtain ⟨zh277, ze278⟩ : ∃ z : Mm, z = va_up zh261 (o + 1) (arI κ 340 (upd (upd (fun _ => 0) 1 1) 100 10)) := ⟨_, rfl⟩
  refine z_heap (h' := zh277) ze278.symm ?_
  have zK279 := up_off ze278 (show o ≠ o + 1 by omega) zK263
  have zK280 := up_at ze278
  have zK281 := up_off ze278 (show o + 2 ≠ o + 1 by omega) zK265
  have zK282 := up_off ze278 (show o + 3 ≠ o + 1 by omega) zK266
  have zK283 := up_off ze278 (show o + 4 ≠ o + 1 by omega) zK267
  have zK284 := up_off ze278 (show o + 5 ≠ o + 1 by omega) zK268
  have zK285 := up_off ze278 (show o + 6 ≠ o + 1 by omega) zK269
  have zK286 := up_off ze278 (show o + 7 ≠ o + 1 by omega) zK270
  have zK287 := up_off ze278 (show o + 8 ≠ o + 1 by omega) zK271
  have zK288 := up_off ze278 (show o + 9 ≠ o + 1 by omega) zK272
  have zK289 := up_off ze278 (show o + 10 ≠ o + 1 by omega) zK273
  have zK290 := up_off ze278 (show o + 11 ≠ o + 1 by omega) zK274
  have zK291 := up_off ze278 (show o + 12 ≠ o + 1 by omega) zK275
  have zK292 := up_off ze278 (show o + 13 ≠ o + 1 by omega) zK276
  refine z_aload_n X 0 dX12_init_126 rfl ?_
  refine z_get X fl_X12_7_12 dX12_init_127 zK279 rfl ?_
  refine z_iconst (v := 4) X dX12_init_130 (by decide) ?_
  refine z_sipush (v := 200) X dX12_init_131 (by decide) ?_
  refine z_iast X dX12_init_134 zK280 (vp_in_nI (n := 4) (by omega) (by omega)) (congrArg (fun z => va_up zh277 (o + 1) (arI κ 340 (upd (upd (upd (fun _ => 0) 1 1) 100 10) z 200))) (nI_clamp (n := 4) (by omega))) ?_
  obtain ⟨zh293, ze294⟩ : ∃ z : Mm, z = va_up zh277 (o + 1) (arI κ 340 (upd (upd (upd (fun _ => 0) 1 1) 100 10) 4 200)) := ⟨_, rfl⟩
  refine z_heap (h' := zh293) ze294.symm ?_
  have zK295 := up_off ze294 (show o ≠ o + 1 by omega) zK279
  have zK296 := up_at ze294
  have zK297 := up_off ze294 (show o + 2 ≠ o + 1 by omega) zK281
  have zK298 := up_off ze294 (show o + 3 ≠ o + 1 by omega) zK282
  have zK299 := up_off ze294 (show o + 4 ≠ o + 1 by omega) zK283
  have zK300 := up_off ze294 (show o + 5 ≠ o + 1 by omega) zK284
  have zK301 := up_off ze294 (show o + 6 ≠ o + 1 by omega) zK285
  have zK302 := up_off ze294 (show o + 7 ≠ o + 1 by omega) zK286
  have zK303 := up_off ze294 (show o + 8 ≠ o + 1 by omega) zK287
  have zK304 := up_off ze294 (show o + 9 ≠ o + 1 by omega) zK288
  have zK305 := up_off ze294 (show o + 10 ≠ o + 1 by omega) zK289
  have zK306 := up_off ze294 (show o + 11 ≠ o + 1 by omega) zK290
  have zK307 := up_off ze294 (show o + 12 ≠ o + 1 by omega) zK291
  have zK308 := up_off ze294 (show o + 13 ≠ o + 1 by omega) zK292
  refine z_aload_n X 0 dX12_init_135 rfl ?_
  refine z_get X fl_X12_7_12 dX12_init_136 zK295 rfl ?_
  refine z_bipush (v := 6) X dX12_init_139 (by decide) ?_
  refine z_bipush (v := 20) X dX12_init_141 (by decide) ?_
  refine z_iast X dX12_init_143 zK296 (vp_in_nI (n := 6) (by omega) (by omega)) (congrArg (fun z => va_up zh293 (o + 1) (arI κ 340 (upd (upd (upd (upd (fun _ => 0) 1 1) 100 10) 4 200) z 20))) (nI_clamp (n := 6) (by omega))) ?_
  obtain ⟨zh309, ze310⟩ : ∃ z : Mm, z = va_up zh293 (o + 1) (arI κ 340 (upd (upd (upd (upd (fun _ => 0) 1 1) 100 10) 4 200) 6 20)) := ⟨_, rfl⟩
  refine z_heap (h' := zh309) ze310.symm ?_
  have zK311 := up_off ze310 (show o ≠ o + 1 by omega) zK295
  have zK312 := up_at ze310
  have zK313 := up_off ze310 (show o + 2 ≠ o + 1 by omega) zK297
  have zK314 := up_off ze310 (show o + 3 ≠ o + 1 by omega) zK298
  have zK315 := up_off ze310 (show o + 4 ≠ o + 1 by omega) zK299
  have zK316 := up_off ze310 (show o + 5 ≠ o + 1 by omega) zK300
  have zK317 := up_off ze310 (show o + 6 ≠ o + 1 by omega) zK301
  have zK318 := up_off ze310 (show o + 7 ≠ o + 1 by omega) zK302
  have zK319 := up_off ze310 (show o + 8 ≠ o + 1 by omega) zK303
  have zK320 := up_off ze310 (show o + 9 ≠ o + 1 by omega) zK304
  have zK321 := up_off ze310 (show o + 10 ≠ o + 1 by omega) zK305
  have zK322 := up_off ze310 (show o + 11 ≠ o + 1 by omega) zK306
  have zK323 := up_off ze310 (show o + 12 ≠ o + 1 by omega) zK307
  have zK324 := up_off ze310 (show o + 13 ≠ o + 1 by omega) zK308
  refine z_aload_n X 0 dX12_init_144 rfl ?_
  refine z_get X fl_X12_7_12 dX12_init_145 zK311 rfl ?_
  refine z_bipush (v := 8) X dX12_init_148 (by decide) ?_
  refine z_bipush (v := 50) X dX12_init_150 (by decide) ?_
  refine z_iast X dX12_init_152 zK312 (vp_in_nI (n := 8) (by omega) (by omega)) (congrArg (fun z => va_up zh309 (o + 1) (arI κ 340 (upd (upd (upd (upd (upd (fun _ => 0) 1 1) 100 10) 4 200) 6 20) z 50))) (nI_clamp (n := 8) (by omega))) ?_
  obtain ⟨zh325, ze326⟩ : ∃ z : Mm, z = va_up zh309 (o + 1) (arI κ 340 (upd (upd (upd (upd (upd (fun _ => 0) 1 1) 100 10) 4 200) 6 20) 8 50)) := ⟨_, rfl⟩
  refine z_heap (h' := zh325) ze326.symm ?_
  have zK327 := up_off ze326 (show o ≠ o + 1 by omega) zK311
  have zK328 := up_at ze326
  have zK329 := up_off ze326 (show o + 2 ≠ o + 1 by omega) zK313
  have zK330 := up_off ze326 (show o + 3 ≠ o + 1 by omega) zK314
  have zK331 := up_off ze326 (show o + 4 ≠ o + 1 by omega) zK315
  have zK332 := up_off ze326 (show o + 5 ≠ o + 1 by omega) zK316
  have zK333 := up_off ze326 (show o + 6 ≠ o + 1 by omega) zK317
  have zK334 := up_off ze326 (show o + 7 ≠ o + 1 by omega) zK318
  have zK335 := up_off ze326 (show o + 8 ≠ o + 1 by omega) zK319
  have zK336 := up_off ze326 (show o + 9 ≠ o + 1 by omega) zK320
  have zK337 := up_off ze326 (show o + 10 ≠ o + 1 by omega) zK321
  have zK338 := up_off ze326 (show o + 11 ≠ o + 1 by omega) zK322
  have zK339 := up_off ze326 (show o + 12 ≠ o + 1 by omega) zK323
  have zK340 := up_off ze326 (show o + 13 ≠ o + 1 by omega) zK324
  refine z_aload_n X 0 dX12_init_153 rfl ?_
  refine z_get X fl_X12_7_12 dX12_init_154 zK327 rfl ?_
  refine z_bipush (v := 9) X dX12_init_157 (by decide) ?_
  refine z_ldc X dX12_init_159 wd_935 ?_
  refine z_iast X dX12_init_161 zK328 (vp_in_nI (n := 9) (by omega) (by omega)) (congrArg (fun z => va_up zh325 (o + 1) (arI κ 340 (upd (upd (upd (upd (upd (upd (fun _ => 0) 1 1) 100 10) 4 200) 6 20) 8 50) z 100000))) (nI_clamp (n := 9) (by omega))) ?_
  obtain ⟨zh341, ze342⟩ : ∃ z : Mm, z = va_up zh325 (o + 1) (arI κ 340 (upd (upd (upd (upd (upd (upd (fun _ => 0) 1 1) 100 10) 4 200) 6 20) 8 50) 9 100000)) := ⟨_, rfl⟩
  refine z_heap (h' := zh341) ze342.symm ?_
  have zK343 := up_off ze342 (show o ≠ o + 1 by omega) zK327
  have zK344 := up_at ze342
  have zK345 := up_off ze342 (show o + 2 ≠ o + 1 by omega) zK329
  have zK346 := up_off ze342 (show o + 3 ≠ o + 1 by omega) zK330
  have zK347 := up_off ze342 (show o + 4 ≠ o + 1 by omega) zK331
  have zK348 := up_off ze342 (show o + 5 ≠ o + 1 by omega) zK332
  have zK349 := up_off ze342 (show o + 6 ≠ o + 1 by omega) zK333
  have zK350 := up_off ze342 (show o + 7 ≠ o + 1 by omega) zK334
  have zK351 := up_off ze342 (show o + 8 ≠ o + 1 by omega) zK335
  have zK352 := up_off ze342 (show o + 9 ≠ o + 1 by omega) zK336
  have zK353 := up_off ze342 (show o + 10 ≠ o + 1 by omega) zK337
  have zK354 := up_off ze342 (show o + 11 ≠ o + 1 by omega) zK338
  have zK355 := up_off ze342 (show o + 12 ≠ o + 1 by omega) zK339
  have zK356 := up_off ze342 (show o + 13 ≠ o + 1 by omega) zK340
  refine z_aload_n X 0 dX12_init_162 rfl ?_
  refine z_get X fl_X12_7_12 dX12_init_163 zK343 rfl ?_
  refine z_bipush (v := 13) X dX12_init_166 (by decide) ?_
  refine z_iconst (v := 1) X dX12_init_168 (by decide) ?_
  refine z_iast X dX12_init_169 zK344 (vp_in_nI (n := 13) (by omega) (by omega)) (congrArg (fun z => va_up zh341 (o + 1) (arI κ 340 (upd (upd (upd (upd (upd (upd (upd (fun _ => 0) 1 1) 100 10) 4 200) 6 20) 8 50) 9 100000) z 1))) (nI_clamp (n := 13) (by omega))) ?_
  obtain ⟨zh357, ze358⟩ : ∃ z : Mm, z = va_up zh341 (o + 1) (arI κ 340 (upd (upd (upd (upd (upd (upd (upd (fun _ => 0) 1 1) 100 10) 4 200) 6 20) 8 50) 9 100000) 13 1)) := ⟨_, rfl⟩
  refine z_heap (h' := zh357) ze358.symm ?_
  have zK359 := up_off ze358 (show o ≠ o + 1 by omega) zK343
  have zK360 := up_at ze358
  have zK361 := up_off ze358 (show o + 2 ≠ o + 1 by omega) zK345
  have zK362 := up_off ze358 (show o + 3 ≠ o + 1 by omega) zK346
  have zK363 := up_off ze358 (show o + 4 ≠ o + 1 by omega) zK347
  have zK364 := up_off ze358 (show o + 5 ≠ o + 1 by omega) zK348
  have zK365 := up_off ze358 (show o + 6 ≠ o + 1 by omega) zK349
  have zK366 := up_off ze358 (show o + 7 ≠ o + 1 by omega) zK350
  have zK367 := up_off ze358 (show o + 8 ≠ o + 1 by omega) zK351
  have zK368 := up_off ze358 (show o + 9 ≠ o + 1 by omega) zK352
  have zK369 := up_off ze358 (show o + 10 ≠ o + 1 by omega) zK353
  have zK370 := up_off ze358 (show o + 11 ≠ o + 1 by omega) zK354
  have zK371 := up_off ze358 (show o + 12 ≠ o + 1 by omega) zK355
  have zK372 := up_off ze358 (show o + 13 ≠ o + 1 by omega) zK356
  refine z_vret X E dX12_init_170 (by omega) (by omega) ⟨?_, ?_, ?_⟩
  · rfl
  · funext zz; by_cases zq13 : zz = o + 13; (rw [zq13, va_up_self]; exact zK372); by_cases zq12 : zz = o + 12; (rw [zq12, va_up_ne _ _ (show o + 12 ≠ o + 13 by omega), va_up_self]; exact zK371); by_cases zq11 : zz = o + 11; (rw [zq11, va_up_ne _ _ (show o + 11 ≠ o + 13 by omega), va_up_ne _ _ (show o + 11 ≠ o + 12 by omega), va_up_self]; exact zK370); by_cases zq10 : zz = o + 10; (rw [zq10, va_up_ne _ _ (show o + 10 ≠ o + 13 by omega), va_up_ne _ _ (show o + 10 ≠ o + 12 by omega), va_up_ne _ _ (show o + 10 ≠ o + 11 by omega), va_up_self]; exact zK369); by_cases zq9 : zz = o + 9; (rw [zq9, va_up_ne _ _ (show o + 9 ≠ o + 13 by omega), va_up_ne _ _ (show o + 9 ≠ o + 12 by omega), va_up_ne _ _ (show o + 9 ≠ o + 11 by omega), va_up_ne _ _ (show o + 9 ≠ o + 10 by omega), va_up_self]; exact zK368); by_cases zq8 : zz = o + 8; (rw [zq8, va_up_ne _ _ (show o + 8 ≠ o + 13 by omega), va_up_ne _ _ (show o + 8 ≠ o + 12 by omega), va_up_ne _ _ (show o + 8 ≠ o + 11 by omega), va_up_ne _ _ (show o + 8 ≠ o + 10 by omega), va_up_ne _ _ (show o + 8 ≠ o + 9 by omega), va_up_self]; exact zK367); by_cases zq7 : zz = o + 7; (rw [zq7, va_up_ne _ _ (show o + 7 ≠ o + 13 by omega), va_up_ne _ _ (show o + 7 ≠ o + 12 by omega), va_up_ne _ _ (show o + 7 ≠ o + 11 by omega), va_up_ne _ _ (show o + 7 ≠ o + 10 by omega), va_up_ne _ _ (show o + 7 ≠ o + 9 by omega), va_up_ne _ _ (show o + 7 ≠ o + 8 by omega), va_up_self]; exact zK366); by_cases zq6 : zz = o + 6; (rw [zq6, va_up_ne _ _ (show o + 6 ≠ o + 13 by omega), va_up_ne _ _ (show o + 6 ≠ o + 12 by omega), va_up_ne _ _ (show o + 6 ≠ o + 11 by omega), va_up_ne _ _ (show o + 6 ≠ o + 10 by omega), va_up_ne _ _ (show o + 6 ≠ o + 9 by omega), va_up_ne _ _ (show o + 6 ≠ o + 8 by omega), va_up_ne _ _ (show o + 6 ≠ o + 7 by omega), va_up_self]; exact zK365); by_cases zq5 : zz = o + 5; (rw [zq5, va_up_ne _ _ (show o + 5 ≠ o + 13 by omega), va_up_ne _ _ (show o + 5 ≠ o + 12 by omega), va_up_ne _ _ (show o + 5 ≠ o + 11 by omega), va_up_ne _ _ (show o + 5 ≠ o + 10 by omega), va_up_ne _ _ (show o + 5 ≠ o + 9 by omega), va_up_ne _ _ (show o + 5 ≠ o + 8 by omega), va_up_ne _ _ (show o + 5 ≠ o + 7 by omega), va_up_ne _ _ (show o + 5 ≠ o + 6 by omega), va_up_self]; exact zK364); by_cases zq4 : zz = o + 4; (rw [zq4, va_up_ne _ _ (show o + 4 ≠ o + 13 by omega), va_up_ne _ _ (show o + 4 ≠ o + 12 by omega), va_up_ne _ _ (show o + 4 ≠ o + 11 by omega), va_up_ne _ _ (show o + 4 ≠ o + 10 by omega), va_up_ne _ _ (show o + 4 ≠ o + 9 by omega), va_up_ne _ _ (show o + 4 ≠ o + 8 by omega), va_up_ne _ _ (show o + 4 ≠ o + 7 by omega), va_up_ne _ _ (show o + 4 ≠ o + 6 by omega), va_up_ne _ _ (show o + 4 ≠ o + 5 by omega), va_up_self]; exact zK363); by_cases zq3 : zz = o + 3; (rw [zq3, va_up_ne _ _ (show o + 3 ≠ o + 13 by omega), va_up_ne _ _ (show o + 3 ≠ o + 12 by omega), va_up_ne _ _ (show o + 3 ≠ o + 11 by omega), va_up_ne _ _ (show o + 3 ≠ o + 10 by omega), va_up_ne _ _ (show o + 3 ≠ o + 9 by omega), va_up_ne _ _ (show o + 3 ≠ o + 8 by omega), va_up_ne _ _ (show o + 3 ≠ o + 7 by omega), va_up_ne _ _ (show o + 3 ≠ o + 6 by omega), va_up_ne _ _ (show o + 3 ≠ o + 5 by omega), va_up_ne _ _ (show o + 3 ≠ o + 4 by omega), va_up_self]; exact zK362); by_cases zq2 : zz = o + 2; (rw [zq2, va_up_ne _ _ (show o + 2 ≠ o + 13 by omega), va_up_ne _ _ (show o + 2 ≠ o + 12 by omega), va_up_ne _ _ (show o + 2 ≠ o + 11 by omega), va_up_ne _ _ (show o + 2 ≠ o + 10 by omega), va_up_ne _ _ (show o + 2 ≠ o + 9 by omega), va_up_ne _ _ (show o + 2 ≠ o + 8 by omega), va_up_ne _ _ (show o + 2 ≠ o + 7 by omega), va_up_ne _ _ (show o + 2 ≠ o + 6 by omega), va_up_ne _ _ (show o + 2 ≠ o + 5 by omega), va_up_ne _ _ (show o + 2 ≠ o + 4 by omega), va_up_ne _ _ (show o + 2 ≠ o + 3 by omega), va_up_self]; exact zK361); by_cases zq1 : zz = o + 1; (rw [zq1, va_up_ne _ _ (show o + 1 ≠ o + 13 by omega), va_up_ne _ _ (show o + 1 ≠ o + 12 by omega), va_up_ne _ _ (show o + 1 ≠ o + 11 by omega), va_up_ne _ _ (show o + 1 ≠ o + 10 by omega), va_up_ne _ _ (show o + 1 ≠ o + 9 by omega), va_up_ne _ _ (show o + 1 ≠ o + 8 by omega), va_up_ne _ _ (show o + 1 ≠ o + 7 by omega), va_up_ne _ _ (show o + 1 ≠ o + 6 by omega), va_up_ne _ _ (show o + 1 ≠ o + 5 by omega), va_up_ne _ _ (show o + 1 ≠ o + 4 by omega), va_up_ne _ _ (show o + 1 ≠ o + 3 by omega), va_up_ne _ _ (show o + 1 ≠ o + 2 by omega), va_up_self]; exact zK360); by_cases zq0 : zz = o; (rw [zq0, va_up_ne _ _ (show o ≠ o + 13 by omega), va_up_ne _ _ (show o ≠ o + 12 by omega), va_up_ne _ _ (show o ≠ o + 11 by omega), va_up_ne _ _ (show o ≠ o + 10 by omega), va_up_ne _ _ (show o ≠ o + 9 by omega), va_up_ne _ _ (show o ≠ o + 8 by omega), va_up_ne _ _ (show o ≠ o + 7 by omega), va_up_ne _ _ (show o ≠ o + 6 by omega), va_up_ne _ _ (show o ≠ o + 5 by omega), va_up_ne _ _ (show o ≠ o + 4 by omega), va_up_ne _ _ (show o ≠ o + 3 by omega), va_up_ne _ _ (show o ≠ o + 2 by omega), va_up_ne _ _ (show o ≠ o + 1 by omega), va_up_self]; exact zK359); rw [va_up_ne _ _ zq13, va_up_ne _ _ zq12, va_up_ne _ _ zq11, va_up_ne _ _ zq10, va_up_ne _ _ zq9, va_up_ne _ _ zq8, va_up_ne _ _ zq7, va_up_ne _ _ zq6, va_up_ne _ _ zq5, va_up_ne _ _ zq4, va_up_ne _ _ zq3, va_up_ne _ _ zq2, va_up_ne _ _ zq1, va_up_ne _ _ zq0]; rw [ze358, ze342, ze326, ze310, ze294, ze278, ze262, ze246, ze230, ze215, ze200, ze186, ze172, ze159, ze146, ze134, ze122, ze111, ze100, ze90, ze80, ze71, ze62, ze54, ze46, ze39, ze32, ze26, ze20, ze15, ze10, ze6, ze2]; simp only [va_up, if_neg zq0, if_neg zq1, if_neg zq2, if_neg zq3, if_neg zq4, if_neg zq5, if_neg zq6, if_neg zq7, if_neg zq8, if_neg zq9, if_neg zq10, if_neg zq11, if_neg zq12, if_neg zq13]
  · rfl
