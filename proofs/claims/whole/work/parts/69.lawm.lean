/-- from the loop's head: the law comes to its end with 1 -/
theorem law_loop {κ : Wc} {G : Gm} {b L : Nat} {xs : Nat → Int32} {o : Nat} (X : Ok κ G cL_law 4 yL_law.cls 60 600000 7302250) (hs : Scr κ G b L xs) (hL : L ≤ 3072) (hret : ∀ (pc : Nat) (ls : Lc) (h : Mm) (n ca sl : Nat), decode cL_law pc = .ok (.ireturn, 1) → ca ≤ 600000 → sl ≤ 7302250 → Z κ G 4 pc ls [.int 1] h n ca sl) : ∀ (jj i : Nat) (h : Mm) (n ca sl : Nat) (d : Nat → Int32) (kp : Nat → Int32) (im : Int32) (fo : Nat → Int32) (tr : Nat → Int32) (tn : Nat) (bi : Nat → Int32) (ss : Nat → Nat) (nu : Nat → Int32), L - i < jj → i ≤ L → ca ≤ 200 + i → sl ≤ 10000 + 18 * i → o + 76 ≤ n → CI κ o h d kp im fo tr tn bi ss nu → RI κ (o + 62) h d kp im fo tr tn bi ss nu → Z κ G 4 18 [(3, .int (nI i)), (2, .ref (o + 62)), (1, .ref o), (0, .ref b)] [] h n ca sl := by
  intro jj
  induction jj with
  | zero => intro i h n ca sl d kp im fo tr tn bi ss nu hj; exact absurd hj (Nat.not_lt_zero _)
  | succ jj ih =>
    intro i h n ca sl d kp im fo tr tn bi ss nu hj hiL hca hsl hzn HC HR
    refine z_iload_n X 0 dL_law_18 rfl ?_
    refine z_aload_n X 3 dL_law_19 rfl ?_
    refine z_slen X hs dL_law_20 ?_
    refine z_bipush (v := 6) X dL_law_21 (by decide) ?_
    refine z_isub X dL_law_23 ?_
    have e6 : (nI L - 6).toInt = (L : Int) - 6 := by
      have h1 := i_nI (n := L) (by omega)
      have h2 : (6 : Int32).toInt = 6 := by decide
      rw [i_sub (by omega) (by omega), h1, h2]
    have ei := i_nI (n := i) (by omega)
    refine z_icmp_gt X 1508 dL_law_24 (by decide) (fun _ => ?_) (fun hq => ?_)
    · refine z_iconst (v := 1) X dL_law_1508 (by decide) ?_
      exact hret _ _ _ _ _ _ dL_law_1509 (by omega) (by omega)
    · rw [i_lt, e6, ei] at hq
      have hi6 : i + 6 ≤ L := by omega
      have hb : ∀ (h' : Mm) (n' ca' sl' : Nat) (d : Nat → Int32) (kp : Nat → Int32) (im : Int32) (fo : Nat → Int32) (tr : Nat → Int32) (tn : Nat) (bi : Nat → Int32) (ss : Nat → Nat) (nu : Nat → Int32), CI κ o h' d kp im fo tr tn bi ss nu → RI κ (o + 62) h' d kp im fo tr tn bi ss nu → o + 76 ≤ n' → ca' ≤ ca + 3 → sl' ≤ sl + 105 → Z κ G 4 1502 [(3, .int (nI i)), (2, .ref (o + 62)), (1, .ref o), (0, .ref b)] [] h' n' ca' sl' := by
        intro h' n' ca' sl' d kp im fo tr tn bi ss nu HC' HR' hz' hc' hl'
        refine z_iinc (v := nI (i + 6)) (ls' := [(3, .int (nI (i + 6))), (2, .ref (o + 62)), (1, .ref o), (0, .ref b)]) X 0 dL_law_1502 rfl (nI_add i 6) (by decide) rfl ?_
        refine z_goto X 18 dL_law_1505 (by decide) ?_
        exact ih (i + 6) h' n' ca' sl' d kp im fo tr tn bi ss nu (by omega) (by omega) (by omega) (by omega) hz' HC' HR'
      refine z_aload_n X 3 dL_law_27 rfl ?_
      refine z_iload_n X 0 dL_law_28 rfl ?_
      refine z_sld (v := xs i) X hs dL_law_29 (vp_in_nI (n := i) (by omega) (by omega)) (congrArg xs (nI_clamp (by omega))) ?_
      refine z_bipush (v := 63) X dL_law_30 (by decide) ?_
      refine z_iand X dL_law_32 ?_
      refine z_topi (fun y ey => ?_)
      by_cases zc0 : y = 0
      · refine z_tableIn (off := 183) X 216 dL_law_33 (by rw [zc0]; decide) (by rw [zc0]; decide) (by rw [zc0]; decide) (by decide) ?_
        exact law_cell X hs hi6 hL HC HR hzn (by omega) (by omega) hb
      by_cases zc1 : y = 1
      · refine z_tableIn (off := 216) X 249 dL_law_33 (by rw [zc1]; decide) (by rw [zc1]; decide) (by rw [zc1]; decide) (by decide) ?_
        exact law_shape X hs hi6 hL HC HR hzn (by omega) (by omega) hb
      by_cases zc2 : y = 2
      · refine z_tableIn (off := 259) X 292 dL_law_33 (by rw [zc2]; decide) (by rw [zc2]; decide) (by rw [zc2]; decide) (by decide) ?_
        exact law_cells X hs hi6 hL HC HR hzn (by omega) (by omega) hb
      by_cases zc3 : y = 3
      · refine z_tableIn (off := 282) X 315 dL_law_33 (by rw [zc3]; decide) (by rw [zc3]; decide) (by rw [zc3]; decide) (by decide) ?_
        exact law_set X hs hi6 hL HC HR hzn (by omega) (by omega) hb
      by_cases zc4 : y = 4
      · refine z_tableIn (off := 315) X 348 dL_law_33 (by rw [zc4]; decide) (by rw [zc4]; decide) (by rw [zc4]; decide) (by decide) ?_
        exact law_cause X hs hi6 hL HC HR hzn (by omega) (by omega) hb
      by_cases zc5 : y = 5
      · refine z_tableIn (off := 348) X 381 dL_law_33 (by rw [zc5]; decide) (by rw [zc5]; decide) (by rw [zc5]; decide) (by decide) ?_
        exact law_ofCause X hs hi6 hL HC HR hzn (by omega) (by omega) hb
      by_cases zc6 : y = 6
      · refine z_tableIn (off := 381) X 414 dL_law_33 (by rw [zc6]; decide) (by rw [zc6]; decide) (by rw [zc6]; decide) (by decide) ?_
        exact law_as X hs hi6 hL HC HR hzn (by omega) (by omega) hb
      by_cases zc7 : y = 7
      · refine z_tableIn (off := 414) X 447 dL_law_33 (by rw [zc7]; decide) (by rw [zc7]; decide) (by rw [zc7]; decide) (by decide) ?_
        exact law_turn X hs hi6 hL HC HR hzn (by omega) (by omega) hb
      by_cases zc8 : y = 8
      · refine z_tableIn (off := 447) X 480 dL_law_33 (by rw [zc8]; decide) (by rw [zc8]; decide) (by rw [zc8]; decide) (by decide) ?_
        exact law_freezes X hs hi6 hL HC HR hzn (by omega) (by omega) hb
      by_cases zc9 : y = 9
      · refine z_tableIn (off := 500) X 533 dL_law_33 (by rw [zc9]; decide) (by rw [zc9]; decide) (by rw [zc9]; decide) (by decide) ?_
        exact law_feed X hs hi6 hL HC HR hzn (by omega) (by omega) hb
      by_cases zc10 : y = 10
      · refine z_tableIn (off := 563) X 596 dL_law_33 (by rw [zc10]; decide) (by rw [zc10]; decide) (by rw [zc10]; decide) (by decide) ?_
        exact law_text X hs hi6 hL HC HR hzn (by omega) (by omega) hb
      by_cases zc11 : y = 11
      · refine z_tableIn (off := 586) X 619 dL_law_33 (by rw [zc11]; decide) (by rw [zc11]; decide) (by rw [zc11]; decide) (by decide) ?_
        exact law_law X hs hi6 hL HC HR hzn (by omega) (by omega) hb
      by_cases zc12 : y = 12
      · refine z_tableIn (off := 639) X 672 dL_law_33 (by rw [zc12]; decide) (by rw [zc12]; decide) (by rw [zc12]; decide) (by decide) ?_
        exact law_ticks X hs hi6 hL HC HR hzn (by omega) (by omega) hb
      by_cases zc13 : y = 13
      · refine z_tableIn (off := 662) X 695 dL_law_33 (by rw [zc13]; decide) (by rw [zc13]; decide) (by rw [zc13]; decide) (by decide) ?_
        exact law_gusts X hs hi6 hL HC HR hzn (by omega) (by omega) hb
      by_cases zc14 : y = 14
      · refine z_tableIn (off := 685) X 718 dL_law_33 (by rw [zc14]; decide) (by rw [zc14]; decide) (by rw [zc14]; decide) (by decide) ?_
        exact law_mass X hs hi6 hL HC HR hzn (by omega) (by omega) hb
      by_cases zc15 : y = 15
      · refine z_tableIn (off := 698) X 731 dL_law_33 (by rw [zc15]; decide) (by rw [zc15]; decide) (by rw [zc15]; decide) (by decide) ?_
        exact law_ring X hs hi6 hL HC HR hzn (by omega) (by omega) hb
      by_cases zc16 : y = 16
      · refine z_tableIn (off := 721) X 754 dL_law_33 (by rw [zc16]; decide) (by rw [zc16]; decide) (by rw [zc16]; decide) (by decide) ?_
        exact law_apart X hs hi6 hL HC HR hzn (by omega) (by omega) hb
      by_cases zc17 : y = 17
      · refine z_tableIn (off := 734) X 767 dL_law_33 (by rw [zc17]; decide) (by rw [zc17]; decide) (by rw [zc17]; decide) (by decide) ?_
        exact law_then X hs hi6 hL HC HR hzn (by omega) (by omega) hb
      by_cases zc18 : y = 18
      · refine z_tableIn (off := 767) X 800 dL_law_33 (by rw [zc18]; decide) (by rw [zc18]; decide) (by rw [zc18]; decide) (by decide) ?_
        exact law_wide X hs hi6 hL HC HR hzn (by omega) (by omega) hb
      by_cases zc19 : y = 19
      · refine z_tableIn (off := 800) X 833 dL_law_33 (by rw [zc19]; decide) (by rw [zc19]; decide) (by rw [zc19]; decide) (by decide) ?_
        exact law_pace X hs hi6 hL HC HR hzn (by omega) (by omega) hb
      by_cases zc20 : y = 20
      · refine z_tableIn (off := 823) X 856 dL_law_33 (by rw [zc20]; decide) (by rw [zc20]; decide) (by rw [zc20]; decide) (by decide) ?_
        exact law_needed X hs hi6 hL HC HR hzn (by omega) (by omega) hb
      by_cases zc21 : y = 21
      · refine z_tableIn (off := 846) X 879 dL_law_33 (by rw [zc21]; decide) (by rw [zc21]; decide) (by rw [zc21]; decide) (by decide) ?_
        exact law_little X hs hi6 hL HC HR hzn (by omega) (by omega) hb
      by_cases zc22 : y = 22
      · refine z_tableIn (off := 879) X 912 dL_law_33 (by rw [zc22]; decide) (by rw [zc22]; decide) (by rw [zc22]; decide) (by decide) ?_
        exact law_breaks X hs hi6 hL HC HR hzn (by omega) (by omega) hb
      by_cases zc23 : y = 23
      · refine z_tableIn (off := 902) X 935 dL_law_33 (by rw [zc23]; decide) (by rw [zc23]; decide) (by rw [zc23]; decide) (by decide) ?_
        exact law_falls X hs hi6 hL HC HR hzn (by omega) (by omega) hb
      by_cases zc24 : y = 24
      · refine z_tableIn (off := 925) X 958 dL_law_33 (by rw [zc24]; decide) (by rw [zc24]; decide) (by rw [zc24]; decide) (by decide) ?_
        exact law_off X hs hi6 hL HC HR hzn (by omega) (by omega) hb
      by_cases zc25 : y = 25
      · refine z_tableIn (off := 948) X 981 dL_law_33 (by rw [zc25]; decide) (by rw [zc25]; decide) (by rw [zc25]; decide) (by decide) ?_
        exact law_made X hs hi6 hL HC HR hzn (by omega) (by omega) hb
      by_cases zc26 : y = 26
      · refine z_tableIn (off := 991) X 1024 dL_law_33 (by rw [zc26]; decide) (by rw [zc26]; decide) (by rw [zc26]; decide) (by decide) ?_
        exact law_blown X hs hi6 hL HC HR hzn (by omega) (by omega) hb
      by_cases zc27 : y = 27
      · refine z_tableIn (off := 1024) X 1057 dL_law_33 (by rw [zc27]; decide) (by rw [zc27]; decide) (by rw [zc27]; decide) (by decide) ?_
        exact law_box X hs hi6 hL HC HR hzn (by omega) (by omega) hb
      by_cases zc28 : y = 28
      · refine z_tableIn (off := 1067) X 1100 dL_law_33 (by rw [zc28]; decide) (by rw [zc28]; decide) (by rw [zc28]; decide) (by decide) ?_
        exact law_tries X hs hi6 hL HC HR hzn (by omega) (by omega) hb
      by_cases zc29 : y = 29
      · refine z_tableIn (off := 1090) X 1123 dL_law_33 (by rw [zc29]; decide) (by rw [zc29]; decide) (by rw [zc29]; decide) (by decide) ?_
        exact law_seed X hs hi6 hL HC HR hzn (by omega) (by omega) hb
      by_cases zc30 : y = 30
      · refine z_tableIn (off := 1113) X 1146 dL_law_33 (by rw [zc30]; decide) (by rw [zc30]; decide) (by rw [zc30]; decide) (by decide) ?_
        exact law_voice X hs hi6 hL HC HR hzn (by omega) (by omega) hb
      by_cases zc31 : y = 31
      · refine z_tableIn (off := 1156) X 1189 dL_law_33 (by rw [zc31]; decide) (by rw [zc31]; decide) (by rw [zc31]; decide) (by decide) ?_
        exact law_trace X hs hi6 hL HC HR hzn (by omega) (by omega) hb
      by_cases zc32 : y = 32
      · refine z_tableIn (off := 1179) X 1212 dL_law_33 (by rw [zc32]; decide) (by rw [zc32]; decide) (by rw [zc32]; decide) (by decide) ?_
        exact law_sheet X hs hi6 hL HC HR hzn (by omega) (by omega) hb
      by_cases zc33 : y = 33
      · refine z_tableIn (off := 1222) X 1255 dL_law_33 (by rw [zc33]; decide) (by rw [zc33]; decide) (by rw [zc33]; decide) (by decide) ?_
        exact law_put X hs hi6 hL HC HR hzn (by omega) (by omega) hb
      by_cases zc34 : y = 34
      · refine z_tableIn (off := 1265) X 1298 dL_law_33 (by rw [zc34]; decide) (by rw [zc34]; decide) (by rw [zc34]; decide) (by decide) ?_
        exact law_move X hs hi6 hL HC HR hzn (by omega) (by omega) hb
      by_cases zc35 : y = 35
      · refine z_tableIn (off := 1328) X 1361 dL_law_33 (by rw [zc35]; decide) (by rw [zc35]; decide) (by rw [zc35]; decide) (by decide) ?_
        exact law_draw X hs hi6 hL HC HR hzn (by omega) (by omega) hb
      by_cases zc36 : y = 36
      · refine z_tableIn (off := 1351) X 1384 dL_law_33 (by rw [zc36]; decide) (by rw [zc36]; decide) (by rw [zc36]; decide) (by decide) ?_
        exact law_image X hs hi6 hL HC HR hzn (by omega) (by omega) hb
      by_cases zc37 : y = 37
      · refine z_tableIn (off := 1364) X 1397 dL_law_33 (by rw [zc37]; decide) (by rw [zc37]; decide) (by rw [zc37]; decide) (by decide) ?_
        exact law_restore X hs hi6 hL HC HR hzn (by omega) (by omega) hb
      by_cases zc38 : y = 38
      · refine z_tableIn (off := 1377) X 1410 dL_law_33 (by rw [zc38]; decide) (by rw [zc38]; decide) (by rw [zc38]; decide) (by decide) ?_
        exact law_tell X hs hi6 hL HC HR hzn (by omega) (by omega) hb
      by_cases zc39 : y = 39
      · refine z_tableIn (off := 1400) X 1433 dL_law_33 (by rw [zc39]; decide) (by rw [zc39]; decide) (by rw [zc39]; decide) (by decide) ?_
        exact law_check X hs hi6 hL HC HR hzn (by omega) (by omega) hb
      by_cases zc40 : y = 40
      · refine z_tableIn (off := 1423) X 1456 dL_law_33 (by rw [zc40]; decide) (by rw [zc40]; decide) (by rw [zc40]; decide) (by decide) ?_
        exact law_count X hs hi6 hL HC HR hzn (by omega) (by omega) hb
      by_cases zc41 : y = 41
      · refine z_tableIn (off := 1446) X 1479 dL_law_33 (by rw [zc41]; decide) (by rw [zc41]; decide) (by rw [zc41]; decide) (by decide) ?_
        exact law_told X hs hi6 hL HC HR hzn (by omega) (by omega) hb
      refine z_tableOut X 1502 dL_law_33 (by have t0 := lv_neT zc0 (show (0 : Int32).toInt = 0 by decide); have t1 := lv_neT zc1 (show (1 : Int32).toInt = 1 by decide); have t2 := lv_neT zc2 (show (2 : Int32).toInt = 2 by decide); have t3 := lv_neT zc3 (show (3 : Int32).toInt = 3 by decide); have t4 := lv_neT zc4 (show (4 : Int32).toInt = 4 by decide); have t5 := lv_neT zc5 (show (5 : Int32).toInt = 5 by decide); have t6 := lv_neT zc6 (show (6 : Int32).toInt = 6 by decide); have t7 := lv_neT zc7 (show (7 : Int32).toInt = 7 by decide); have t8 := lv_neT zc8 (show (8 : Int32).toInt = 8 by decide); have t9 := lv_neT zc9 (show (9 : Int32).toInt = 9 by decide); have t10 := lv_neT zc10 (show (10 : Int32).toInt = 10 by decide); have t11 := lv_neT zc11 (show (11 : Int32).toInt = 11 by decide); have t12 := lv_neT zc12 (show (12 : Int32).toInt = 12 by decide); have t13 := lv_neT zc13 (show (13 : Int32).toInt = 13 by decide); have t14 := lv_neT zc14 (show (14 : Int32).toInt = 14 by decide); have t15 := lv_neT zc15 (show (15 : Int32).toInt = 15 by decide); have t16 := lv_neT zc16 (show (16 : Int32).toInt = 16 by decide); have t17 := lv_neT zc17 (show (17 : Int32).toInt = 17 by decide); have t18 := lv_neT zc18 (show (18 : Int32).toInt = 18 by decide); have t19 := lv_neT zc19 (show (19 : Int32).toInt = 19 by decide); have t20 := lv_neT zc20 (show (20 : Int32).toInt = 20 by decide); have t21 := lv_neT zc21 (show (21 : Int32).toInt = 21 by decide); have t22 := lv_neT zc22 (show (22 : Int32).toInt = 22 by decide); have t23 := lv_neT zc23 (show (23 : Int32).toInt = 23 by decide); have t24 := lv_neT zc24 (show (24 : Int32).toInt = 24 by decide); have t25 := lv_neT zc25 (show (25 : Int32).toInt = 25 by decide); have t26 := lv_neT zc26 (show (26 : Int32).toInt = 26 by decide); have t27 := lv_neT zc27 (show (27 : Int32).toInt = 27 by decide); have t28 := lv_neT zc28 (show (28 : Int32).toInt = 28 by decide); have t29 := lv_neT zc29 (show (29 : Int32).toInt = 29 by decide); have t30 := lv_neT zc30 (show (30 : Int32).toInt = 30 by decide); have t31 := lv_neT zc31 (show (31 : Int32).toInt = 31 by decide); have t32 := lv_neT zc32 (show (32 : Int32).toInt = 32 by decide); have t33 := lv_neT zc33 (show (33 : Int32).toInt = 33 by decide); have t34 := lv_neT zc34 (show (34 : Int32).toInt = 34 by decide); have t35 := lv_neT zc35 (show (35 : Int32).toInt = 35 by decide); have t36 := lv_neT zc36 (show (36 : Int32).toInt = 36 by decide); have t37 := lv_neT zc37 (show (37 : Int32).toInt = 37 by decide); have t38 := lv_neT zc38 (show (38 : Int32).toInt = 38 by decide); have t39 := lv_neT zc39 (show (39 : Int32).toInt = 39 by decide); have t40 := lv_neT zc40 (show (40 : Int32).toInt = 40 by decide); have t41 := lv_neT zc41 (show (41 : Int32).toInt = 41 by decide); omega) (by decide) ?_
      exact hb _ _ _ _ _ _ _ _ _ _ _ _ _ HC HR hzn (by omega) (by omega)
