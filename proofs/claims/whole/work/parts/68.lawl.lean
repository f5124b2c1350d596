theorem RI.obj {κ : Wc} {r : Nat} {h : Mm} {d : Nat → Int32} {kp : Nat → Int32} {im : Int32} {fo : Nat → Int32} {tr : Nat → Int32} {tn : Nat} {bi : Nat → Int32} {ss : Nat → Nat} {nu : Nat → Int32} (H : RI κ r h d kp im fo tr tn bi ss nu) : ∃ fs : List Value, h r = some (.inr (12, fs)) := by
  obtain ⟨_, _, _, _, _, _, _, _, _, _, _, _, _, _, _, k0, -⟩ := H
  exact ⟨_, k0⟩
theorem RI.nam {κ : Wc} {r : Nat} {h : Mm} {d : Nat → Int32} {kp : Nat → Int32} {im : Int32} {fo : Nat → Int32} {tr : Nat → Int32} {tn : Nat} {bi : Nat → Int32} {ss : Nat → Nat} {nu : Nat → Int32} (H : RI κ r h d kp im fo tr tn bi ss nu) : ∃ nm : Nat → Int32, h (r + 5) = arI κ 3 nm := by
  obtain ⟨_, _, _, _, _, _, _, _, _, _, _, _, _, _, _, k0, k1, k2, k3, k4, k5, -⟩ := H
  exact ⟨_, k5⟩
theorem CI.wd {κ : Wc} {o : Nat} {h : Mm} {d : Nat → Int32} {kp : Nat → Int32} {im : Int32} {fo : Nat → Int32} {tr : Nat → Int32} {tn : Nat} {bi : Nat → Int32} {ss : Nat → Nat} {nu : Nat → Int32} (H : CI κ o h d kp im fo tr tn bi ss nu) : WD d := by
  obtain ⟨-, ⟨_, _, _, _, _, _, _, -, -, -, -, -, -, -, -, -, -, -, -, -, -, -, -, -, -, -, hwd⟩, -⟩ := H
  exact hwd
theorem CI.tn {κ : Wc} {o : Nat} {h : Mm} {d : Nat → Int32} {kp : Nat → Int32} {im : Int32} {fo : Nat → Int32} {tr : Nat → Int32} {tn : Nat} {bi : Nat → Int32} {ss : Nat → Nat} {nu : Nat → Int32} (H : CI κ o h d kp im fo tr tn bi ss nu) : tn ≤ 40 := H.2.2.2.2.2.2.2.2.2.2.2.2
theorem CI.ss {κ : Wc} {o : Nat} {h : Mm} {d : Nat → Int32} {kp : Nat → Int32} {im : Int32} {fo : Nat → Int32} {tr : Nat → Int32} {tn : Nat} {bi : Nat → Int32} {ss : Nat → Nat} {nu : Nat → Int32} (H : CI κ o h d kp im fo tr tn bi ss nu) : ∀ k, k < 4 → ss k ≤ 40 := fun k hk => (H.2.2.2.2.2.1 k hk).2.2
theorem law_cell {κ : Wc} {G : Gm} {b L : Nat} {xs : Nat → Int32} {o i n ca sl : Nat} {h : Mm} {d : Nat → Int32} {kp : Nat → Int32} {im : Int32} {fo : Nat → Int32} {tr : Nat → Int32} {tn : Nat} {bi : Nat → Int32} {ss : Nat → Nat} {nu : Nat → Int32} (X : Ok κ G cL_law 4 yL_law.cls 60 600000 7302250) (hs : Scr κ G b L xs) (hi : i + 6 ≤ L) (hL : L ≤ 3072) (HC : CI κ o h d kp im fo tr tn bi ss nu) (HR : RI κ (o + 62) h d kp im fo tr tn bi ss nu) (hzn : o + 76 ≤ n) (hca : ca + 3 ≤ 600000) (hsl : sl + 105 ≤ 7302250) (hb : ∀ (h' : Mm) (n' ca' sl' : Nat) (d : Nat → Int32) (kp : Nat → Int32) (im : Int32) (fo : Nat → Int32) (tr : Nat → Int32) (tn : Nat) (bi : Nat → Int32) (ss : Nat → Nat) (nu : Nat → Int32), CI κ o h' d kp im fo tr tn bi ss nu → RI κ (o + 62) h' d kp im fo tr tn bi ss nu → o + 76 ≤ n' → ca' ≤ ca + 3 → sl' ≤ sl + 105 → Z κ G 4 1502 [(3, .int (nI i)), (2, .ref (o + 62)), (1, .ref o), (0, .ref b)] [] h' n' ca' sl') : Z κ G 4 216 [(3, .int (nI i)), (2, .ref (o + 62)), (1, .ref o), (0, .ref b)] [] h n ca sl := by
  refine z_aload_n X 2 dL_law_216 rfl ?_
  refine z_aload_n X 3 dL_law_217 rfl ?_
  refine z_iload_n X 0 dL_law_218 rfl ?_
  refine z_iconst (v := 1) X dL_law_219 (by decide) ?_
  refine z_iadd X dL_law_220 ?_
  refine z_toe (y := nI (i + 1)) (nI_add (i) (1)) ?_
  refine z_sld (v := xs (i + 1)) X hs dL_law_221 (vp_in_nI (n := i + 1) (by omega) (by omega)) (congrArg xs (nI_clamp (by omega))) ?_
  refine z_aload_n X 3 dL_law_222 rfl ?_
  refine z_iload_n X 0 dL_law_223 rfl ?_
  refine z_iconst (v := 2) X dL_law_224 (by decide) ?_
  refine z_iadd X dL_law_225 ?_
  refine z_toe (y := nI (i + 2)) (nI_add (i) (2)) ?_
  refine z_sld (v := xs (i + 2)) X hs dL_law_226 (vp_in_nI (n := i + 2) (by omega) (by omega)) (congrArg xs (nI_clamp (by omega))) ?_
  refine z_callV X (k_cell (l := gL G) (n := n) (c := xs (i + 1)) (w := xs (i + 2)) HC) mk_X11_cell dL_law_227 wd_248 wd_249 wd_250 rfl HC.1 rfl rfl rfl (Nat.le_of_ble_eq_true rfl) (by omega) (Nat.le_of_ble_eq_true rfl) (by omega) (by omega) (fun q h1 n1 hp => ?_)
  obtain ⟨rfl, hn1, HC1, hf1⟩ := hp
  refine z_st (st' := [.int _]) rfl ?_
  have HR1 := HR.same (h1 := h1) (fun zq z1 z2 => hf1 zq (by omega) (by omega))
  obtain ⟨zfs, hr0⟩ := RI.obj HR1
  refine z_aload_n X 1 dL_law_230 rfl ?_
  refine z_aload_n X 3 dL_law_231 rfl ?_
  refine z_iload_n X 0 dL_law_232 rfl ?_
  refine z_iconst (v := 1) X dL_law_233 (by decide) ?_
  refine z_iadd X dL_law_234 ?_
  refine z_toe (y := nI (i + 1)) (nI_add (i) (1)) ?_
  refine z_sld (v := xs (i + 1)) X hs dL_law_235 (vp_in_nI (n := i + 1) (by omega) (by omega)) (congrArg xs (nI_clamp (by omega))) ?_
  refine z_aload_n X 3 dL_law_236 rfl ?_
  refine z_iload_n X 0 dL_law_237 rfl ?_
  refine z_iconst (v := 2) X dL_law_238 (by decide) ?_
  refine z_iadd X dL_law_239 ?_
  refine z_toe (y := nI (i + 2)) (nI_add (i) (2)) ?_
  refine z_sld (v := xs (i + 2)) X hs dL_law_240 (vp_in_nI (n := i + 2) (by omega) (by omega)) (congrArg xs (nI_clamp (by omega))) ?_
  refine z_callV X (q_cell (l := gL G) (n := n1) (c := xs (i + 1)) (w := xs (i + 2)) HR1 HC.wd) mk_X12_cell dL_law_241 wd_1006 wd_1007 wd_1008 rfl hr0 rfl rfl rfl (Nat.le_of_ble_eq_true rfl) (by omega) (Nat.le_of_ble_eq_true rfl) (by omega) (by omega) (fun q h2 n2 hp => ?_)
  obtain ⟨rfl, hn2, HR2, hf2⟩ := hp
  refine z_st (st' := [.int _, .int _]) rfl ?_
  have HC2 := HC1.same (h1 := h2) (fun zq hq => hf2 zq (by omega))
  exact z_icmp_eq X 1502 dL_law_244 (by decide) (fun _ => hb _ _ _ _ _ _ _ _ _ _ _ _ _ HC2 HR2 (by omega) (by omega) (by omega)) (fun hne => absurd rfl hne)
theorem law_shape {κ : Wc} {G : Gm} {b L : Nat} {xs : Nat → Int32} {o i n ca sl : Nat} {h : Mm} {d : Nat → Int32} {kp : Nat → Int32} {im : Int32} {fo : Nat → Int32} {tr : Nat → Int32} {tn : Nat} {bi : Nat → Int32} {ss : Nat → Nat} {nu : Nat → Int32} (X : Ok κ G cL_law 4 yL_law.cls 60 600000 7302250) (hs : Scr κ G b L xs) (hi : i + 6 ≤ L) (hL : L ≤ 3072) (HC : CI κ o h d kp im fo tr tn bi ss nu) (HR : RI κ (o + 62) h d kp im fo tr tn bi ss nu) (hzn : o + 76 ≤ n) (hca : ca + 3 ≤ 600000) (hsl : sl + 105 ≤ 7302250) (hb : ∀ (h' : Mm) (n' ca' sl' : Nat) (d : Nat → Int32) (kp : Nat → Int32) (im : Int32) (fo : Nat → Int32) (tr : Nat → Int32) (tn : Nat) (bi : Nat → Int32) (ss : Nat → Nat) (nu : Nat → Int32), CI κ o h' d kp im fo tr tn bi ss nu → RI κ (o + 62) h' d kp im fo tr tn bi ss nu → o + 76 ≤ n' → ca' ≤ ca + 3 → sl' ≤ sl + 105 → Z κ G 4 1502 [(3, .int (nI i)), (2, .ref (o + 62)), (1, .ref o), (0, .ref b)] [] h' n' ca' sl') : Z κ G 4 249 [(3, .int (nI i)), (2, .ref (o + 62)), (1, .ref o), (0, .ref b)] [] h n ca sl := by
  refine z_aload_n X 2 dL_law_249 rfl ?_
  refine z_aload_n X 3 dL_law_250 rfl ?_
  refine z_iload_n X 0 dL_law_251 rfl ?_
  refine z_iconst (v := 1) X dL_law_252 (by decide) ?_
  refine z_iadd X dL_law_253 ?_
  refine z_toe (y := nI (i + 1)) (nI_add (i) (1)) ?_
  refine z_sld (v := xs (i + 1)) X hs dL_law_254 (vp_in_nI (n := i + 1) (by omega) (by omega)) (congrArg xs (nI_clamp (by omega))) ?_
  refine z_aload_n X 3 dL_law_255 rfl ?_
  refine z_iload_n X 0 dL_law_256 rfl ?_
  refine z_iconst (v := 2) X dL_law_257 (by decide) ?_
  refine z_iadd X dL_law_258 ?_
  refine z_toe (y := nI (i + 2)) (nI_add (i) (2)) ?_
  refine z_sld (v := xs (i + 2)) X hs dL_law_259 (vp_in_nI (n := i + 2) (by omega) (by omega)) (congrArg xs (nI_clamp (by omega))) ?_
  refine z_aload_n X 3 dL_law_260 rfl ?_
  refine z_iload_n X 0 dL_law_261 rfl ?_
  refine z_iconst (v := 3) X dL_law_262 (by decide) ?_
  refine z_iadd X dL_law_263 ?_
  refine z_toe (y := nI (i + 3)) (nI_add (i) (3)) ?_
  refine z_sld (v := xs (i + 3)) X hs dL_law_264 (vp_in_nI (n := i + 3) (by omega) (by omega)) (congrArg xs (nI_clamp (by omega))) ?_
  refine z_callV X (k_shape (l := gL G) (n := n) (c := xs (i + 1)) (w := xs (i + 2)) (v := xs (i + 3)) HC) mk_X11_shape dL_law_265 wd_278 wd_279 wd_280 rfl HC.1 rfl rfl rfl (Nat.le_of_ble_eq_true rfl) (by omega) (Nat.le_of_ble_eq_true rfl) (by omega) (by omega) (fun q h1 n1 hp => ?_)
  obtain ⟨rfl, hn1, HC1, hf1⟩ := hp
  refine z_st (st' := [.int _]) rfl ?_
  have HR1 := HR.same (h1 := h1) (fun zq z1 z2 => hf1 zq (by omega) (by omega))
  obtain ⟨zfs, hr0⟩ := RI.obj HR1
  refine z_aload_n X 1 dL_law_268 rfl ?_
  refine z_aload_n X 3 dL_law_269 rfl ?_
  refine z_iload_n X 0 dL_law_270 rfl ?_
  refine z_iconst (v := 1) X dL_law_271 (by decide) ?_
  refine z_iadd X dL_law_272 ?_
  refine z_toe (y := nI (i + 1)) (nI_add (i) (1)) ?_
  refine z_sld (v := xs (i + 1)) X hs dL_law_273 (vp_in_nI (n := i + 1) (by omega) (by omega)) (congrArg xs (nI_clamp (by omega))) ?_
  refine z_aload_n X 3 dL_law_274 rfl ?_
  refine z_iload_n X 0 dL_law_275 rfl ?_
  refine z_iconst (v := 2) X dL_law_276 (by decide) ?_
  refine z_iadd X dL_law_277 ?_
  refine z_toe (y := nI (i + 2)) (nI_add (i) (2)) ?_
  refine z_sld (v := xs (i + 2)) X hs dL_law_278 (vp_in_nI (n := i + 2) (by omega) (by omega)) (congrArg xs (nI_clamp (by omega))) ?_
  refine z_aload_n X 3 dL_law_279 rfl ?_
  refine z_iload_n X 0 dL_law_280 rfl ?_
  refine z_iconst (v := 3) X dL_law_281 (by decide) ?_
  refine z_iadd X dL_law_282 ?_
  refine z_toe (y := nI (i + 3)) (nI_add (i) (3)) ?_
  refine z_sld (v := xs (i + 3)) X hs dL_law_283 (vp_in_nI (n := i + 3) (by omega) (by omega)) (congrArg xs (nI_clamp (by omega))) ?_
  refine z_callV X (q_shape (l := gL G) (n := n1) (c := xs (i + 1)) (w := xs (i + 2)) (v := xs (i + 3)) HR1 HC.wd) mk_X12_shape dL_law_284 wd_1026 wd_1027 wd_1028 rfl hr0 rfl rfl rfl (Nat.le_of_ble_eq_true rfl) (by omega) (Nat.le_of_ble_eq_true rfl) (by omega) (by omega) (fun q h2 n2 hp => ?_)
  obtain ⟨rfl, hn2, HR2, hf2⟩ := hp
  refine z_st (st' := [.int _, .int _]) rfl ?_
  have HC2 := HC1.same (h1 := h2) (fun zq hq => hf2 zq (by omega))
  exact z_icmp_eq X 1502 dL_law_287 (by decide) (fun _ => hb _ _ _ _ _ _ _ _ _ _ _ _ _ HC2 HR2 (by omega) (by omega) (by omega)) (fun hne => absurd rfl hne)
theorem law_cells {κ : Wc} {G : Gm} {b L : Nat} {xs : Nat → Int32} {o i n ca sl : Nat} {h : Mm} {d : Nat → Int32} {kp : Nat → Int32} {im : Int32} {fo : Nat → Int32} {tr : Nat → Int32} {tn : Nat} {bi : Nat → Int32} {ss : Nat → Nat} {nu : Nat → Int32} (X : Ok κ G cL_law 4 yL_law.cls 60 600000 7302250) (hs : Scr κ G b L xs) (hi : i + 6 ≤ L) (hL : L ≤ 3072) (HC : CI κ o h d kp im fo tr tn bi ss nu) (HR : RI κ (o + 62) h d kp im fo tr tn bi ss nu) (hzn : o + 76 ≤ n) (hca : ca + 3 ≤ 600000) (hsl : sl + 105 ≤ 7302250) (hb : ∀ (h' : Mm) (n' ca' sl' : Nat) (d : Nat → Int32) (kp : Nat → Int32) (im : Int32) (fo : Nat → Int32) (tr : Nat → Int32) (tn : Nat) (bi : Nat → Int32) (ss : Nat → Nat) (nu : Nat → Int32), CI κ o h' d kp im fo tr tn bi ss nu → RI κ (o + 62) h' d kp im fo tr tn bi ss nu → o + 76 ≤ n' → ca' ≤ ca + 3 → sl' ≤ sl + 105 → Z κ G 4 1502 [(3, .int (nI i)), (2, .ref (o + 62)), (1, .ref o), (0, .ref b)] [] h' n' ca' sl') : Z κ G 4 292 [(3, .int (nI i)), (2, .ref (o + 62)), (1, .ref o), (0, .ref b)] [] h n ca sl := by
  refine z_aload_n X 2 dL_law_292 rfl ?_
  refine z_aload_n X 3 dL_law_293 rfl ?_
  refine z_iload_n X 0 dL_law_294 rfl ?_
  refine z_iconst (v := 1) X dL_law_295 (by decide) ?_
  refine z_iadd X dL_law_296 ?_
  refine z_toe (y := nI (i + 1)) (nI_add (i) (1)) ?_
  refine z_sld (v := xs (i + 1)) X hs dL_law_297 (vp_in_nI (n := i + 1) (by omega) (by omega)) (congrArg xs (nI_clamp (by omega))) ?_
  refine z_callV X (k_cells (l := gL G) (n := n) (s := xs (i + 1)) HC) mk_X11_cells dL_law_298 wd_284 wd_285 wd_286 rfl HC.1 rfl rfl rfl (Nat.le_of_ble_eq_true rfl) (by omega) (Nat.le_of_ble_eq_true rfl) (by omega) (by omega) (fun q h1 n1 hp => ?_)
  obtain ⟨rfl, hn1, HC1, hf1⟩ := hp
  refine z_st (st' := [.int _]) rfl ?_
  have HR1 := HR.same (h1 := h1) (fun zq z1 z2 => hf1 zq (by omega) (by omega))
  obtain ⟨zfs, hr0⟩ := RI.obj HR1
  refine z_aload_n X 1 dL_law_301 rfl ?_
  refine z_aload_n X 3 dL_law_302 rfl ?_
  refine z_iload_n X 0 dL_law_303 rfl ?_
  refine z_iconst (v := 1) X dL_law_304 (by decide) ?_
  refine z_iadd X dL_law_305 ?_
  refine z_toe (y := nI (i + 1)) (nI_add (i) (1)) ?_
  refine z_sld (v := xs (i + 1)) X hs dL_law_306 (vp_in_nI (n := i + 1) (by omega) (by omega)) (congrArg xs (nI_clamp (by omega))) ?_
  refine z_callV X (q_cells (l := gL G) (n := n1) (s := xs (i + 1)) HR1 HC.wd) mk_X12_cells dL_law_307 wd_1032 wd_1033 wd_1034 rfl hr0 rfl rfl rfl (Nat.le_of_ble_eq_true rfl) (by omega) (Nat.le_of_ble_eq_true rfl) (by omega) (by omega) (fun q h2 n2 hp => ?_)
  obtain ⟨rfl, hn2, HR2, hf2⟩ := hp
  refine z_st (st' := [.int _, .int _]) rfl ?_
  have HC2 := HC1.same (h1 := h2) (fun zq hq => hf2 zq (by omega))
  exact z_icmp_eq X 1502 dL_law_310 (by decide) (fun _ => hb _ _ _ _ _ _ _ _ _ _ _ _ _ HC2 HR2 (by omega) (by omega) (by omega)) (fun hne => absurd rfl hne)
theorem law_set {κ : Wc} {G : Gm} {b L : Nat} {xs : Nat → Int32} {o i n ca sl : Nat} {h : Mm} {d : Nat → Int32} {kp : Nat → Int32} {im : Int32} {fo : Nat → Int32} {tr : Nat → Int32} {tn : Nat} {bi : Nat → Int32} {ss : Nat → Nat} {nu : Nat → Int32} (X : Ok κ G cL_law 4 yL_law.cls 60 600000 7302250) (hs : Scr κ G b L xs) (hi : i + 6 ≤ L) (hL : L ≤ 3072) (HC : CI κ o h d kp im fo tr tn bi ss nu) (HR : RI κ (o + 62) h d kp im fo tr tn bi ss nu) (hzn : o + 76 ≤ n) (hca : ca + 3 ≤ 600000) (hsl : sl + 105 ≤ 7302250) (hb : ∀ (h' : Mm) (n' ca' sl' : Nat) (d : Nat → Int32) (kp : Nat → Int32) (im : Int32) (fo : Nat → Int32) (tr : Nat → Int32) (tn : Nat) (bi : Nat → Int32) (ss : Nat → Nat) (nu : Nat → Int32), CI κ o h' d kp im fo tr tn bi ss nu → RI κ (o + 62) h' d kp im fo tr tn bi ss nu → o + 76 ≤ n' → ca' ≤ ca + 3 → sl' ≤ sl + 105 → Z κ G 4 1502 [(3, .int (nI i)), (2, .ref (o + 62)), (1, .ref o), (0, .ref b)] [] h' n' ca' sl') : Z κ G 4 315 [(3, .int (nI i)), (2, .ref (o + 62)), (1, .ref o), (0, .ref b)] [] h n ca sl := by
  refine z_aload_n X 2 dL_law_315 rfl ?_
  refine z_aload_n X 3 dL_law_316 rfl ?_
  refine z_iload_n X 0 dL_law_317 rfl ?_
  refine z_iconst (v := 1) X dL_law_318 (by decide) ?_
  refine z_iadd X dL_law_319 ?_
  refine z_toe (y := nI (i + 1)) (nI_add (i) (1)) ?_
  refine z_sld (v := xs (i + 1)) X hs dL_law_320 (vp_in_nI (n := i + 1) (by omega) (by omega)) (congrArg xs (nI_clamp (by omega))) ?_
  refine z_aload_n X 3 dL_law_321 rfl ?_
  refine z_iload_n X 0 dL_law_322 rfl ?_
  refine z_iconst (v := 2) X dL_law_323 (by decide) ?_
  refine z_iadd X dL_law_324 ?_
  refine z_toe (y := nI (i + 2)) (nI_add (i) (2)) ?_
  refine z_sld (v := xs (i + 2)) X hs dL_law_325 (vp_in_nI (n := i + 2) (by omega) (by omega)) (congrArg xs (nI_clamp (by omega))) ?_
  refine z_callV X (k_set (l := gL G) (n := n) (w := xs (i + 1)) (v := xs (i + 2)) HC) mk_X11_set dL_law_326 wd_303 wd_304 wd_305 rfl HC.1 rfl rfl rfl (Nat.le_of_ble_eq_true rfl) (by omega) (Nat.le_of_ble_eq_true rfl) (by omega) (by omega) (fun q h1 n1 hp => ?_)
  obtain ⟨rfl, hn1, HC1, hf1⟩ := hp
  refine z_st (st' := [.int _]) rfl ?_
  have HR1 := HR.same (h1 := h1) (fun zq z1 z2 => hf1 zq (by omega) (by omega))
  obtain ⟨zfs, hr0⟩ := RI.obj HR1
  refine z_aload_n X 1 dL_law_329 rfl ?_
  refine z_aload_n X 3 dL_law_330 rfl ?_
  refine z_iload_n X 0 dL_law_331 rfl ?_
  refine z_iconst (v := 1) X dL_law_332 (by decide) ?_
  refine z_iadd X dL_law_333 ?_
  refine z_toe (y := nI (i + 1)) (nI_add (i) (1)) ?_
  refine z_sld (v := xs (i + 1)) X hs dL_law_334 (vp_in_nI (n := i + 1) (by omega) (by omega)) (congrArg xs (nI_clamp (by omega))) ?_
  refine z_aload_n X 3 dL_law_335 rfl ?_
  refine z_iload_n X 0 dL_law_336 rfl ?_
  refine z_iconst (v := 2) X dL_law_337 (by decide) ?_
  refine z_iadd X dL_law_338 ?_
  refine z_toe (y := nI (i + 2)) (nI_add (i) (2)) ?_
  refine z_sld (v := xs (i + 2)) X hs dL_law_339 (vp_in_nI (n := i + 2) (by omega) (by omega)) (congrArg xs (nI_clamp (by omega))) ?_
  refine z_callV X (q_set (l := gL G) (n := n1) (w := xs (i + 1)) (v := xs (i + 2)) HR1 HC.wd) mk_X12_set dL_law_340 wd_1040 wd_1041 wd_1042 rfl hr0 rfl rfl rfl (Nat.le_of_ble_eq_true rfl) (by omega) (Nat.le_of_ble_eq_true rfl) (by omega) (by omega) (fun q h2 n2 hp => ?_)
  obtain ⟨rfl, hn2, HR2, hf2⟩ := hp
  refine z_st (st' := [.int _, .int _]) rfl ?_
  have HC2 := HC1.same (h1 := h2) (fun zq hq => hf2 zq (by omega))
  exact z_icmp_eq X 1502 dL_law_343 (by decide) (fun _ => hb _ _ _ _ _ _ _ _ _ _ _ _ _ HC2 HR2 (by omega) (by omega) (by omega)) (fun hne => absurd rfl hne)
theorem law_cause {κ : Wc} {G : Gm} {b L : Nat} {xs : Nat → Int32} {o i n ca sl : Nat} {h : Mm} {d : Nat → Int32} {kp : Nat → Int32} {im : Int32} {fo : Nat → Int32} {tr : Nat → Int32} {tn : Nat} {bi : Nat → Int32} {ss : Nat → Nat} {nu : Nat → Int32} (X : Ok κ G cL_law 4 yL_law.cls 60 600000 7302250) (hs : Scr κ G b L xs) (hi : i + 6 ≤ L) (hL : L ≤ 3072) (HC : CI κ o h d kp im fo tr tn bi ss nu) (HR : RI κ (o + 62) h d kp im fo tr tn bi ss nu) (hzn : o + 76 ≤ n) (hca : ca + 3 ≤ 600000) (hsl : sl + 105 ≤ 7302250) (hb : ∀ (h' : Mm) (n' ca' sl' : Nat) (d : Nat → Int32) (kp : Nat → Int32) (im : Int32) (fo : Nat → Int32) (tr : Nat → Int32) (tn : Nat) (bi : Nat → Int32) (ss : Nat → Nat) (nu : Nat → Int32), CI κ o h' d kp im fo tr tn bi ss nu → RI κ (o + 62) h' d kp im fo tr tn bi ss nu → o + 76 ≤ n' → ca' ≤ ca + 3 → sl' ≤ sl + 105 → Z κ G 4 1502 [(3, .int (nI i)), (2, .ref (o + 62)), (1, .ref o), (0, .ref b)] [] h' n' ca' sl') : Z κ G 4 348 [(3, .int (nI i)), (2, .ref (o + 62)), (1, .ref o), (0, .ref b)] [] h n ca sl := by
  refine z_aload_n X 2 dL_law_348 rfl ?_
  refine z_aload_n X 3 dL_law_349 rfl ?_
  refine z_iload_n X 0 dL_law_350 rfl ?_
  refine z_iconst (v := 1) X dL_law_351 (by decide) ?_
  refine z_iadd X dL_law_352 ?_
  refine z_toe (y := nI (i + 1)) (nI_add (i) (1)) ?_
  refine z_sld (v := xs (i + 1)) X hs dL_law_353 (vp_in_nI (n := i + 1) (by omega) (by omega)) (congrArg xs (nI_clamp (by omega))) ?_
  refine z_aload_n X 3 dL_law_354 rfl ?_
  refine z_iload_n X 0 dL_law_355 rfl ?_
  refine z_iconst (v := 2) X dL_law_356 (by decide) ?_
  refine z_iadd X dL_law_357 ?_
  refine z_toe (y := nI (i + 2)) (nI_add (i) (2)) ?_
  refine z_sld (v := xs (i + 2)) X hs dL_law_358 (vp_in_nI (n := i + 2) (by omega) (by omega)) (congrArg xs (nI_clamp (by omega))) ?_
  refine z_callV X (k_cause (l := gL G) (n := n) (k := xs (i + 1)) (m := xs (i + 2)) HC hzn) mk_X11_cause dL_law_359 wd_314 wd_315 wd_316 rfl HC.1 rfl rfl rfl (Nat.le_of_ble_eq_true rfl) (by omega) (Nat.le_of_ble_eq_true rfl) (by omega) (by omega) (fun q h1 n1 hp => ?_)
  obtain ⟨rfl, hn1, HC1, hf1⟩ := hp
  refine z_st (st' := [.int _]) rfl ?_
  have HR1 := HR.same (h1 := h1) (fun zq z1 z2 => hf1 zq (by omega) (by omega))
  obtain ⟨zfs, hr0⟩ := RI.obj HR1
  refine z_aload_n X 1 dL_law_362 rfl ?_
  refine z_aload_n X 3 dL_law_363 rfl ?_
  refine z_iload_n X 0 dL_law_364 rfl ?_
  refine z_iconst (v := 1) X dL_law_365 (by decide) ?_
  refine z_iadd X dL_law_366 ?_
  refine z_toe (y := nI (i + 1)) (nI_add (i) (1)) ?_
  refine z_sld (v := xs (i + 1)) X hs dL_law_367 (vp_in_nI (n := i + 1) (by omega) (by omega)) (congrArg xs (nI_clamp (by omega))) ?_
  refine z_aload_n X 3 dL_law_368 rfl ?_
  refine z_iload_n X 0 dL_law_369 rfl ?_
  refine z_iconst (v := 2) X dL_law_370 (by decide) ?_
  refine z_iadd X dL_law_371 ?_
  refine z_toe (y := nI (i + 2)) (nI_add (i) (2)) ?_
  refine z_sld (v := xs (i + 2)) X hs dL_law_372 (vp_in_nI (n := i + 2) (by omega) (by omega)) (congrArg xs (nI_clamp (by omega))) ?_
  refine z_callV X (q_cause (l := gL G) (n := n1) (k := xs (i + 1)) (m := xs (i + 2)) HR1 HC.wd) mk_X12_cause dL_law_373 wd_1052 wd_1053 wd_1054 rfl hr0 rfl rfl rfl (Nat.le_of_ble_eq_true rfl) (by omega) (Nat.le_of_ble_eq_true rfl) (by omega) (by omega) (fun q h2 n2 hp => ?_)
  obtain ⟨rfl, hn2, HR2, hf2⟩ := hp
  refine z_st (st' := [.int _, .int _]) rfl ?_
  have HC2 := HC1.same (h1 := h2) (fun zq hq => hf2 zq (by omega))
  exact z_icmp_eq X 1502 dL_law_376 (by decide) (fun _ => hb _ _ _ _ _ _ _ _ _ _ _ _ _ HC2 HR2 (by omega) (by omega) (by omega)) (fun hne => absurd rfl hne)
theorem law_ofCause {κ : Wc} {G : Gm} {b L : Nat} {xs : Nat → Int32} {o i n ca sl : Nat} {h : Mm} {d : Nat → Int32} {kp : Nat → Int32} {im : Int32} {fo : Nat → Int32} {tr : Nat → Int32} {tn : Nat} {bi : Nat → Int32} {ss : Nat → Nat} {nu : Nat → Int32} (X : Ok κ G cL_law 4 yL_law.cls 60 600000 7302250) (hs : Scr κ G b L xs) (hi : i + 6 ≤ L) (hL : L ≤ 3072) (HC : CI κ o h d kp im fo tr tn bi ss nu) (HR : RI κ (o + 62) h d kp im fo tr tn bi ss nu) (hzn : o + 76 ≤ n) (hca : ca + 3 ≤ 600000) (hsl : sl + 105 ≤ 7302250) (hb : ∀ (h' : Mm) (n' ca' sl' : Nat) (d : Nat → Int32) (kp : Nat → Int32) (im : Int32) (fo : Nat → Int32) (tr : Nat → Int32) (tn : Nat) (bi : Nat → Int32) (ss : Nat → Nat) (nu : Nat → Int32), CI κ o h' d kp im fo tr tn bi ss nu → RI κ (o + 62) h' d kp im fo tr tn bi ss nu → o + 76 ≤ n' → ca' ≤ ca + 3 → sl' ≤ sl + 105 → Z κ G 4 1502 [(3, .int (nI i)), (2, .ref (o + 62)), (1, .ref o), (0, .ref b)] [] h' n' ca' sl') : Z κ G 4 381 [(3, .int (nI i)), (2, .ref (o + 62)), (1, .ref o), (0, .ref b)] [] h n ca sl := by
  refine z_aload_n X 2 dL_law_381 rfl ?_
  refine z_aload_n X 3 dL_law_382 rfl ?_
  refine z_iload_n X 0 dL_law_383 rfl ?_
  refine z_iconst (v := 1) X dL_law_384 (by decide) ?_
  refine z_iadd X dL_law_385 ?_
  refine z_toe (y := nI (i + 1)) (nI_add (i) (1)) ?_
  refine z_sld (v := xs (i + 1)) X hs dL_law_386 (vp_in_nI (n := i + 1) (by omega) (by omega)) (congrArg xs (nI_clamp (by omega))) ?_
  refine z_aload_n X 3 dL_law_387 rfl ?_
  refine z_iload_n X 0 dL_law_388 rfl ?_
  refine z_iconst (v := 2) X dL_law_389 (by decide) ?_
  refine z_iadd X dL_law_390 ?_
  refine z_toe (y := nI (i + 2)) (nI_add (i) (2)) ?_
  refine z_sld (v := xs (i + 2)) X hs dL_law_391 (vp_in_nI (n := i + 2) (by omega) (by omega)) (congrArg xs (nI_clamp (by omega))) ?_
  refine z_callV X (k_ofCause (l := gL G) (n := n) (c := xs (i + 1)) (w := xs (i + 2)) HC) mk_X11_ofCause dL_law_392 wd_409 wd_410 wd_411 rfl HC.1 rfl rfl rfl (Nat.le_of_ble_eq_true rfl) (by omega) (Nat.le_of_ble_eq_true rfl) (by omega) (by omega) (fun q h1 n1 hp => ?_)
  obtain ⟨rfl, hn1, HC1, hf1⟩ := hp
  refine z_st (st' := [.int _]) rfl ?_
  have HR1 := HR.same (h1 := h1) (fun zq z1 z2 => hf1 zq (by omega) (by omega))
  obtain ⟨zfs, hr0⟩ := RI.obj HR1
  refine z_aload_n X 1 dL_law_395 rfl ?_
  refine z_aload_n X 3 dL_law_396 rfl ?_
  refine z_iload_n X 0 dL_law_397 rfl ?_
  refine z_iconst (v := 1) X dL_law_398 (by decide) ?_
  refine z_iadd X dL_law_399 ?_
  refine z_toe (y := nI (i + 1)) (nI_add (i) (1)) ?_
  refine z_sld (v := xs (i + 1)) X hs dL_law_400 (vp_in_nI (n := i + 1) (by omega) (by omega)) (congrArg xs (nI_clamp (by omega))) ?_
  refine z_aload_n X 3 dL_law_401 rfl ?_
  refine z_iload_n X 0 dL_law_402 rfl ?_
  refine z_iconst (v := 2) X dL_law_403 (by decide) ?_
  refine z_iadd X dL_law_404 ?_
  refine z_toe (y := nI (i + 2)) (nI_add (i) (2)) ?_
  refine z_sld (v := xs (i + 2)) X hs dL_law_405 (vp_in_nI (n := i + 2) (by omega) (by omega)) (congrArg xs (nI_clamp (by omega))) ?_
  refine z_callV X (q_ofCause (l := gL G) (n := n1) (c := xs (i + 1)) (w := xs (i + 2)) HR1 HC.wd) mk_X12_ofCause dL_law_406 wd_1057 wd_1058 wd_1059 rfl hr0 rfl rfl rfl (Nat.le_of_ble_eq_true rfl) (by omega) (Nat.le_of_ble_eq_true rfl) (by omega) (by omega) (fun q h2 n2 hp => ?_)
  obtain ⟨rfl, hn2, HR2, hf2⟩ := hp
  refine z_st (st' := [.int _, .int _]) rfl ?_
  have HC2 := HC1.same (h1 := h2) (fun zq hq => hf2 zq (by omega))
  exact z_icmp_eq X 1502 dL_law_409 (by decide) (fun _ => hb _ _ _ _ _ _ _ _ _ _ _ _ _ HC2 HR2 (by omega) (by omega) (by omega)) (fun hne => absurd rfl hne)
theorem law_as {κ : Wc} {G : Gm} {b L : Nat} {xs : Nat → Int32} {o i n ca sl : Nat} {h : Mm} {d : Nat → Int32} {kp : Nat → Int32} {im : Int32} {fo : Nat → Int32} {tr : Nat → Int32} {tn : Nat} {bi : Nat → Int32} {ss : Nat → Nat} {nu : Nat → Int32} (X : Ok κ G cL_law 4 yL_law.cls 60 600000 7302250) (hs : Scr κ G b L xs) (hi : i + 6 ≤ L) (hL : L ≤ 3072) (HC : CI κ o h d kp im fo tr tn bi ss nu) (HR : RI κ (o + 62) h d kp im fo tr tn bi ss nu) (hzn : o + 76 ≤ n) (hca : ca + 3 ≤ 600000) (hsl : sl + 105 ≤ 7302250) (hb : ∀ (h' : Mm) (n' ca' sl' : Nat) (d : Nat → Int32) (kp : Nat → Int32) (im : Int32) (fo : Nat → Int32) (tr : Nat → Int32) (tn : Nat) (bi : Nat → Int32) (ss : Nat → Nat) (nu : Nat → Int32), CI κ o h' d kp im fo tr tn bi ss nu → RI κ (o + 62) h' d kp im fo tr tn bi ss nu → o + 76 ≤ n' → ca' ≤ ca + 3 → sl' ≤ sl + 105 → Z κ G 4 1502 [(3, .int (nI i)), (2, .ref (o + 62)), (1, .ref o), (0, .ref b)] [] h' n' ca' sl') : Z κ G 4 414 [(3, .int (nI i)), (2, .ref (o + 62)), (1, .ref o), (0, .ref b)] [] h n ca sl := by
  refine z_aload_n X 2 dL_law_414 rfl ?_
  refine z_aload_n X 3 dL_law_415 rfl ?_
  refine z_iload_n X 0 dL_law_416 rfl ?_
  refine z_iconst (v := 1) X dL_law_417 (by decide) ?_
  refine z_iadd X dL_law_418 ?_
  refine z_toe (y := nI (i + 1)) (nI_add (i) (1)) ?_
  refine z_sld (v := xs (i + 1)) X hs dL_law_419 (vp_in_nI (n := i + 1) (by omega) (by omega)) (congrArg xs (nI_clamp (by omega))) ?_
  refine z_aload_n X 3 dL_law_420 rfl ?_
  refine z_iload_n X 0 dL_law_421 rfl ?_
  refine z_iconst (v := 2) X dL_law_422 (by decide) ?_
  refine z_iadd X dL_law_423 ?_
  refine z_toe (y := nI (i + 2)) (nI_add (i) (2)) ?_
  refine z_sld (v := xs (i + 2)) X hs dL_law_424 (vp_in_nI (n := i + 2) (by omega) (by omega)) (congrArg xs (nI_clamp (by omega))) ?_
  refine z_callV X (k_as (l := gL G) (n := n) (c := xs (i + 1)) (w := xs (i + 2)) HC) mk_X11_as dL_law_425 wd_421 wd_422 wd_423 rfl HC.1 rfl rfl rfl (Nat.le_of_ble_eq_true rfl) (by omega) (Nat.le_of_ble_eq_true rfl) (by omega) (by omega) (fun q h1 n1 hp => ?_)
  obtain ⟨rfl, hn1, HC1, hf1⟩ := hp
  refine z_st (st' := [.int _]) rfl ?_
  have HR1 := HR.same (h1 := h1) (fun zq z1 z2 => hf1 zq (by omega) (by omega))
  obtain ⟨zfs, hr0⟩ := RI.obj HR1
  refine z_aload_n X 1 dL_law_428 rfl ?_
  refine z_aload_n X 3 dL_law_429 rfl ?_
  refine z_iload_n X 0 dL_law_430 rfl ?_
  refine z_iconst (v := 1) X dL_law_431 (by decide) ?_
  refine z_iadd X dL_law_432 ?_
  refine z_toe (y := nI (i + 1)) (nI_add (i) (1)) ?_
  refine z_sld (v := xs (i + 1)) X hs dL_law_433 (vp_in_nI (n := i + 1) (by omega) (by omega)) (congrArg xs (nI_clamp (by omega))) ?_
  refine z_aload_n X 3 dL_law_434 rfl ?_
  refine z_iload_n X 0 dL_law_435 rfl ?_
  refine z_iconst (v := 2) X dL_law_436 (by decide) ?_
  refine z_iadd X dL_law_437 ?_
  refine z_toe (y := nI (i + 2)) (nI_add (i) (2)) ?_
  refine z_sld (v := xs (i + 2)) X hs dL_law_438 (vp_in_nI (n := i + 2) (by omega) (by omega)) (congrArg xs (nI_clamp (by omega))) ?_
  refine z_callV X (q_as (l := gL G) (n := n1) (c := xs (i + 1)) (w := xs (i + 2)) HR1 HC.wd) mk_X12_as dL_law_439 wd_1065 wd_1066 wd_1067 rfl hr0 rfl rfl rfl (Nat.le_of_ble_eq_true rfl) (by omega) (Nat.le_of_ble_eq_true rfl) (by omega) (by omega) (fun q h2 n2 hp => ?_)
  obtain ⟨rfl, hn2, HR2, hf2⟩ := hp
  refine z_st (st' := [.int _, .int _]) rfl ?_
  have HC2 := HC1.same (h1 := h2) (fun zq hq => hf2 zq (by omega))
  exact z_icmp_eq X 1502 dL_law_442 (by decide) (fun _ => hb _ _ _ _ _ _ _ _ _ _ _ _ _ HC2 HR2 (by omega) (by omega) (by omega)) (fun hne => absurd rfl hne)
theorem law_turn {κ : Wc} {G : Gm} {b L : Nat} {xs : Nat → Int32} {o i n ca sl : Nat} {h : Mm} {d : Nat → Int32} {kp : Nat → Int32} {im : Int32} {fo : Nat → Int32} {tr : Nat → Int32} {tn : Nat} {bi : Nat → Int32} {ss : Nat → Nat} {nu : Nat → Int32} (X : Ok κ G cL_law 4 yL_law.cls 60 600000 7302250) (hs : Scr κ G b L xs) (hi : i + 6 ≤ L) (hL : L ≤ 3072) (HC : CI κ o h d kp im fo tr tn bi ss nu) (HR : RI κ (o + 62) h d kp im fo tr tn bi ss nu) (hzn : o + 76 ≤ n) (hca : ca + 3 ≤ 600000) (hsl : sl + 105 ≤ 7302250) (hb : ∀ (h' : Mm) (n' ca' sl' : Nat) (d : Nat → Int32) (kp : Nat → Int32) (im : Int32) (fo : Nat → Int32) (tr : Nat → Int32) (tn : Nat) (bi : Nat → Int32) (ss : Nat → Nat) (nu : Nat → Int32), CI κ o h' d kp im fo tr tn bi ss nu → RI κ (o + 62) h' d kp im fo tr tn bi ss nu → o + 76 ≤ n' → ca' ≤ ca + 3 → sl' ≤ sl + 105 → Z κ G 4 1502 [(3, .int (nI i)), (2, .ref (o + 62)), (1, .ref o), (0, .ref b)] [] h' n' ca' sl') : Z κ G 4 447 [(3, .int (nI i)), (2, .ref (o + 62)), (1, .ref o), (0, .ref b)] [] h n ca sl := by
  refine z_aload_n X 2 dL_law_447 rfl ?_
  refine z_aload_n X 3 dL_law_448 rfl ?_
  refine z_iload_n X 0 dL_law_449 rfl ?_
  refine z_iconst (v := 1) X dL_law_450 (by decide) ?_
  refine z_iadd X dL_law_451 ?_
  refine z_toe (y := nI (i + 1)) (nI_add (i) (1)) ?_
  refine z_sld (v := xs (i + 1)) X hs dL_law_452 (vp_in_nI (n := i + 1) (by omega) (by omega)) (congrArg xs (nI_clamp (by omega))) ?_
  refine z_aload_n X 3 dL_law_453 rfl ?_
  refine z_iload_n X 0 dL_law_454 rfl ?_
  refine z_iconst (v := 2) X dL_law_455 (by decide) ?_
  refine z_iadd X dL_law_456 ?_
  refine z_toe (y := nI (i + 2)) (nI_add (i) (2)) ?_
  refine z_sld (v := xs (i + 2)) X hs dL_law_457 (vp_in_nI (n := i + 2) (by omega) (by omega)) (congrArg xs (nI_clamp (by omega))) ?_
  refine z_callV X (k_turn (l := gL G) (n := n) (c := xs (i + 1)) (w := xs (i + 2)) HC) mk_X11_turn dL_law_458 wd_428 wd_429 wd_430 rfl HC.1 rfl rfl rfl (Nat.le_of_ble_eq_true rfl) (by omega) (Nat.le_of_ble_eq_true rfl) (by omega) (by omega) (fun q h1 n1 hp => ?_)
  obtain ⟨rfl, hn1, HC1, hf1⟩ := hp
  refine z_st (st' := [.int _]) rfl ?_
  have HR1 := HR.same (h1 := h1) (fun zq z1 z2 => hf1 zq (by omega) (by omega))
  obtain ⟨zfs, hr0⟩ := RI.obj HR1
  refine z_aload_n X 1 dL_law_461 rfl ?_
  refine z_aload_n X 3 dL_law_462 rfl ?_
  refine z_iload_n X 0 dL_law_463 rfl ?_
  refine z_iconst (v := 1) X dL_law_464 (by decide) ?_
  refine z_iadd X dL_law_465 ?_
  refine z_toe (y := nI (i + 1)) (nI_add (i) (1)) ?_
  refine z_sld (v := xs (i + 1)) X hs dL_law_466 (vp_in_nI (n := i + 1) (by omega) (by omega)) (congrArg xs (nI_clamp (by omega))) ?_
  refine z_aload_n X 3 dL_law_467 rfl ?_
  refine z_iload_n X 0 dL_law_468 rfl ?_
  refine z_iconst (v := 2) X dL_law_469 (by decide) ?_
  refine z_iadd X dL_law_470 ?_
  refine z_toe (y := nI (i + 2)) (nI_add (i) (2)) ?_
  refine z_sld (v := xs (i + 2)) X hs dL_law_471 (vp_in_nI (n := i + 2) (by omega) (by omega)) (congrArg xs (nI_clamp (by omega))) ?_
  refine z_callV X (q_turn (l := gL G) (n := n1) (c := xs (i + 1)) (w := xs (i + 2)) HR1 HC.wd) mk_X12_turn dL_law_472 wd_1072 wd_1073 wd_1074 rfl hr0 rfl rfl rfl (Nat.le_of_ble_eq_true rfl) (by omega) (Nat.le_of_ble_eq_true rfl) (by omega) (by omega) (fun q h2 n2 hp => ?_)
  obtain ⟨rfl, hn2, HR2, hf2⟩ := hp
  refine z_st (st' := [.int _, .int _]) rfl ?_
  have HC2 := HC1.same (h1 := h2) (fun zq hq => hf2 zq (by omega))
  exact z_icmp_eq X 1502 dL_law_475 (by decide) (fun _ => hb _ _ _ _ _ _ _ _ _ _ _ _ _ HC2 HR2 (by omega) (by omega) (by omega)) (fun hne => absurd rfl hne)
theorem law_freezes {κ : Wc} {G : Gm} {b L : Nat} {xs : Nat → Int32} {o i n ca sl : Nat} {h : Mm} {d : Nat → Int32} {kp : Nat → Int32} {im : Int32} {fo : Nat → Int32} {tr : Nat → Int32} {tn : Nat} {bi : Nat → Int32} {ss : Nat → Nat} {nu : Nat → Int32} (X : Ok κ G cL_law 4 yL_law.cls 60 600000 7302250) (hs : Scr κ G b L xs) (hi : i + 6 ≤ L) (hL : L ≤ 3072) (HC : CI κ o h d kp im fo tr tn bi ss nu) (HR : RI κ (o + 62) h d kp im fo tr tn bi ss nu) (hzn : o + 76 ≤ n) (hca : ca + 3 ≤ 600000) (hsl : sl + 105 ≤ 7302250) (hb : ∀ (h' : Mm) (n' ca' sl' : Nat) (d : Nat → Int32) (kp : Nat → Int32) (im : Int32) (fo : Nat → Int32) (tr : Nat → Int32) (tn : Nat) (bi : Nat → Int32) (ss : Nat → Nat) (nu : Nat → Int32), CI κ o h' d kp im fo tr tn bi ss nu → RI κ (o + 62) h' d kp im fo tr tn bi ss nu → o + 76 ≤ n' → ca' ≤ ca + 3 → sl' ≤ sl + 105 → Z κ G 4 1502 [(3, .int (nI i)), (2, .ref (o + 62)), (1, .ref o), (0, .ref b)] [] h' n' ca' sl') : Z κ G 4 480 [(3, .int (nI i)), (2, .ref (o + 62)), (1, .ref o), (0, .ref b)] [] h n ca sl := by
  refine z_aload_n X 2 dL_law_480 rfl ?_
  refine z_aload_n X 3 dL_law_481 rfl ?_
  refine z_iload_n X 0 dL_law_482 rfl ?_
  refine z_iconst (v := 1) X dL_law_483 (by decide) ?_
  refine z_iadd X dL_law_484 ?_
  refine z_toe (y := nI (i + 1)) (nI_add (i) (1)) ?_
  refine z_sld (v := xs (i + 1)) X hs dL_law_485 (vp_in_nI (n := i + 1) (by omega) (by omega)) (congrArg xs (nI_clamp (by omega))) ?_
  refine z_aload_n X 3 dL_law_486 rfl ?_
  refine z_iload_n X 0 dL_law_487 rfl ?_
  refine z_iconst (v := 2) X dL_law_488 (by decide) ?_
  refine z_iadd X dL_law_489 ?_
  refine z_toe (y := nI (i + 2)) (nI_add (i) (2)) ?_
  refine z_sld (v := xs (i + 2)) X hs dL_law_490 (vp_in_nI (n := i + 2) (by omega) (by omega)) (congrArg xs (nI_clamp (by omega))) ?_
  refine z_aload_n X 3 dL_law_491 rfl ?_
  refine z_iload_n X 0 dL_law_492 rfl ?_
  refine z_iconst (v := 3) X dL_law_493 (by decide) ?_
  refine z_iadd X dL_law_494 ?_
  refine z_toe (y := nI (i + 3)) (nI_add (i) (3)) ?_
  refine z_sld (v := xs (i + 3)) X hs dL_law_495 (vp_in_nI (n := i + 3) (by omega) (by omega)) (congrArg xs (nI_clamp (by omega))) ?_
  refine z_aload_n X 3 dL_law_496 rfl ?_
  refine z_iload_n X 0 dL_law_497 rfl ?_
  refine z_iconst (v := 4) X dL_law_498 (by decide) ?_
  refine z_iadd X dL_law_499 ?_
  refine z_toe (y := nI (i + 4)) (nI_add (i) (4)) ?_
  refine z_sld (v := xs (i + 4)) X hs dL_law_500 (vp_in_nI (n := i + 4) (by omega) (by omega)) (congrArg xs (nI_clamp (by omega))) ?_
  refine z_callV X (k_freezes (l := gL G) (n := n) (c := xs (i + 1)) (b := xs (i + 2)) (w := xs (i + 3)) (s := xs (i + 4)) HC) mk_X11_freezes dL_law_501 wd_432 wd_433 wd_434 rfl HC.1 rfl rfl rfl (Nat.le_of_ble_eq_true rfl) (by omega) (Nat.le_of_ble_eq_true rfl) (by omega) (by omega) (fun q h1 n1 hp => ?_)
  obtain ⟨rfl, hn1, HC1, hf1⟩ := hp
  refine z_st (st' := [.int _]) rfl ?_
  have HR1 := HR.same (h1 := h1) (fun zq z1 z2 => hf1 zq (by omega) (by omega))
  obtain ⟨zfs, hr0⟩ := RI.obj HR1
  refine z_aload_n X 1 dL_law_504 rfl ?_
  refine z_aload_n X 3 dL_law_505 rfl ?_
  refine z_iload_n X 0 dL_law_506 rfl ?_
  refine z_iconst (v := 1) X dL_law_507 (by decide) ?_
  refine z_iadd X dL_law_508 ?_
  refine z_toe (y := nI (i + 1)) (nI_add (i) (1)) ?_
  refine z_sld (v := xs (i + 1)) X hs dL_law_509 (vp_in_nI (n := i + 1) (by omega) (by omega)) (congrArg xs (nI_clamp (by omega))) ?_
  refine z_aload_n X 3 dL_law_510 rfl ?_
  refine z_iload_n X 0 dL_law_511 rfl ?_
  refine z_iconst (v := 2) X dL_law_512 (by decide) ?_
  refine z_iadd X dL_law_513 ?_
  refine z_toe (y := nI (i + 2)) (nI_add (i) (2)) ?_
  refine z_sld (v := xs (i + 2)) X hs dL_law_514 (vp_in_nI (n := i + 2) (by omega) (by omega)) (congrArg xs (nI_clamp (by omega))) ?_
  refine z_aload_n X 3 dL_law_515 rfl ?_
  refine z_iload_n X 0 dL_law_516 rfl ?_
  refine z_iconst (v := 3) X dL_law_517 (by decide) ?_
  refine z_iadd X dL_law_518 ?_
  refine z_toe (y := nI (i + 3)) (nI_add (i) (3)) ?_
  refine z_sld (v := xs (i + 3)) X hs dL_law_519 (vp_in_nI (n := i + 3) (by omega) (by omega)) (congrArg xs (nI_clamp (by omega))) ?_
  refine z_aload_n X 3 dL_law_520 rfl ?_
  refine z_iload_n X 0 dL_law_521 rfl ?_
  refine z_iconst (v := 4) X dL_law_522 (by decide) ?_
  refine z_iadd X dL_law_523 ?_
  refine z_toe (y := nI (i + 4)) (nI_add (i) (4)) ?_
  refine z_sld (v := xs (i + 4)) X hs dL_law_524 (vp_in_nI (n := i + 4) (by omega) (by omega)) (congrArg xs (nI_clamp (by omega))) ?_
  refine z_callV X (q_freezes (l := gL G) (n := n1) (c := xs (i + 1)) (b := xs (i + 2)) (w := xs (i + 3)) (s := xs (i + 4)) HR1 HC.wd) mk_X12_freezes dL_law_525 wd_1076 wd_1077 wd_1078 rfl hr0 rfl rfl rfl (Nat.le_of_ble_eq_true rfl) (by omega) (Nat.le_of_ble_eq_true rfl) (by omega) (by omega) (fun q h2 n2 hp => ?_)
  obtain ⟨rfl, hn2, HR2, hf2⟩ := hp
  refine z_st (st' := [.int _, .int _]) rfl ?_
  have HC2 := HC1.same (h1 := h2) (fun zq hq => hf2 zq (by omega))
  exact z_icmp_eq X 1502 dL_law_528 (by decide) (fun _ => hb _ _ _ _ _ _ _ _ _ _ _ _ _ HC2 HR2 (by omega) (by omega) (by omega)) (fun hne => absurd rfl hne)
theorem law_feed {κ : Wc} {G : Gm} {b L : Nat} {xs : Nat → Int32} {o i n ca sl : Nat} {h : Mm} {d : Nat → Int32} {kp : Nat → Int32} {im : Int32} {fo : Nat → Int32} {tr : Nat → Int32} {tn : Nat} {bi : Nat → Int32} {ss : Nat → Nat} {nu : Nat → Int32} (X : Ok κ G cL_law 4 yL_law.cls 60 600000 7302250) (hs : Scr κ G b L xs) (hi : i + 6 ≤ L) (hL : L ≤ 3072) (HC : CI κ o h d kp im fo tr tn bi ss nu) (HR : RI κ (o + 62) h d kp im fo tr tn bi ss nu) (hzn : o + 76 ≤ n) (hca : ca + 3 ≤ 600000) (hsl : sl + 105 ≤ 7302250) (hb : ∀ (h' : Mm) (n' ca' sl' : Nat) (d : Nat → Int32) (kp : Nat → Int32) (im : Int32) (fo : Nat → Int32) (tr : Nat → Int32) (tn : Nat) (bi : Nat → Int32) (ss : Nat → Nat) (nu : Nat → Int32), CI κ o h' d kp im fo tr tn bi ss nu → RI κ (o + 62) h' d kp im fo tr tn bi ss nu → o + 76 ≤ n' → ca' ≤ ca + 3 → sl' ≤ sl + 105 → Z κ G 4 1502 [(3, .int (nI i)), (2, .ref (o + 62)), (1, .ref o), (0, .ref b)] [] h' n' ca' sl') : Z κ G 4 533 [(3, .int (nI i)), (2, .ref (o + 62)), (1, .ref o), (0, .ref b)] [] h n ca sl := by
  refine z_aload_n X 2 dL_law_533 rfl ?_
  refine z_aload_n X 3 dL_law_534 rfl ?_
  refine z_iload_n X 0 dL_law_535 rfl ?_
  refine z_iconst (v := 1) X dL_law_536 (by decide) ?_
  refine z_iadd X dL_law_537 ?_
  refine z_toe (y := nI (i + 1)) (nI_add (i) (1)) ?_
  refine z_sld (v := xs (i + 1)) X hs dL_law_538 (vp_in_nI (n := i + 1) (by omega) (by omega)) (congrArg xs (nI_clamp (by omega))) ?_
  refine z_i2l X dL_law_539 rfl ?_
  refine z_bipush (v := 32) X dL_law_540 (by decide) ?_
  refine z_lshl X dL_law_542 rfl ?_
  refine z_aload_n X 3 dL_law_543 rfl ?_
  refine z_iload_n X 0 dL_law_544 rfl ?_
  refine z_iconst (v := 2) X dL_law_545 (by decide) ?_
  refine z_iadd X dL_law_546 ?_
  refine z_toe (y := nI (i + 2)) (nI_add (i) (2)) ?_
  refine z_sld (v := xs (i + 2)) X hs dL_law_547 (vp_in_nI (n := i + 2) (by omega) (by omega)) (congrArg xs (nI_clamp (by omega))) ?_
  refine z_i2l X dL_law_548 rfl ?_
  refine z_ldc2 X dL_law_549 wd_1371 ?_
  refine z_land X dL_law_552 ?_
  refine z_lor X dL_law_553 ?_
  refine z_aload_n X 3 dL_law_554 rfl ?_
  refine z_iload_n X 0 dL_law_555 rfl ?_
  refine z_iconst (v := 3) X dL_law_556 (by decide) ?_
  refine z_iadd X dL_law_557 ?_
  refine z_toe (y := nI (i + 3)) (nI_add (i) (3)) ?_
  refine z_sld (v := xs (i + 3)) X hs dL_law_558 (vp_in_nI (n := i + 3) (by omega) (by omega)) (congrArg xs (nI_clamp (by omega))) ?_
  refine z_callV X (k_feed (l := gL G) (n := n) (w := (((xs (i + 1)).toInt64) <<< ((32 : Int32).toInt64 &&& 63)) ||| (((xs (i + 2)).toInt64) &&& ((4294967295 : Int64)))) (v := xs (i + 3)) HC) mk_X11_feed dL_law_559 wd_496 wd_497 wd_498 rfl HC.1 rfl rfl rfl (Nat.le_of_ble_eq_true rfl) (by omega) (Nat.le_of_ble_eq_true rfl) (by omega) (by omega) (fun q h1 n1 hp => ?_)
  obtain ⟨rfl, hn1, HC1, hf1⟩ := hp
  refine z_st (st' := [.int _]) rfl ?_
  have HR1 := HR.same (h1 := h1) (fun zq z1 z2 => hf1 zq (by omega) (by omega))
  obtain ⟨zfs, hr0⟩ := RI.obj HR1
  refine z_aload_n X 1 dL_law_562 rfl ?_
  refine z_aload_n X 3 dL_law_563 rfl ?_
  refine z_iload_n X 0 dL_law_564 rfl ?_
  refine z_iconst (v := 1) X dL_law_565 (by decide) ?_
  refine z_iadd X dL_law_566 ?_
  refine z_toe (y := nI (i + 1)) (nI_add (i) (1)) ?_
  refine z_sld (v := xs (i + 1)) X hs dL_law_567 (vp_in_nI (n := i + 1) (by omega) (by omega)) (congrArg xs (nI_clamp (by omega))) ?_
  refine z_i2l X dL_law_568 rfl ?_
  refine z_bipush (v := 32) X dL_law_569 (by decide) ?_
  refine z_lshl X dL_law_571 rfl ?_
  refine z_aload_n X 3 dL_law_572 rfl ?_
  refine z_iload_n X 0 dL_law_573 rfl ?_
  refine z_iconst (v := 2) X dL_law_574 (by decide) ?_
  refine z_iadd X dL_law_575 ?_
  refine z_toe (y := nI (i + 2)) (nI_add (i) (2)) ?_
  refine z_sld (v := xs (i + 2)) X hs dL_law_576 (vp_in_nI (n := i + 2) (by omega) (by omega)) (congrArg xs (nI_clamp (by omega))) ?_
  refine z_i2l X dL_law_577 rfl ?_
  refine z_ldc2 X dL_law_578 wd_1371 ?_
  refine z_land X dL_law_581 ?_
  refine z_lor X dL_law_582 ?_
  refine z_aload_n X 3 dL_law_583 rfl ?_
  refine z_iload_n X 0 dL_law_584 rfl ?_
  refine z_iconst (v := 3) X dL_law_585 (by decide) ?_
  refine z_iadd X dL_law_586 ?_
  refine z_toe (y := nI (i + 3)) (nI_add (i) (3)) ?_
  refine z_sld (v := xs (i + 3)) X hs dL_law_587 (vp_in_nI (n := i + 3) (by omega) (by omega)) (congrArg xs (nI_clamp (by omega))) ?_
  refine z_callV X (q_feed (l := gL G) (n := n1) (w := (((xs (i + 1)).toInt64) <<< ((32 : Int32).toInt64 &&& 63)) ||| (((xs (i + 2)).toInt64) &&& ((4294967295 : Int64)))) (v := xs (i + 3)) HR1 HC.wd) mk_X12_feed dL_law_588 wd_1140 wd_1141 wd_1142 rfl hr0 rfl rfl rfl (Nat.le_of_ble_eq_true rfl) (by omega) (Nat.le_of_ble_eq_true rfl) (by omega) (by omega) (fun q h2 n2 hp => ?_)
  obtain ⟨rfl, hn2, HR2, hf2⟩ := hp
  refine z_st (st' := [.int _, .int _]) rfl ?_
  have HC2 := HC1.same (h1 := h2) (fun zq hq => hf2 zq (by omega))
  exact z_icmp_eq X 1502 dL_law_591 (by decide) (fun _ => hb _ _ _ _ _ _ _ _ _ _ _ _ _ HC2 HR2 (by omega) (by omega) (by omega)) (fun hne => absurd rfl hne)
theorem law_text {κ : Wc} {G : Gm} {b L : Nat} {xs : Nat → Int32} {o i n ca sl : Nat} {h : Mm} {d : Nat → Int32} {kp : Nat → Int32} {im : Int32} {fo : Nat → Int32} {tr : Nat → Int32} {tn : Nat} {bi : Nat → Int32} {ss : Nat → Nat} {nu : Nat → Int32} (X : Ok κ G cL_law 4 yL_law.cls 60 600000 7302250) (hs : Scr κ G b L xs) (hi : i + 6 ≤ L) (hL : L ≤ 3072) (HC : CI κ o h d kp im fo tr tn bi ss nu) (HR : RI κ (o + 62) h d kp im fo tr tn bi ss nu) (hzn : o + 76 ≤ n) (hca : ca + 3 ≤ 600000) (hsl : sl + 105 ≤ 7302250) (hb : ∀ (h' : Mm) (n' ca' sl' : Nat) (d : Nat → Int32) (kp : Nat → Int32) (im : Int32) (fo : Nat → Int32) (tr : Nat → Int32) (tn : Nat) (bi : Nat → Int32) (ss : Nat → Nat) (nu : Nat → Int32), CI κ o h' d kp im fo tr tn bi ss nu → RI κ (o + 62) h' d kp im fo tr tn bi ss nu → o + 76 ≤ n' → ca' ≤ ca + 3 → sl' ≤ sl + 105 → Z κ G 4 1502 [(3, .int (nI i)), (2, .ref (o + 62)), (1, .ref o), (0, .ref b)] [] h' n' ca' sl') : Z κ G 4 596 [(3, .int (nI i)), (2, .ref (o + 62)), (1, .ref o), (0, .ref b)] [] h n ca sl := by
  refine z_aload_n X 2 dL_law_596 rfl ?_
  refine z_aload_n X 3 dL_law_597 rfl ?_
  refine z_iload_n X 0 dL_law_598 rfl ?_
  refine z_iconst (v := 1) X dL_law_599 (by decide) ?_
  refine z_iadd X dL_law_600 ?_
  refine z_toe (y := nI (i + 1)) (nI_add (i) (1)) ?_
  refine z_sld (v := xs (i + 1)) X hs dL_law_601 (vp_in_nI (n := i + 1) (by omega) (by omega)) (congrArg xs (nI_clamp (by omega))) ?_
  obtain ⟨znm, hnm⟩ := RI.nam HR
  refine z_callV X (k_text (l := gL G) (n := n) (u := xs (i + 1)) (nm := znm) HC hzn) mk_X11_text dL_law_602 wd_504 wd_505 wd_506 rfl HC.1 rfl rfl rfl (Nat.le_of_ble_eq_true rfl) (by omega) (Nat.le_of_ble_eq_true rfl) (by omega) (by omega) (fun q h1 n1 hp => ?_)
  obtain ⟨rfl, hn1, HC1, hf1⟩ := hp
  refine z_st (st' := [.int _]) rfl ?_
  have HR1 := HR.same (h1 := h1) (fun zq z1 z2 => hf1 zq (by omega) (by omega))
  obtain ⟨zfs, hr0⟩ := RI.obj HR1
  refine z_aload_n X 1 dL_law_605 rfl ?_
  refine z_aload_n X 3 dL_law_606 rfl ?_
  refine z_iload_n X 0 dL_law_607 rfl ?_
  refine z_iconst (v := 1) X dL_law_608 (by decide) ?_
  refine z_iadd X dL_law_609 ?_
  refine z_toe (y := nI (i + 1)) (nI_add (i) (1)) ?_
  refine z_sld (v := xs (i + 1)) X hs dL_law_610 (vp_in_nI (n := i + 1) (by omega) (by omega)) (congrArg xs (nI_clamp (by omega))) ?_
  refine z_callV X (q_text (l := gL G) (n := n1) (u := xs (i + 1)) HR1 HC.wd ((hf1 _ (by omega) (by omega)).trans hnm)) mk_X12_text dL_law_611 wd_1146 wd_1147 wd_1148 rfl hr0 rfl rfl rfl (Nat.le_of_ble_eq_true rfl) (by omega) (Nat.le_of_ble_eq_true rfl) (by omega) (by omega) (fun q h2 n2 hp => ?_)
  obtain ⟨rfl, hn2, HR2, hf2⟩ := hp
  refine z_st (st' := [.int _, .int _]) rfl ?_
  have HC2 := HC1.same (h1 := h2) (fun zq hq => hf2 zq (by omega))
  exact z_icmp_eq X 1502 dL_law_614 (by decide) (fun _ => hb _ _ _ _ _ _ _ _ _ _ _ _ _ HC2 HR2 (by omega) (by omega) (by omega)) (fun hne => absurd rfl hne)
theorem law_law {κ : Wc} {G : Gm} {b L : Nat} {xs : Nat → Int32} {o i n ca sl : Nat} {h : Mm} {d : Nat → Int32} {kp : Nat → Int32} {im : Int32} {fo : Nat → Int32} {tr : Nat → Int32} {tn : Nat} {bi : Nat → Int32} {ss : Nat → Nat} {nu : Nat → Int32} (X : Ok κ G cL_law 4 yL_law.cls 60 600000 7302250) (hs : Scr κ G b L xs) (hi : i + 6 ≤ L) (hL : L ≤ 3072) (HC : CI κ o h d kp im fo tr tn bi ss nu) (HR : RI κ (o + 62) h d kp im fo tr tn bi ss nu) (hzn : o + 76 ≤ n) (hca : ca + 3 ≤ 600000) (hsl : sl + 105 ≤ 7302250) (hb : ∀ (h' : Mm) (n' ca' sl' : Nat) (d : Nat → Int32) (kp : Nat → Int32) (im : Int32) (fo : Nat → Int32) (tr : Nat → Int32) (tn : Nat) (bi : Nat → Int32) (ss : Nat → Nat) (nu : Nat → Int32), CI κ o h' d kp im fo tr tn bi ss nu → RI κ (o + 62) h' d kp im fo tr tn bi ss nu → o + 76 ≤ n' → ca' ≤ ca + 3 → sl' ≤ sl + 105 → Z κ G 4 1502 [(3, .int (nI i)), (2, .ref (o + 62)), (1, .ref o), (0, .ref b)] [] h' n' ca' sl') : Z κ G 4 619 [(3, .int (nI i)), (2, .ref (o + 62)), (1, .ref o), (0, .ref b)] [] h n ca sl := by
  refine z_aload_n X 2 dL_law_619 rfl ?_
  refine z_aload_n X 3 dL_law_620 rfl ?_
  refine z_iload_n X 0 dL_law_621 rfl ?_
  refine z_iconst (v := 1) X dL_law_622 (by decide) ?_
  refine z_iadd X dL_law_623 ?_
  refine z_toe (y := nI (i + 1)) (nI_add (i) (1)) ?_
  refine z_sld (v := xs (i + 1)) X hs dL_law_624 (vp_in_nI (n := i + 1) (by omega) (by omega)) (congrArg xs (nI_clamp (by omega))) ?_
  refine z_aload_n X 3 dL_law_625 rfl ?_
  refine z_iload_n X 0 dL_law_626 rfl ?_
  refine z_iconst (v := 2) X dL_law_627 (by decide) ?_
  refine z_iadd X dL_law_628 ?_
  refine z_toe (y := nI (i + 2)) (nI_add (i) (2)) ?_
  refine z_sld (v := xs (i + 2)) X hs dL_law_629 (vp_in_nI (n := i + 2) (by omega) (by omega)) (congrArg xs (nI_clamp (by omega))) ?_
  refine z_aload_n X 3 dL_law_630 rfl ?_
  refine z_iload_n X 0 dL_law_631 rfl ?_
  refine z_iconst (v := 3) X dL_law_632 (by decide) ?_
  refine z_iadd X dL_law_633 ?_
  refine z_toe (y := nI (i + 3)) (nI_add (i) (3)) ?_
  refine z_sld (v := xs (i + 3)) X hs dL_law_634 (vp_in_nI (n := i + 3) (by omega) (by omega)) (congrArg xs (nI_clamp (by omega))) ?_
  refine z_aload_n X 3 dL_law_635 rfl ?_
  refine z_iload_n X 0 dL_law_636 rfl ?_
  refine z_iconst (v := 4) X dL_law_637 (by decide) ?_
  refine z_iadd X dL_law_638 ?_
  refine z_toe (y := nI (i + 4)) (nI_add (i) (4)) ?_
  refine z_sld (v := xs (i + 4)) X hs dL_law_639 (vp_in_nI (n := i + 4) (by omega) (by omega)) (congrArg xs (nI_clamp (by omega))) ?_
  refine z_callV X (k_law (l := gL G) (n := n) (u := xs (i + 1)) (a := xs (i + 2)) (b := xs (i + 3)) (c := xs (i + 4)) HC) mk_X11_law dL_law_640 wd_587 wd_588 wd_589 rfl HC.1 rfl rfl rfl (Nat.le_of_ble_eq_true rfl) (by omega) (Nat.le_of_ble_eq_true rfl) (by omega) (by omega) (fun q h1 n1 hp => ?_)
  obtain ⟨rfl, hn1, HC1, hf1⟩ := hp
  refine z_st (st' := [.int _]) rfl ?_
  have HR1 := HR.same (h1 := h1) (fun zq z1 z2 => hf1 zq (by omega) (by omega))
  obtain ⟨zfs, hr0⟩ := RI.obj HR1
  refine z_aload_n X 1 dL_law_643 rfl ?_
  refine z_aload_n X 3 dL_law_644 rfl ?_
  refine z_iload_n X 0 dL_law_645 rfl ?_
  refine z_iconst (v := 1) X dL_law_646 (by decide) ?_
  refine z_iadd X dL_law_647 ?_
  refine z_toe (y := nI (i + 1)) (nI_add (i) (1)) ?_
  refine z_sld (v := xs (i + 1)) X hs dL_law_648 (vp_in_nI (n := i + 1) (by omega) (by omega)) (congrArg xs (nI_clamp (by omega))) ?_
  refine z_aload_n X 3 dL_law_649 rfl ?_
  refine z_iload_n X 0 dL_law_650 rfl ?_
  refine z_iconst (v := 2) X dL_law_651 (by decide) ?_
  refine z_iadd X dL_law_652 ?_
  refine z_toe (y := nI (i + 2)) (nI_add (i) (2)) ?_
  refine z_sld (v := xs (i + 2)) X hs dL_law_653 (vp_in_nI (n := i + 2) (by omega) (by omega)) (congrArg xs (nI_clamp (by omega))) ?_
  refine z_aload_n X 3 dL_law_654 rfl ?_
  refine z_iload_n X 0 dL_law_655 rfl ?_
  refine z_iconst (v := 3) X dL_law_656 (by decide) ?_
  refine z_iadd X dL_law_657 ?_
  refine z_toe (y := nI (i + 3)) (nI_add (i) (3)) ?_
  refine z_sld (v := xs (i + 3)) X hs dL_law_658 (vp_in_nI (n := i + 3) (by omega) (by omega)) (congrArg xs (nI_clamp (by omega))) ?_
  refine z_aload_n X 3 dL_law_659 rfl ?_
  refine z_iload_n X 0 dL_law_660 rfl ?_
  refine z_iconst (v := 4) X dL_law_661 (by decide) ?_
  refine z_iadd X dL_law_662 ?_
  refine z_toe (y := nI (i + 4)) (nI_add (i) (4)) ?_
  refine z_sld (v := xs (i + 4)) X hs dL_law_663 (vp_in_nI (n := i + 4) (by omega) (by omega)) (congrArg xs (nI_clamp (by omega))) ?_
  refine z_callV X (q_law (l := gL G) (n := n1) (u := xs (i + 1)) (a := xs (i + 2)) (b := xs (i + 3)) (c := xs (i + 4)) HR1 HC.wd) mk_X12_law dL_law_664 wd_1150 wd_1151 wd_1152 rfl hr0 rfl rfl rfl (Nat.le_of_ble_eq_true rfl) (by omega) (Nat.le_of_ble_eq_true rfl) (by omega) (by omega) (fun q h2 n2 hp => ?_)
  obtain ⟨rfl, hn2, HR2, hf2⟩ := hp
  refine z_st (st' := [.int _, .int _]) rfl ?_
  have HC2 := HC1.same (h1 := h2) (fun zq hq => hf2 zq (by omega))
  exact z_icmp_eq X 1502 dL_law_667 (by decide) (fun _ => hb _ _ _ _ _ _ _ _ _ _ _ _ _ HC2 HR2 (by omega) (by omega) (by omega)) (fun hne => absurd rfl hne)
theorem law_ticks {κ : Wc} {G : Gm} {b L : Nat} {xs : Nat → Int32} {o i n ca sl : Nat} {h : Mm} {d : Nat → Int32} {kp : Nat → Int32} {im : Int32} {fo : Nat → Int32} {tr : Nat → Int32} {tn : Nat} {bi : Nat → Int32} {ss : Nat → Nat} {nu : Nat → Int32} (X : Ok κ G cL_law 4 yL_law.cls 60 600000 7302250) (hs : Scr κ G b L xs) (hi : i + 6 ≤ L) (hL : L ≤ 3072) (HC : CI κ o h d kp im fo tr tn bi ss nu) (HR : RI κ (o + 62) h d kp im fo tr tn bi ss nu) (hzn : o + 76 ≤ n) (hca : ca + 3 ≤ 600000) (hsl : sl + 105 ≤ 7302250) (hb : ∀ (h' : Mm) (n' ca' sl' : Nat) (d : Nat → Int32) (kp : Nat → Int32) (im : Int32) (fo : Nat → Int32) (tr : Nat → Int32) (tn : Nat) (bi : Nat → Int32) (ss : Nat → Nat) (nu : Nat → Int32), CI κ o h' d kp im fo tr tn bi ss nu → RI κ (o + 62) h' d kp im fo tr tn bi ss nu → o + 76 ≤ n' → ca' ≤ ca + 3 → sl' ≤ sl + 105 → Z κ G 4 1502 [(3, .int (nI i)), (2, .ref (o + 62)), (1, .ref o), (0, .ref b)] [] h' n' ca' sl') : Z κ G 4 672 [(3, .int (nI i)), (2, .ref (o + 62)), (1, .ref o), (0, .ref b)] [] h n ca sl := by
  refine z_aload_n X 2 dL_law_672 rfl ?_
  refine z_aload_n X 3 dL_law_673 rfl ?_
  refine z_iload_n X 0 dL_law_674 rfl ?_
  refine z_iconst (v := 1) X dL_law_675 (by decide) ?_
  refine z_iadd X dL_law_676 ?_
  refine z_toe (y := nI (i + 1)) (nI_add (i) (1)) ?_
  refine z_sld (v := xs (i + 1)) X hs dL_law_677 (vp_in_nI (n := i + 1) (by omega) (by omega)) (congrArg xs (nI_clamp (by omega))) ?_
  refine z_callV X (k_ticks (l := gL G) (n := n) (v := xs (i + 1)) HC) mk_X11_ticks dL_law_678 wd_592 wd_593 wd_594 rfl HC.1 rfl rfl rfl (Nat.le_of_ble_eq_true rfl) (by omega) (Nat.le_of_ble_eq_true rfl) (by omega) (by omega) (fun q h1 n1 hp => ?_)
  obtain ⟨rfl, hn1, HC1, hf1⟩ := hp
  refine z_st (st' := [.int _]) rfl ?_
  have HR1 := HR.same (h1 := h1) (fun zq z1 z2 => hf1 zq (by omega) (by omega))
  obtain ⟨zfs, hr0⟩ := RI.obj HR1
  refine z_aload_n X 1 dL_law_681 rfl ?_
  refine z_aload_n X 3 dL_law_682 rfl ?_
  refine z_iload_n X 0 dL_law_683 rfl ?_
  refine z_iconst (v := 1) X dL_law_684 (by decide) ?_
  refine z_iadd X dL_law_685 ?_
  refine z_toe (y := nI (i + 1)) (nI_add (i) (1)) ?_
  refine z_sld (v := xs (i + 1)) X hs dL_law_686 (vp_in_nI (n := i + 1) (by omega) (by omega)) (congrArg xs (nI_clamp (by omega))) ?_
  refine z_callV X (q_ticks (l := gL G) (n := n1) (v := xs (i + 1)) HR1 HC.wd) mk_X12_ticks dL_law_687 wd_1154 wd_1155 wd_1156 rfl hr0 rfl rfl rfl (Nat.le_of_ble_eq_true rfl) (by omega) (Nat.le_of_ble_eq_true rfl) (by omega) (by omega) (fun q h2 n2 hp => ?_)
  obtain ⟨rfl, hn2, HR2, hf2⟩ := hp
  refine z_st (st' := [.int _, .int _]) rfl ?_
  have HC2 := HC1.same (h1 := h2) (fun zq hq => hf2 zq (by omega))
  exact z_icmp_eq X 1502 dL_law_690 (by decide) (fun _ => hb _ _ _ _ _ _ _ _ _ _ _ _ _ HC2 HR2 (by omega) (by omega) (by omega)) (fun hne => absurd rfl hne)
theorem law_gusts {κ : Wc} {G : Gm} {b L : Nat} {xs : Nat → Int32} {o i n ca sl : Nat} {h : Mm} {d : Nat → Int32} {kp : Nat → Int32} {im : Int32} {fo : Nat → Int32} {tr : Nat → Int32} {tn : Nat} {bi : Nat → Int32} {ss : Nat → Nat} {nu : Nat → Int32} (X : Ok κ G cL_law 4 yL_law.cls 60 600000 7302250) (hs : Scr κ G b L xs) (hi : i + 6 ≤ L) (hL : L ≤ 3072) (HC : CI κ o h d kp im fo tr tn bi ss nu) (HR : RI κ (o + 62) h d kp im fo tr tn bi ss nu) (hzn : o + 76 ≤ n) (hca : ca + 3 ≤ 600000) (hsl : sl + 105 ≤ 7302250) (hb : ∀ (h' : Mm) (n' ca' sl' : Nat) (d : Nat → Int32) (kp : Nat → Int32) (im : Int32) (fo : Nat → Int32) (tr : Nat → Int32) (tn : Nat) (bi : Nat → Int32) (ss : Nat → Nat) (nu : Nat → Int32), CI κ o h' d kp im fo tr tn bi ss nu → RI κ (o + 62) h' d kp im fo tr tn bi ss nu → o + 76 ≤ n' → ca' ≤ ca + 3 → sl' ≤ sl + 105 → Z κ G 4 1502 [(3, .int (nI i)), (2, .ref (o + 62)), (1, .ref o), (0, .ref b)] [] h' n' ca' sl') : Z κ G 4 695 [(3, .int (nI i)), (2, .ref (o + 62)), (1, .ref o), (0, .ref b)] [] h n ca sl := by
  refine z_aload_n X 2 dL_law_695 rfl ?_
  refine z_aload_n X 3 dL_law_696 rfl ?_
  refine z_iload_n X 0 dL_law_697 rfl ?_
  refine z_iconst (v := 1) X dL_law_698 (by decide) ?_
  refine z_iadd X dL_law_699 ?_
  refine z_toe (y := nI (i + 1)) (nI_add (i) (1)) ?_
  refine z_sld (v := xs (i + 1)) X hs dL_law_700 (vp_in_nI (n := i + 1) (by omega) (by omega)) (congrArg xs (nI_clamp (by omega))) ?_
  refine z_callV X (k_gusts (l := gL G) (n := n) (v := xs (i + 1)) HC) mk_X11_gusts dL_law_701 wd_617 wd_618 wd_619 rfl HC.1 rfl rfl rfl (Nat.le_of_ble_eq_true rfl) (by omega) (Nat.le_of_ble_eq_true rfl) (by omega) (by omega) (fun q h1 n1 hp => ?_)
  obtain ⟨rfl, hn1, HC1, hf1⟩ := hp
  refine z_st (st' := [.int _]) rfl ?_
  have HR1 := HR.same (h1 := h1) (fun zq z1 z2 => hf1 zq (by omega) (by omega))
  obtain ⟨zfs, hr0⟩ := RI.obj HR1
  refine z_aload_n X 1 dL_law_704 rfl ?_
  refine z_aload_n X 3 dL_law_705 rfl ?_
  refine z_iload_n X 0 dL_law_706 rfl ?_
  refine z_iconst (v := 1) X dL_law_707 (by decide) ?_
  refine z_iadd X dL_law_708 ?_
  refine z_toe (y := nI (i + 1)) (nI_add (i) (1)) ?_
  refine z_sld (v := xs (i + 1)) X hs dL_law_709 (vp_in_nI (n := i + 1) (by omega) (by omega)) (congrArg xs (nI_clamp (by omega))) ?_
  refine z_callV X (q_gusts (l := gL G) (n := n1) (v := xs (i + 1)) HR1 HC.wd) mk_X12_gusts dL_law_710 wd_1169 wd_1170 wd_1171 rfl hr0 rfl rfl rfl (Nat.le_of_ble_eq_true rfl) (by omega) (Nat.le_of_ble_eq_true rfl) (by omega) (by omega) (fun q h2 n2 hp => ?_)
  obtain ⟨rfl, hn2, HR2, hf2⟩ := hp
  refine z_st (st' := [.int _, .int _]) rfl ?_
  have HC2 := HC1.same (h1 := h2) (fun zq hq => hf2 zq (by omega))
  exact z_icmp_eq X 1502 dL_law_713 (by decide) (fun _ => hb _ _ _ _ _ _ _ _ _ _ _ _ _ HC2 HR2 (by omega) (by omega) (by omega)) (fun hne => absurd rfl hne)
theorem law_mass {κ : Wc} {G : Gm} {b L : Nat} {xs : Nat → Int32} {o i n ca sl : Nat} {h : Mm} {d : Nat → Int32} {kp : Nat → Int32} {im : Int32} {fo : Nat → Int32} {tr : Nat → Int32} {tn : Nat} {bi : Nat → Int32} {ss : Nat → Nat} {nu : Nat → Int32} (X : Ok κ G cL_law 4 yL_law.cls 60 600000 7302250) (hs : Scr κ G b L xs) (hi : i + 6 ≤ L) (hL : L ≤ 3072) (HC : CI κ o h d kp im fo tr tn bi ss nu) (HR : RI κ (o + 62) h d kp im fo tr tn bi ss nu) (hzn : o + 76 ≤ n) (hca : ca + 3 ≤ 600000) (hsl : sl + 105 ≤ 7302250) (hb : ∀ (h' : Mm) (n' ca' sl' : Nat) (d : Nat → Int32) (kp : Nat → Int32) (im : Int32) (fo : Nat → Int32) (tr : Nat → Int32) (tn : Nat) (bi : Nat → Int32) (ss : Nat → Nat) (nu : Nat → Int32), CI κ o h' d kp im fo tr tn bi ss nu → RI κ (o + 62) h' d kp im fo tr tn bi ss nu → o + 76 ≤ n' → ca' ≤ ca + 3 → sl' ≤ sl + 105 → Z κ G 4 1502 [(3, .int (nI i)), (2, .ref (o + 62)), (1, .ref o), (0, .ref b)] [] h' n' ca' sl') : Z κ G 4 718 [(3, .int (nI i)), (2, .ref (o + 62)), (1, .ref o), (0, .ref b)] [] h n ca sl := by
  refine z_aload_n X 2 dL_law_718 rfl ?_
  refine z_callV X (k_mass (l := gL G) (n := n)  HC) mk_X11_mass dL_law_719 wd_627 wd_628 wd_629 rfl HC.1 rfl rfl rfl (Nat.le_of_ble_eq_true rfl) (by omega) (Nat.le_of_ble_eq_true rfl) (by omega) (by omega) (fun q h1 n1 hp => ?_)
  obtain ⟨rfl, hn1, HC1, hf1⟩ := hp
  refine z_st (st' := [.int _]) rfl ?_
  have HR1 := HR.same (h1 := h1) (fun zq z1 z2 => hf1 zq (by omega) (by omega))
  obtain ⟨zfs, hr0⟩ := RI.obj HR1
  refine z_aload_n X 1 dL_law_722 rfl ?_
  refine z_callV X (q_mass (l := gL G) (n := n1)  HR1 HC.wd) mk_X12_mass dL_law_723 wd_1174 wd_1175 wd_1176 rfl hr0 rfl rfl rfl (Nat.le_of_ble_eq_true rfl) (by omega) (Nat.le_of_ble_eq_true rfl) (by omega) (by omega) (fun q h2 n2 hp => ?_)
  obtain ⟨rfl, hn2, HR2, hf2⟩ := hp
  refine z_st (st' := [.int _, .int _]) rfl ?_
  have HC2 := HC1.same (h1 := h2) (fun zq hq => hf2 zq (by omega))
  exact z_icmp_eq X 1502 dL_law_726 (by decide) (fun _ => hb _ _ _ _ _ _ _ _ _ _ _ _ _ HC2 HR2 (by omega) (by omega) (by omega)) (fun hne => absurd rfl hne)
theorem law_ring {κ : Wc} {G : Gm} {b L : Nat} {xs : Nat → Int32} {o i n ca sl : Nat} {h : Mm} {d : Nat → Int32} {kp : Nat → Int32} {im : Int32} {fo : Nat → Int32} {tr : Nat → Int32} {tn : Nat} {bi : Nat → Int32} {ss : Nat → Nat} {nu : Nat → Int32} (X : Ok κ G cL_law 4 yL_law.cls 60 600000 7302250) (hs : Scr κ G b L xs) (hi : i + 6 ≤ L) (hL : L ≤ 3072) (HC : CI κ o h d kp im fo tr tn bi ss nu) (HR : RI κ (o + 62) h d kp im fo tr tn bi ss nu) (hzn : o + 76 ≤ n) (hca : ca + 3 ≤ 600000) (hsl : sl + 105 ≤ 7302250) (hb : ∀ (h' : Mm) (n' ca' sl' : Nat) (d : Nat → Int32) (kp : Nat → Int32) (im : Int32) (fo : Nat → Int32) (tr : Nat → Int32) (tn : Nat) (bi : Nat → Int32) (ss : Nat → Nat) (nu : Nat → Int32), CI κ o h' d kp im fo tr tn bi ss nu → RI κ (o + 62) h' d kp im fo tr tn bi ss nu → o + 76 ≤ n' → ca' ≤ ca + 3 → sl' ≤ sl + 105 → Z κ G 4 1502 [(3, .int (nI i)), (2, .ref (o + 62)), (1, .ref o), (0, .ref b)] [] h' n' ca' sl') : Z κ G 4 731 [(3, .int (nI i)), (2, .ref (o + 62)), (1, .ref o), (0, .ref b)] [] h n ca sl := by
  refine z_aload_n X 2 dL_law_731 rfl ?_
  refine z_aload_n X 3 dL_law_732 rfl ?_
  refine z_iload_n X 0 dL_law_733 rfl ?_
  refine z_iconst (v := 1) X dL_law_734 (by decide) ?_
  refine z_iadd X dL_law_735 ?_
  refine z_toe (y := nI (i + 1)) (nI_add (i) (1)) ?_
  refine z_sld (v := xs (i + 1)) X hs dL_law_736 (vp_in_nI (n := i + 1) (by omega) (by omega)) (congrArg xs (nI_clamp (by omega))) ?_
  refine z_callV X (k_ring (l := gL G) (n := n) (i := xs (i + 1)) HC) mk_X11_ring dL_law_737 wd_639 wd_640 wd_641 rfl HC.1 rfl rfl rfl (Nat.le_of_ble_eq_true rfl) (by omega) (Nat.le_of_ble_eq_true rfl) (by omega) (by omega) (fun q h1 n1 hp => ?_)
  obtain ⟨rfl, hn1, HC1, hf1⟩ := hp
  refine z_st (st' := [.int _]) rfl ?_
  have HR1 := HR.same (h1 := h1) (fun zq z1 z2 => hf1 zq (by omega) (by omega))
  obtain ⟨zfs, hr0⟩ := RI.obj HR1
  refine z_aload_n X 1 dL_law_740 rfl ?_
  refine z_aload_n X 3 dL_law_741 rfl ?_
  refine z_iload_n X 0 dL_law_742 rfl ?_
  refine z_iconst (v := 1) X dL_law_743 (by decide) ?_
  refine z_iadd X dL_law_744 ?_
  refine z_toe (y := nI (i + 1)) (nI_add (i) (1)) ?_
  refine z_sld (v := xs (i + 1)) X hs dL_law_745 (vp_in_nI (n := i + 1) (by omega) (by omega)) (congrArg xs (nI_clamp (by omega))) ?_
  refine z_callV X (q_ring (l := gL G) (n := n1) (i := xs (i + 1)) HR1 HC.wd) mk_X12_ring dL_law_746 wd_1184 wd_1185 wd_1186 rfl hr0 rfl rfl rfl (Nat.le_of_ble_eq_true rfl) (by omega) (Nat.le_of_ble_eq_true rfl) (by omega) (by omega) (fun q h2 n2 hp => ?_)
  obtain ⟨rfl, hn2, HR2, hf2⟩ := hp
  refine z_st (st' := [.int _, .int _]) rfl ?_
  have HC2 := HC1.same (h1 := h2) (fun zq hq => hf2 zq (by omega))
  exact z_icmp_eq X 1502 dL_law_749 (by decide) (fun _ => hb _ _ _ _ _ _ _ _ _ _ _ _ _ HC2 HR2 (by omega) (by omega) (by omega)) (fun hne => absurd rfl hne)
theorem law_apart {κ : Wc} {G : Gm} {b L : Nat} {xs : Nat → Int32} {o i n ca sl : Nat} {h : Mm} {d : Nat → Int32} {kp : Nat → Int32} {im : Int32} {fo : Nat → Int32} {tr : Nat → Int32} {tn : Nat} {bi : Nat → Int32} {ss : Nat → Nat} {nu : Nat → Int32} (X : Ok κ G cL_law 4 yL_law.cls 60 600000 7302250) (hs : Scr κ G b L xs) (hi : i + 6 ≤ L) (hL : L ≤ 3072) (HC : CI κ o h d kp im fo tr tn bi ss nu) (HR : RI κ (o + 62) h d kp im fo tr tn bi ss nu) (hzn : o + 76 ≤ n) (hca : ca + 3 ≤ 600000) (hsl : sl + 105 ≤ 7302250) (hb : ∀ (h' : Mm) (n' ca' sl' : Nat) (d : Nat → Int32) (kp : Nat → Int32) (im : Int32) (fo : Nat → Int32) (tr : Nat → Int32) (tn : Nat) (bi : Nat → Int32) (ss : Nat → Nat) (nu : Nat → Int32), CI κ o h' d kp im fo tr tn bi ss nu → RI κ (o + 62) h' d kp im fo tr tn bi ss nu → o + 76 ≤ n' → ca' ≤ ca + 3 → sl' ≤ sl + 105 → Z κ G 4 1502 [(3, .int (nI i)), (2, .ref (o + 62)), (1, .ref o), (0, .ref b)] [] h' n' ca' sl') : Z κ G 4 754 [(3, .int (nI i)), (2, .ref (o + 62)), (1, .ref o), (0, .ref b)] [] h n ca sl := by
  refine z_aload_n X 2 dL_law_754 rfl ?_
  refine z_callV X (k_apart (l := gL G) (n := n)  HC) mk_X11_apart dL_law_755 wd_650 wd_651 wd_652 rfl HC.1 rfl rfl rfl (Nat.le_of_ble_eq_true rfl) (by omega) (Nat.le_of_ble_eq_true rfl) (by omega) (by omega) (fun q h1 n1 hp => ?_)
  obtain ⟨rfl, hn1, HC1, hf1⟩ := hp
  refine z_st (st' := [.int _]) rfl ?_
  have HR1 := HR.same (h1 := h1) (fun zq z1 z2 => hf1 zq (by omega) (by omega))
  obtain ⟨zfs, hr0⟩ := RI.obj HR1
  refine z_aload_n X 1 dL_law_758 rfl ?_
  refine z_callV X (q_apart (l := gL G) (n := n1)  HR1 HC.wd) mk_X12_apart dL_law_759 wd_1192 wd_1193 wd_1194 rfl hr0 rfl rfl rfl (Nat.le_of_ble_eq_true rfl) (by omega) (Nat.le_of_ble_eq_true rfl) (by omega) (by omega) (fun q h2 n2 hp => ?_)
  obtain ⟨rfl, hn2, HR2, hf2⟩ := hp
  refine z_st (st' := [.int _, .int _]) rfl ?_
  have HC2 := HC1.same (h1 := h2) (fun zq hq => hf2 zq (by omega))
  exact z_icmp_eq X 1502 dL_law_762 (by decide) (fun _ => hb _ _ _ _ _ _ _ _ _ _ _ _ _ HC2 HR2 (by omega) (by omega) (by omega)) (fun hne => absurd rfl hne)
theorem law_then {κ : Wc} {G : Gm} {b L : Nat} {xs : Nat → Int32} {o i n ca sl : Nat} {h : Mm} {d : Nat → Int32} {kp : Nat → Int32} {im : Int32} {fo : Nat → Int32} {tr : Nat → Int32} {tn : Nat} {bi : Nat → Int32} {ss : Nat → Nat} {nu : Nat → Int32} (X : Ok κ G cL_law 4 yL_law.cls 60 600000 7302250) (hs : Scr κ G b L xs) (hi : i + 6 ≤ L) (hL : L ≤ 3072) (HC : CI κ o h d kp im fo tr tn bi ss nu) (HR : RI κ (o + 62) h d kp im fo tr tn bi ss nu) (hzn : o + 76 ≤ n) (hca : ca + 3 ≤ 600000) (hsl : sl + 105 ≤ 7302250) (hb : ∀ (h' : Mm) (n' ca' sl' : Nat) (d : Nat → Int32) (kp : Nat → Int32) (im : Int32) (fo : Nat → Int32) (tr : Nat → Int32) (tn : Nat) (bi : Nat → Int32) (ss : Nat → Nat) (nu : Nat → Int32), CI κ o h' d kp im fo tr tn bi ss nu → RI κ (o + 62) h' d kp im fo tr tn bi ss nu → o + 76 ≤ n' → ca' ≤ ca + 3 → sl' ≤ sl + 105 → Z κ G 4 1502 [(3, .int (nI i)), (2, .ref (o + 62)), (1, .ref o), (0, .ref b)] [] h' n' ca' sl') : Z κ G 4 767 [(3, .int (nI i)), (2, .ref (o + 62)), (1, .ref o), (0, .ref b)] [] h n ca sl := by
  refine z_aload_n X 2 dL_law_767 rfl ?_
  refine z_aload_n X 3 dL_law_768 rfl ?_
  refine z_iload_n X 0 dL_law_769 rfl ?_
  refine z_iconst (v := 1) X dL_law_770 (by decide) ?_
  refine z_iadd X dL_law_771 ?_
  refine z_toe (y := nI (i + 1)) (nI_add (i) (1)) ?_
  refine z_sld (v := xs (i + 1)) X hs dL_law_772 (vp_in_nI (n := i + 1) (by omega) (by omega)) (congrArg xs (nI_clamp (by omega))) ?_
  refine z_aload_n X 3 dL_law_773 rfl ?_
  refine z_iload_n X 0 dL_law_774 rfl ?_
  refine z_iconst (v := 2) X dL_law_775 (by decide) ?_
  refine z_iadd X dL_law_776 ?_
  refine z_toe (y := nI (i + 2)) (nI_add (i) (2)) ?_
  refine z_sld (v := xs (i + 2)) X hs dL_law_777 (vp_in_nI (n := i + 2) (by omega) (by omega)) (congrArg xs (nI_clamp (by omega))) ?_
  refine z_callV X (k_then (l := gL G) (n := n) (v := xs (i + 1)) (w := xs (i + 2)) HC) mk_X11_then dL_law_778 wd_654 wd_655 wd_656 rfl HC.1 rfl rfl rfl (Nat.le_of_ble_eq_true rfl) (by omega) (Nat.le_of_ble_eq_true rfl) (by omega) (by omega) (fun q h1 n1 hp => ?_)
  obtain ⟨rfl, hn1, HC1, hf1⟩ := hp
  refine z_st (st' := [.int _]) rfl ?_
  have HR1 := HR.same (h1 := h1) (fun zq z1 z2 => hf1 zq (by omega) (by omega))
  obtain ⟨zfs, hr0⟩ := RI.obj HR1
  refine z_aload_n X 1 dL_law_781 rfl ?_
  refine z_aload_n X 3 dL_law_782 rfl ?_
  refine z_iload_n X 0 dL_law_783 rfl ?_
  refine z_iconst (v := 1) X dL_law_784 (by decide) ?_
  refine z_iadd X dL_law_785 ?_
  refine z_toe (y := nI (i + 1)) (nI_add (i) (1)) ?_
  refine z_sld (v := xs (i + 1)) X hs dL_law_786 (vp_in_nI (n := i + 1) (by omega) (by omega)) (congrArg xs (nI_clamp (by omega))) ?_
  refine z_aload_n X 3 dL_law_787 rfl ?_
  refine z_iload_n X 0 dL_law_788 rfl ?_
  refine z_iconst (v := 2) X dL_law_789 (by decide) ?_
  refine z_iadd X dL_law_790 ?_
  refine z_toe (y := nI (i + 2)) (nI_add (i) (2)) ?_
  refine z_sld (v := xs (i + 2)) X hs dL_law_791 (vp_in_nI (n := i + 2) (by omega) (by omega)) (congrArg xs (nI_clamp (by omega))) ?_
  refine z_callV X (q_then (l := gL G) (n := n1) (v := xs (i + 1)) (w := xs (i + 2)) HR1 HC.wd) mk_X12_then dL_law_792 wd_1196 wd_1197 wd_1198 rfl hr0 rfl rfl rfl (Nat.le_of_ble_eq_true rfl) (by omega) (Nat.le_of_ble_eq_true rfl) (by omega) (by omega) (fun q h2 n2 hp => ?_)
  obtain ⟨rfl, hn2, HR2, hf2⟩ := hp
  refine z_st (st' := [.int _, .int _]) rfl ?_
  have HC2 := HC1.same (h1 := h2) (fun zq hq => hf2 zq (by omega))
  exact z_icmp_eq X 1502 dL_law_795 (by decide) (fun _ => hb _ _ _ _ _ _ _ _ _ _ _ _ _ HC2 HR2 (by omega) (by omega) (by omega)) (fun hne => absurd rfl hne)
theorem law_wide {κ : Wc} {G : Gm} {b L : Nat} {xs : Nat → Int32} {o i n ca sl : Nat} {h : Mm} {d : Nat → Int32} {kp : Nat → Int32} {im : Int32} {fo : Nat → Int32} {tr : Nat → Int32} {tn : Nat} {bi : Nat → Int32} {ss : Nat → Nat} {nu : Nat → Int32} (X : Ok κ G cL_law 4 yL_law.cls 60 600000 7302250) (hs : Scr κ G b L xs) (hi : i + 6 ≤ L) (hL : L ≤ 3072) (HC : CI κ o h d kp im fo tr tn bi ss nu) (HR : RI κ (o + 62) h d kp im fo tr tn bi ss nu) (hzn : o + 76 ≤ n) (hca : ca + 3 ≤ 600000) (hsl : sl + 105 ≤ 7302250) (hb : ∀ (h' : Mm) (n' ca' sl' : Nat) (d : Nat → Int32) (kp : Nat → Int32) (im : Int32) (fo : Nat → Int32) (tr : Nat → Int32) (tn : Nat) (bi : Nat → Int32) (ss : Nat → Nat) (nu : Nat → Int32), CI κ o h' d kp im fo tr tn bi ss nu → RI κ (o + 62) h' d kp im fo tr tn bi ss nu → o + 76 ≤ n' → ca' ≤ ca + 3 → sl' ≤ sl + 105 → Z κ G 4 1502 [(3, .int (nI i)), (2, .ref (o + 62)), (1, .ref o), (0, .ref b)] [] h' n' ca' sl') : Z κ G 4 800 [(3, .int (nI i)), (2, .ref (o + 62)), (1, .ref o), (0, .ref b)] [] h n ca sl := by
  refine z_aload_n X 2 dL_law_800 rfl ?_
  refine z_aload_n X 3 dL_law_801 rfl ?_
  refine z_iload_n X 0 dL_law_802 rfl ?_
  refine z_iconst (v := 1) X dL_law_803 (by decide) ?_
  refine z_iadd X dL_law_804 ?_
  refine z_toe (y := nI (i + 1)) (nI_add (i) (1)) ?_
  refine z_sld (v := xs (i + 1)) X hs dL_law_805 (vp_in_nI (n := i + 1) (by omega) (by omega)) (congrArg xs (nI_clamp (by omega))) ?_
  refine z_aload_n X 3 dL_law_806 rfl ?_
  refine z_iload_n X 0 dL_law_807 rfl ?_
  refine z_iconst (v := 2) X dL_law_808 (by decide) ?_
  refine z_iadd X dL_law_809 ?_
  refine z_toe (y := nI (i + 2)) (nI_add (i) (2)) ?_
  refine z_sld (v := xs (i + 2)) X hs dL_law_810 (vp_in_nI (n := i + 2) (by omega) (by omega)) (congrArg xs (nI_clamp (by omega))) ?_
  refine z_callV X (k_wide (l := gL G) (n := n) (v := xs (i + 1)) (c := xs (i + 2)) HC) mk_X11_wide dL_law_811 wd_670 wd_671 wd_672 rfl HC.1 rfl rfl rfl (Nat.le_of_ble_eq_true rfl) (by omega) (Nat.le_of_ble_eq_true rfl) (by omega) (by omega) (fun q h1 n1 hp => ?_)
  obtain ⟨rfl, hn1, HC1, hf1⟩ := hp
  refine z_st (st' := [.int _]) rfl ?_
  have HR1 := HR.same (h1 := h1) (fun zq z1 z2 => hf1 zq (by omega) (by omega))
  obtain ⟨zfs, hr0⟩ := RI.obj HR1
  refine z_aload_n X 1 dL_law_814 rfl ?_
  refine z_aload_n X 3 dL_law_815 rfl ?_
  refine z_iload_n X 0 dL_law_816 rfl ?_
  refine z_iconst (v := 1) X dL_law_817 (by decide) ?_
  refine z_iadd X dL_law_818 ?_
  refine z_toe (y := nI (i + 1)) (nI_add (i) (1)) ?_
  refine z_sld (v := xs (i + 1)) X hs dL_law_819 (vp_in_nI (n := i + 1) (by omega) (by omega)) (congrArg xs (nI_clamp (by omega))) ?_
  refine z_aload_n X 3 dL_law_820 rfl ?_
  refine z_iload_n X 0 dL_law_821 rfl ?_
  refine z_iconst (v := 2) X dL_law_822 (by decide) ?_
  refine z_iadd X dL_law_823 ?_
  refine z_toe (y := nI (i + 2)) (nI_add (i) (2)) ?_
  refine z_sld (v := xs (i + 2)) X hs dL_law_824 (vp_in_nI (n := i + 2) (by omega) (by omega)) (congrArg xs (nI_clamp (by omega))) ?_
  refine z_callV X (q_wide (l := gL G) (n := n1) (v := xs (i + 1)) (c := xs (i + 2)) HR1 HC.wd) mk_X12_wide dL_law_825 wd_1215 wd_1216 wd_1217 rfl hr0 rfl rfl rfl (Nat.le_of_ble_eq_true rfl) (by omega) (Nat.le_of_ble_eq_true rfl) (by omega) (by omega) (fun q h2 n2 hp => ?_)
  obtain ⟨rfl, hn2, HR2, hf2⟩ := hp
  refine z_st (st' := [.int _, .int _]) rfl ?_
  have HC2 := HC1.same (h1 := h2) (fun zq hq => hf2 zq (by omega))
  exact z_icmp_eq X 1502 dL_law_828 (by decide) (fun _ => hb _ _ _ _ _ _ _ _ _ _ _ _ _ HC2 HR2 (by omega) (by omega) (by omega)) (fun hne => absurd rfl hne)
theorem law_pace {κ : Wc} {G : Gm} {b L : Nat} {xs : Nat → Int32} {o i n ca sl : Nat} {h : Mm} {d : Nat → Int32} {kp : Nat → Int32} {im : Int32} {fo : Nat → Int32} {tr : Nat → Int32} {tn : Nat} {bi : Nat → Int32} {ss : Nat → Nat} {nu : Nat → Int32} (X : Ok κ G cL_law 4 yL_law.cls 60 600000 7302250) (hs : Scr κ G b L xs) (hi : i + 6 ≤ L) (hL : L ≤ 3072) (HC : CI κ o h d kp im fo tr tn bi ss nu) (HR : RI κ (o + 62) h d kp im fo tr tn bi ss nu) (hzn : o + 76 ≤ n) (hca : ca + 3 ≤ 600000) (hsl : sl + 105 ≤ 7302250) (hb : ∀ (h' : Mm) (n' ca' sl' : Nat) (d : Nat → Int32) (kp : Nat → Int32) (im : Int32) (fo : Nat → Int32) (tr : Nat → Int32) (tn : Nat) (bi : Nat → Int32) (ss : Nat → Nat) (nu : Nat → Int32), CI κ o h' d kp im fo tr tn bi ss nu → RI κ (o + 62) h' d kp im fo tr tn bi ss nu → o + 76 ≤ n' → ca' ≤ ca + 3 → sl' ≤ sl + 105 → Z κ G 4 1502 [(3, .int (nI i)), (2, .ref (o + 62)), (1, .ref o), (0, .ref b)] [] h' n' ca' sl') : Z κ G 4 833 [(3, .int (nI i)), (2, .ref (o + 62)), (1, .ref o), (0, .ref b)] [] h n ca sl := by
  refine z_aload_n X 2 dL_law_833 rfl ?_
  refine z_aload_n X 3 dL_law_834 rfl ?_
  refine z_iload_n X 0 dL_law_835 rfl ?_
  refine z_iconst (v := 1) X dL_law_836 (by decide) ?_
  refine z_iadd X dL_law_837 ?_
  refine z_toe (y := nI (i + 1)) (nI_add (i) (1)) ?_
  refine z_sld (v := xs (i + 1)) X hs dL_law_838 (vp_in_nI (n := i + 1) (by omega) (by omega)) (congrArg xs (nI_clamp (by omega))) ?_
  refine z_callV X (k_pace (l := gL G) (n := n) (v := xs (i + 1)) HC) mk_X11_pace dL_law_839 wd_674 wd_675 wd_676 rfl HC.1 rfl rfl rfl (Nat.le_of_ble_eq_true rfl) (by omega) (Nat.le_of_ble_eq_true rfl) (by omega) (by omega) (fun q h1 n1 hp => ?_)
  obtain ⟨rfl, hn1, HC1, hf1⟩ := hp
  refine z_st (st' := [.int _]) rfl ?_
  have HR1 := HR.same (h1 := h1) (fun zq z1 z2 => hf1 zq (by omega) (by omega))
  obtain ⟨zfs, hr0⟩ := RI.obj HR1
  refine z_aload_n X 1 dL_law_842 rfl ?_
  refine z_aload_n X 3 dL_law_843 rfl ?_
  refine z_iload_n X 0 dL_law_844 rfl ?_
  refine z_iconst (v := 1) X dL_law_845 (by decide) ?_
  refine z_iadd X dL_law_846 ?_
  refine z_toe (y := nI (i + 1)) (nI_add (i) (1)) ?_
  refine z_sld (v := xs (i + 1)) X hs dL_law_847 (vp_in_nI (n := i + 1) (by omega) (by omega)) (congrArg xs (nI_clamp (by omega))) ?_
  refine z_callV X (q_pace (l := gL G) (n := n1) (v := xs (i + 1)) HR1 HC.wd) mk_X12_pace dL_law_848 wd_1220 wd_1221 wd_1222 rfl hr0 rfl rfl rfl (Nat.le_of_ble_eq_true rfl) (by omega) (Nat.le_of_ble_eq_true rfl) (by omega) (by omega) (fun q h2 n2 hp => ?_)
  obtain ⟨rfl, hn2, HR2, hf2⟩ := hp
  refine z_st (st' := [.int _, .int _]) rfl ?_
  have HC2 := HC1.same (h1 := h2) (fun zq hq => hf2 zq (by omega))
  exact z_icmp_eq X 1502 dL_law_851 (by decide) (fun _ => hb _ _ _ _ _ _ _ _ _ _ _ _ _ HC2 HR2 (by omega) (by omega) (by omega)) (fun hne => absurd rfl hne)
theorem law_needed {κ : Wc} {G : Gm} {b L : Nat} {xs : Nat → Int32} {o i n ca sl : Nat} {h : Mm} {d : Nat → Int32} {kp : Nat → Int32} {im : Int32} {fo : Nat → Int32} {tr : Nat → Int32} {tn : Nat} {bi : Nat → Int32} {ss : Nat → Nat} {nu : Nat → Int32} (X : Ok κ G cL_law 4 yL_law.cls 60 600000 7302250) (hs : Scr κ G b L xs) (hi : i + 6 ≤ L) (hL : L ≤ 3072) (HC : CI κ o h d kp im fo tr tn bi ss nu) (HR : RI κ (o + 62) h d kp im fo tr tn bi ss nu) (hzn : o + 76 ≤ n) (hca : ca + 3 ≤ 600000) (hsl : sl + 105 ≤ 7302250) (hb : ∀ (h' : Mm) (n' ca' sl' : Nat) (d : Nat → Int32) (kp : Nat → Int32) (im : Int32) (fo : Nat → Int32) (tr : Nat → Int32) (tn : Nat) (bi : Nat → Int32) (ss : Nat → Nat) (nu : Nat → Int32), CI κ o h' d kp im fo tr tn bi ss nu → RI κ (o + 62) h' d kp im fo tr tn bi ss nu → o + 76 ≤ n' → ca' ≤ ca + 3 → sl' ≤ sl + 105 → Z κ G 4 1502 [(3, .int (nI i)), (2, .ref (o + 62)), (1, .ref o), (0, .ref b)] [] h' n' ca' sl') : Z κ G 4 856 [(3, .int (nI i)), (2, .ref (o + 62)), (1, .ref o), (0, .ref b)] [] h n ca sl := by
  refine z_aload_n X 2 dL_law_856 rfl ?_
  refine z_aload_n X 3 dL_law_857 rfl ?_
  refine z_iload_n X 0 dL_law_858 rfl ?_
  refine z_iconst (v := 1) X dL_law_859 (by decide) ?_
  refine z_iadd X dL_law_860 ?_
  refine z_toe (y := nI (i + 1)) (nI_add (i) (1)) ?_
  refine z_sld (v := xs (i + 1)) X hs dL_law_861 (vp_in_nI (n := i + 1) (by omega) (by omega)) (congrArg xs (nI_clamp (by omega))) ?_
  refine z_callV X (k_needed (l := gL G) (n := n) (v := xs (i + 1)) HC) mk_X11_needed dL_law_862 wd_682 wd_683 wd_684 rfl HC.1 rfl rfl rfl (Nat.le_of_ble_eq_true rfl) (by omega) (Nat.le_of_ble_eq_true rfl) (by omega) (by omega) (fun q h1 n1 hp => ?_)
  obtain ⟨rfl, hn1, HC1, hf1⟩ := hp
  refine z_st (st' := [.int _]) rfl ?_
  have HR1 := HR.same (h1 := h1) (fun zq z1 z2 => hf1 zq (by omega) (by omega))
  obtain ⟨zfs, hr0⟩ := RI.obj HR1
  refine z_aload_n X 1 dL_law_865 rfl ?_
  refine z_aload_n X 3 dL_law_866 rfl ?_
  refine z_iload_n X 0 dL_law_867 rfl ?_
  refine z_iconst (v := 1) X dL_law_868 (by decide) ?_
  refine z_iadd X dL_law_869 ?_
  refine z_toe (y := nI (i + 1)) (nI_add (i) (1)) ?_
  refine z_sld (v := xs (i + 1)) X hs dL_law_870 (vp_in_nI (n := i + 1) (by omega) (by omega)) (congrArg xs (nI_clamp (by omega))) ?_
  refine z_callV X (q_needed (l := gL G) (n := n1) (v := xs (i + 1)) HR1 HC.wd) mk_X12_needed dL_law_871 wd_1228 wd_1229 wd_1230 rfl hr0 rfl rfl rfl (Nat.le_of_ble_eq_true rfl) (by omega) (Nat.le_of_ble_eq_true rfl) (by omega) (by omega) (fun q h2 n2 hp => ?_)
  obtain ⟨rfl, hn2, HR2, hf2⟩ := hp
  refine z_st (st' := [.int _, .int _]) rfl ?_
  have HC2 := HC1.same (h1 := h2) (fun zq hq => hf2 zq (by omega))
  exact z_icmp_eq X 1502 dL_law_874 (by decide) (fun _ => hb _ _ _ _ _ _ _ _ _ _ _ _ _ HC2 HR2 (by omega) (by omega) (by omega)) (fun hne => absurd rfl hne)
theorem law_little {κ : Wc} {G : Gm} {b L : Nat} {xs : Nat → Int32} {o i n ca sl : Nat} {h : Mm} {d : Nat → Int32} {kp : Nat → Int32} {im : Int32} {fo : Nat → Int32} {tr : Nat → Int32} {tn : Nat} {bi : Nat → Int32} {ss : Nat → Nat} {nu : Nat → Int32} (X : Ok κ G cL_law 4 yL_law.cls 60 600000 7302250) (hs : Scr κ G b L xs) (hi : i + 6 ≤ L) (hL : L ≤ 3072) (HC : CI κ o h d kp im fo tr tn bi ss nu) (HR : RI κ (o + 62) h d kp im fo tr tn bi ss nu) (hzn : o + 76 ≤ n) (hca : ca + 3 ≤ 600000) (hsl : sl + 105 ≤ 7302250) (hb : ∀ (h' : Mm) (n' ca' sl' : Nat) (d : Nat → Int32) (kp : Nat → Int32) (im : Int32) (fo : Nat → Int32) (tr : Nat → Int32) (tn : Nat) (bi : Nat → Int32) (ss : Nat → Nat) (nu : Nat → Int32), CI κ o h' d kp im fo tr tn bi ss nu → RI κ (o + 62) h' d kp im fo tr tn bi ss nu → o + 76 ≤ n' → ca' ≤ ca + 3 → sl' ≤ sl + 105 → Z κ G 4 1502 [(3, .int (nI i)), (2, .ref (o + 62)), (1, .ref o), (0, .ref b)] [] h' n' ca' sl') : Z κ G 4 879 [(3, .int (nI i)), (2, .ref (o + 62)), (1, .ref o), (0, .ref b)] [] h n ca sl := by
  refine z_aload_n X 2 dL_law_879 rfl ?_
  refine z_aload_n X 3 dL_law_880 rfl ?_
  refine z_iload_n X 0 dL_law_881 rfl ?_
  refine z_iconst (v := 1) X dL_law_882 (by decide) ?_
  refine z_iadd X dL_law_883 ?_
  refine z_toe (y := nI (i + 1)) (nI_add (i) (1)) ?_
  refine z_sld (v := xs (i + 1)) X hs dL_law_884 (vp_in_nI (n := i + 1) (by omega) (by omega)) (congrArg xs (nI_clamp (by omega))) ?_
  refine z_aload_n X 3 dL_law_885 rfl ?_
  refine z_iload_n X 0 dL_law_886 rfl ?_
  refine z_iconst (v := 2) X dL_law_887 (by decide) ?_
  refine z_iadd X dL_law_888 ?_
  refine z_toe (y := nI (i + 2)) (nI_add (i) (2)) ?_
  refine z_sld (v := xs (i + 2)) X hs dL_law_889 (vp_in_nI (n := i + 2) (by omega) (by omega)) (congrArg xs (nI_clamp (by omega))) ?_
  refine z_callV X (k_little (l := gL G) (n := n) (v := xs (i + 1)) (r := xs (i + 2)) HC) mk_X11_little dL_law_890 wd_690 wd_691 wd_692 rfl HC.1 rfl rfl rfl (Nat.le_of_ble_eq_true rfl) (by omega) (Nat.le_of_ble_eq_true rfl) (by omega) (by omega) (fun q h1 n1 hp => ?_)
  obtain ⟨rfl, hn1, HC1, hf1⟩ := hp
  refine z_st (st' := [.int _]) rfl ?_
  have HR1 := HR.same (h1 := h1) (fun zq z1 z2 => hf1 zq (by omega) (by omega))
  obtain ⟨zfs, hr0⟩ := RI.obj HR1
  refine z_aload_n X 1 dL_law_893 rfl ?_
  refine z_aload_n X 3 dL_law_894 rfl ?_
  refine z_iload_n X 0 dL_law_895 rfl ?_
  refine z_iconst (v := 1) X dL_law_896 (by decide) ?_
  refine z_iadd X dL_law_897 ?_
  refine z_toe (y := nI (i + 1)) (nI_add (i) (1)) ?_
  refine z_sld (v := xs (i + 1)) X hs dL_law_898 (vp_in_nI (n := i + 1) (by omega) (by omega)) (congrArg xs (nI_clamp (by omega))) ?_
  refine z_aload_n X 3 dL_law_899 rfl ?_
  refine z_iload_n X 0 dL_law_900 rfl ?_
  refine z_iconst (v := 2) X dL_law_901 (by decide) ?_
  refine z_iadd X dL_law_902 ?_
  refine z_toe (y := nI (i + 2)) (nI_add (i) (2)) ?_
  refine z_sld (v := xs (i + 2)) X hs dL_law_903 (vp_in_nI (n := i + 2) (by omega) (by omega)) (congrArg xs (nI_clamp (by omega))) ?_
  refine z_callV X (q_little (l := gL G) (n := n1) (v := xs (i + 1)) (r := xs (i + 2)) HR1 HC.wd) mk_X12_little dL_law_904 wd_1232 wd_1233 wd_1234 rfl hr0 rfl rfl rfl (Nat.le_of_ble_eq_true rfl) (by omega) (Nat.le_of_ble_eq_true rfl) (by omega) (by omega) (fun q h2 n2 hp => ?_)
  obtain ⟨rfl, hn2, HR2, hf2⟩ := hp
  refine z_st (st' := [.int _, .int _]) rfl ?_
  have HC2 := HC1.same (h1 := h2) (fun zq hq => hf2 zq (by omega))
  exact z_icmp_eq X 1502 dL_law_907 (by decide) (fun _ => hb _ _ _ _ _ _ _ _ _ _ _ _ _ HC2 HR2 (by omega) (by omega) (by omega)) (fun hne => absurd rfl hne)
theorem law_breaks {κ : Wc} {G : Gm} {b L : Nat} {xs : Nat → Int32} {o i n ca sl : Nat} {h : Mm} {d : Nat → Int32} {kp : Nat → Int32} {im : Int32} {fo : Nat → Int32} {tr : Nat → Int32} {tn : Nat} {bi : Nat → Int32} {ss : Nat → Nat} {nu : Nat → Int32} (X : Ok κ G cL_law 4 yL_law.cls 60 600000 7302250) (hs : Scr κ G b L xs) (hi : i + 6 ≤ L) (hL : L ≤ 3072) (HC : CI κ o h d kp im fo tr tn bi ss nu) (HR : RI κ (o + 62) h d kp im fo tr tn bi ss nu) (hzn : o + 76 ≤ n) (hca : ca + 3 ≤ 600000) (hsl : sl + 105 ≤ 7302250) (hb : ∀ (h' : Mm) (n' ca' sl' : Nat) (d : Nat → Int32) (kp : Nat → Int32) (im : Int32) (fo : Nat → Int32) (tr : Nat → Int32) (tn : Nat) (bi : Nat → Int32) (ss : Nat → Nat) (nu : Nat → Int32), CI κ o h' d kp im fo tr tn bi ss nu → RI κ (o + 62) h' d kp im fo tr tn bi ss nu → o + 76 ≤ n' → ca' ≤ ca + 3 → sl' ≤ sl + 105 → Z κ G 4 1502 [(3, .int (nI i)), (2, .ref (o + 62)), (1, .ref o), (0, .ref b)] [] h' n' ca' sl') : Z κ G 4 912 [(3, .int (nI i)), (2, .ref (o + 62)), (1, .ref o), (0, .ref b)] [] h n ca sl := by
  refine z_aload_n X 2 dL_law_912 rfl ?_
  refine z_aload_n X 3 dL_law_913 rfl ?_
  refine z_iload_n X 0 dL_law_914 rfl ?_
  refine z_iconst (v := 1) X dL_law_915 (by decide) ?_
  refine z_iadd X dL_law_916 ?_
  refine z_toe (y := nI (i + 1)) (nI_add (i) (1)) ?_
  refine z_sld (v := xs (i + 1)) X hs dL_law_917 (vp_in_nI (n := i + 1) (by omega) (by omega)) (congrArg xs (nI_clamp (by omega))) ?_
  refine z_callV X (k_breaks (l := gL G) (n := n) (v := xs (i + 1)) HC) mk_X11_breaks dL_law_918 wd_694 wd_695 wd_696 rfl HC.1 rfl rfl rfl (Nat.le_of_ble_eq_true rfl) (by omega) (Nat.le_of_ble_eq_true rfl) (by omega) (by omega) (fun q h1 n1 hp => ?_)
  obtain ⟨rfl, hn1, HC1, hf1⟩ := hp
  refine z_st (st' := [.int _]) rfl ?_
  have HR1 := HR.same (h1 := h1) (fun zq z1 z2 => hf1 zq (by omega) (by omega))
  obtain ⟨zfs, hr0⟩ := RI.obj HR1
  refine z_aload_n X 1 dL_law_921 rfl ?_
  refine z_aload_n X 3 dL_law_922 rfl ?_
  refine z_iload_n X 0 dL_law_923 rfl ?_
  refine z_iconst (v := 1) X dL_law_924 (by decide) ?_
  refine z_iadd X dL_law_925 ?_
  refine z_toe (y := nI (i + 1)) (nI_add (i) (1)) ?_
  refine z_sld (v := xs (i + 1)) X hs dL_law_926 (vp_in_nI (n := i + 1) (by omega) (by omega)) (congrArg xs (nI_clamp (by omega))) ?_
  refine z_callV X (q_breaks (l := gL G) (n := n1) (v := xs (i + 1)) HR1 HC.wd) mk_X12_breaks dL_law_927 wd_1237 wd_1238 wd_1239 rfl hr0 rfl rfl rfl (Nat.le_of_ble_eq_true rfl) (by omega) (Nat.le_of_ble_eq_true rfl) (by omega) (by omega) (fun q h2 n2 hp => ?_)
  obtain ⟨rfl, hn2, HR2, hf2⟩ := hp
  refine z_st (st' := [.int _, .int _]) rfl ?_
  have HC2 := HC1.same (h1 := h2) (fun zq hq => hf2 zq (by omega))
  exact z_icmp_eq X 1502 dL_law_930 (by decide) (fun _ => hb _ _ _ _ _ _ _ _ _ _ _ _ _ HC2 HR2 (by omega) (by omega) (by omega)) (fun hne => absurd rfl hne)
theorem law_falls {κ : Wc} {G : Gm} {b L : Nat} {xs : Nat → Int32} {o i n ca sl : Nat} {h : Mm} {d : Nat → Int32} {kp : Nat → Int32} {im : Int32} {fo : Nat → Int32} {tr : Nat → Int32} {tn : Nat} {bi : Nat → Int32} {ss : Nat → Nat} {nu : Nat → Int32} (X : Ok κ G cL_law 4 yL_law.cls 60 600000 7302250) (hs : Scr κ G b L xs) (hi : i + 6 ≤ L) (hL : L ≤ 3072) (HC : CI κ o h d kp im fo tr tn bi ss nu) (HR : RI κ (o + 62) h d kp im fo tr tn bi ss nu) (hzn : o + 76 ≤ n) (hca : ca + 3 ≤ 600000) (hsl : sl + 105 ≤ 7302250) (hb : ∀ (h' : Mm) (n' ca' sl' : Nat) (d : Nat → Int32) (kp : Nat → Int32) (im : Int32) (fo : Nat → Int32) (tr : Nat → Int32) (tn : Nat) (bi : Nat → Int32) (ss : Nat → Nat) (nu : Nat → Int32), CI κ o h' d kp im fo tr tn bi ss nu → RI κ (o + 62) h' d kp im fo tr tn bi ss nu → o + 76 ≤ n' → ca' ≤ ca + 3 → sl' ≤ sl + 105 → Z κ G 4 1502 [(3, .int (nI i)), (2, .ref (o + 62)), (1, .ref o), (0, .ref b)] [] h' n' ca' sl') : Z κ G 4 935 [(3, .int (nI i)), (2, .ref (o + 62)), (1, .ref o), (0, .ref b)] [] h n ca sl := by
  refine z_aload_n X 2 dL_law_935 rfl ?_
  refine z_aload_n X 3 dL_law_936 rfl ?_
  refine z_iload_n X 0 dL_law_937 rfl ?_
  refine z_iconst (v := 1) X dL_law_938 (by decide) ?_
  refine z_iadd X dL_law_939 ?_
  refine z_toe (y := nI (i + 1)) (nI_add (i) (1)) ?_
  refine z_sld (v := xs (i + 1)) X hs dL_law_940 (vp_in_nI (n := i + 1) (by omega) (by omega)) (congrArg xs (nI_clamp (by omega))) ?_
  refine z_callV X (k_falls (l := gL G) (n := n) (v := xs (i + 1)) HC) mk_X11_falls dL_law_941 wd_703 wd_704 wd_705 rfl HC.1 rfl rfl rfl (Nat.le_of_ble_eq_true rfl) (by omega) (Nat.le_of_ble_eq_true rfl) (by omega) (by omega) (fun q h1 n1 hp => ?_)
  obtain ⟨rfl, hn1, HC1, hf1⟩ := hp
  refine z_st (st' := [.int _]) rfl ?_
  have HR1 := HR.same (h1 := h1) (fun zq z1 z2 => hf1 zq (by omega) (by omega))
  obtain ⟨zfs, hr0⟩ := RI.obj HR1
  refine z_aload_n X 1 dL_law_944 rfl ?_
  refine z_aload_n X 3 dL_law_945 rfl ?_
  refine z_iload_n X 0 dL_law_946 rfl ?_
  refine z_iconst (v := 1) X dL_law_947 (by decide) ?_
  refine z_iadd X dL_law_948 ?_
  refine z_toe (y := nI (i + 1)) (nI_add (i) (1)) ?_
  refine z_sld (v := xs (i + 1)) X hs dL_law_949 (vp_in_nI (n := i + 1) (by omega) (by omega)) (congrArg xs (nI_clamp (by omega))) ?_
  refine z_callV X (q_falls (l := gL G) (n := n1) (v := xs (i + 1)) HR1 HC.wd) mk_X12_falls dL_law_950 wd_1245 wd_1246 wd_1247 rfl hr0 rfl rfl rfl (Nat.le_of_ble_eq_true rfl) (by omega) (Nat.le_of_ble_eq_true rfl) (by omega) (by omega) (fun q h2 n2 hp => ?_)
  obtain ⟨rfl, hn2, HR2, hf2⟩ := hp
  refine z_st (st' := [.int _, .int _]) rfl ?_
  have HC2 := HC1.same (h1 := h2) (fun zq hq => hf2 zq (by omega))
  exact z_icmp_eq X 1502 dL_law_953 (by decide) (fun _ => hb _ _ _ _ _ _ _ _ _ _ _ _ _ HC2 HR2 (by omega) (by omega) (by omega)) (fun hne => absurd rfl hne)
theorem law_off {κ : Wc} {G : Gm} {b L : Nat} {xs : Nat → Int32} {o i n ca sl : Nat} {h : Mm} {d : Nat → Int32} {kp : Nat → Int32} {im : Int32} {fo : Nat → Int32} {tr : Nat → Int32} {tn : Nat} {bi : Nat → Int32} {ss : Nat → Nat} {nu : Nat → Int32} (X : Ok κ G cL_law 4 yL_law.cls 60 600000 7302250) (hs : Scr κ G b L xs) (hi : i + 6 ≤ L) (hL : L ≤ 3072) (HC : CI κ o h d kp im fo tr tn bi ss nu) (HR : RI κ (o + 62) h d kp im fo tr tn bi ss nu) (hzn : o + 76 ≤ n) (hca : ca + 3 ≤ 600000) (hsl : sl + 105 ≤ 7302250) (hb : ∀ (h' : Mm) (n' ca' sl' : Nat) (d : Nat → Int32) (kp : Nat → Int32) (im : Int32) (fo : Nat → Int32) (tr : Nat → Int32) (tn : Nat) (bi : Nat → Int32) (ss : Nat → Nat) (nu : Nat → Int32), CI κ o h' d kp im fo tr tn bi ss nu → RI κ (o + 62) h' d kp im fo tr tn bi ss nu → o + 76 ≤ n' → ca' ≤ ca + 3 → sl' ≤ sl + 105 → Z κ G 4 1502 [(3, .int (nI i)), (2, .ref (o + 62)), (1, .ref o), (0, .ref b)] [] h' n' ca' sl') : Z κ G 4 958 [(3, .int (nI i)), (2, .ref (o + 62)), (1, .ref o), (0, .ref b)] [] h n ca sl := by
  refine z_aload_n X 2 dL_law_958 rfl ?_
  refine z_aload_n X 3 dL_law_959 rfl ?_
  refine z_iload_n X 0 dL_law_960 rfl ?_
  refine z_iconst (v := 1) X dL_law_961 (by decide) ?_
  refine z_iadd X dL_law_962 ?_
  refine z_toe (y := nI (i + 1)) (nI_add (i) (1)) ?_
  refine z_sld (v := xs (i + 1)) X hs dL_law_963 (vp_in_nI (n := i + 1) (by omega) (by omega)) (congrArg xs (nI_clamp (by omega))) ?_
  refine z_callV X (k_off (l := gL G) (n := n) (s := xs (i + 1)) HC) mk_X11_off dL_law_964 wd_707 wd_708 wd_709 rfl HC.1 rfl rfl rfl (Nat.le_of_ble_eq_true rfl) (by omega) (Nat.le_of_ble_eq_true rfl) (by omega) (by omega) (fun q h1 n1 hp => ?_)
  obtain ⟨rfl, hn1, HC1, hf1⟩ := hp
  refine z_st (st' := [.int _]) rfl ?_
  have HR1 := HR.same (h1 := h1) (fun zq z1 z2 => hf1 zq (by omega) (by omega))
  obtain ⟨zfs, hr0⟩ := RI.obj HR1
  refine z_aload_n X 1 dL_law_967 rfl ?_
  refine z_aload_n X 3 dL_law_968 rfl ?_
  refine z_iload_n X 0 dL_law_969 rfl ?_
  refine z_iconst (v := 1) X dL_law_970 (by decide) ?_
  refine z_iadd X dL_law_971 ?_
  refine z_toe (y := nI (i + 1)) (nI_add (i) (1)) ?_
  refine z_sld (v := xs (i + 1)) X hs dL_law_972 (vp_in_nI (n := i + 1) (by omega) (by omega)) (congrArg xs (nI_clamp (by omega))) ?_
  refine z_callV X (q_off (l := gL G) (n := n1) (s := xs (i + 1)) HR1 HC.wd) mk_X12_off dL_law_973 wd_1249 wd_1250 wd_1251 rfl hr0 rfl rfl rfl (Nat.le_of_ble_eq_true rfl) (by omega) (Nat.le_of_ble_eq_true rfl) (by omega) (by omega) (fun q h2 n2 hp => ?_)
  obtain ⟨rfl, hn2, HR2, hf2⟩ := hp
  refine z_st (st' := [.int _, .int _]) rfl ?_
  have HC2 := HC1.same (h1 := h2) (fun zq hq => hf2 zq (by omega))
  exact z_icmp_eq X 1502 dL_law_976 (by decide) (fun _ => hb _ _ _ _ _ _ _ _ _ _ _ _ _ HC2 HR2 (by omega) (by omega) (by omega)) (fun hne => absurd rfl hne)
theorem law_made {κ : Wc} {G : Gm} {b L : Nat} {xs : Nat → Int32} {o i n ca sl : Nat} {h : Mm} {d : Nat → Int32} {kp : Nat → Int32} {im : Int32} {fo : Nat → Int32} {tr : Nat → Int32} {tn : Nat} {bi : Nat → Int32} {ss : Nat → Nat} {nu : Nat → Int32} (X : Ok κ G cL_law 4 yL_law.cls 60 600000 7302250) (hs : Scr κ G b L xs) (hi : i + 6 ≤ L) (hL : L ≤ 3072) (HC : CI κ o h d kp im fo tr tn bi ss nu) (HR : RI κ (o + 62) h d kp im fo tr tn bi ss nu) (hzn : o + 76 ≤ n) (hca : ca + 3 ≤ 600000) (hsl : sl + 105 ≤ 7302250) (hb : ∀ (h' : Mm) (n' ca' sl' : Nat) (d : Nat → Int32) (kp : Nat → Int32) (im : Int32) (fo : Nat → Int32) (tr : Nat → Int32) (tn : Nat) (bi : Nat → Int32) (ss : Nat → Nat) (nu : Nat → Int32), CI κ o h' d kp im fo tr tn bi ss nu → RI κ (o + 62) h' d kp im fo tr tn bi ss nu → o + 76 ≤ n' → ca' ≤ ca + 3 → sl' ≤ sl + 105 → Z κ G 4 1502 [(3, .int (nI i)), (2, .ref (o + 62)), (1, .ref o), (0, .ref b)] [] h' n' ca' sl') : Z κ G 4 981 [(3, .int (nI i)), (2, .ref (o + 62)), (1, .ref o), (0, .ref b)] [] h n ca sl := by
  refine z_aload_n X 2 dL_law_981 rfl ?_
  refine z_aload_n X 3 dL_law_982 rfl ?_
  refine z_iload_n X 0 dL_law_983 rfl ?_
  refine z_iconst (v := 1) X dL_law_984 (by decide) ?_
  refine z_iadd X dL_law_985 ?_
  refine z_toe (y := nI (i + 1)) (nI_add (i) (1)) ?_
  refine z_sld (v := xs (i + 1)) X hs dL_law_986 (vp_in_nI (n := i + 1) (by omega) (by omega)) (congrArg xs (nI_clamp (by omega))) ?_
  refine z_aload_n X 3 dL_law_987 rfl ?_
  refine z_iload_n X 0 dL_law_988 rfl ?_
  refine z_iconst (v := 2) X dL_law_989 (by decide) ?_
  refine z_iadd X dL_law_990 ?_
  refine z_toe (y := nI (i + 2)) (nI_add (i) (2)) ?_
  refine z_sld (v := xs (i + 2)) X hs dL_law_991 (vp_in_nI (n := i + 2) (by omega) (by omega)) (congrArg xs (nI_clamp (by omega))) ?_
  refine z_aload_n X 3 dL_law_992 rfl ?_
  refine z_iload_n X 0 dL_law_993 rfl ?_
  refine z_iconst (v := 3) X dL_law_994 (by decide) ?_
  refine z_iadd X dL_law_995 ?_
  refine z_toe (y := nI (i + 3)) (nI_add (i) (3)) ?_
  refine z_sld (v := xs (i + 3)) X hs dL_law_996 (vp_in_nI (n := i + 3) (by omega) (by omega)) (congrArg xs (nI_clamp (by omega))) ?_
  refine z_callV X (k_made (l := gL G) (n := n) (s := xs (i + 1)) (v := xs (i + 2)) (w := xs (i + 3)) HC) mk_X11_made dL_law_997 wd_724 wd_725 wd_726 rfl HC.1 rfl rfl rfl (Nat.le_of_ble_eq_true rfl) (by omega) (Nat.le_of_ble_eq_true rfl) (by omega) (by omega) (fun q h1 n1 hp => ?_)
  obtain ⟨rfl, hn1, HC1, hf1⟩ := hp
  refine z_st (st' := [.int _]) rfl ?_
  have HR1 := HR.same (h1 := h1) (fun zq z1 z2 => hf1 zq (by omega) (by omega))
  obtain ⟨zfs, hr0⟩ := RI.obj HR1
  refine z_aload_n X 1 dL_law_1000 rfl ?_
  refine z_aload_n X 3 dL_law_1001 rfl ?_
  refine z_iload_n X 0 dL_law_1002 rfl ?_
  refine z_iconst (v := 1) X dL_law_1003 (by decide) ?_
  refine z_iadd X dL_law_1004 ?_
  refine z_toe (y := nI (i + 1)) (nI_add (i) (1)) ?_
  refine z_sld (v := xs (i + 1)) X hs dL_law_1005 (vp_in_nI (n := i + 1) (by omega) (by omega)) (congrArg xs (nI_clamp (by omega))) ?_
  refine z_aload_n X 3 dL_law_1006 rfl ?_
  refine z_iload_n X 0 dL_law_1007 rfl ?_
  refine z_iconst (v := 2) X dL_law_1008 (by decide) ?_
  refine z_iadd X dL_law_1009 ?_
  refine z_toe (y := nI (i + 2)) (nI_add (i) (2)) ?_
  refine z_sld (v := xs (i + 2)) X hs dL_law_1010 (vp_in_nI (n := i + 2) (by omega) (by omega)) (congrArg xs (nI_clamp (by omega))) ?_
  refine z_aload_n X 3 dL_law_1011 rfl ?_
  refine z_iload_n X 0 dL_law_1012 rfl ?_
  refine z_iconst (v := 3) X dL_law_1013 (by decide) ?_
  refine z_iadd X dL_law_1014 ?_
  refine z_toe (y := nI (i + 3)) (nI_add (i) (3)) ?_
  refine z_sld (v := xs (i + 3)) X hs dL_law_1015 (vp_in_nI (n := i + 3) (by omega) (by omega)) (congrArg xs (nI_clamp (by omega))) ?_
  refine z_callV X (q_made (l := gL G) (n := n1) (s := xs (i + 1)) (v := xs (i + 2)) (w := xs (i + 3)) HR1 HC.wd) mk_X12_made dL_law_1016 wd_1259 wd_1260 wd_1261 rfl hr0 rfl rfl rfl (Nat.le_of_ble_eq_true rfl) (by omega) (Nat.le_of_ble_eq_true rfl) (by omega) (by omega) (fun q h2 n2 hp => ?_)
  obtain ⟨rfl, hn2, HR2, hf2⟩ := hp
  refine z_st (st' := [.int _, .int _]) rfl ?_
  have HC2 := HC1.same (h1 := h2) (fun zq hq => hf2 zq (by omega))
  exact z_icmp_eq X 1502 dL_law_1019 (by decide) (fun _ => hb _ _ _ _ _ _ _ _ _ _ _ _ _ HC2 HR2 (by omega) (by omega) (by omega)) (fun hne => absurd rfl hne)
theorem law_blown {κ : Wc} {G : Gm} {b L : Nat} {xs : Nat → Int32} {o i n ca sl : Nat} {h : Mm} {d : Nat → Int32} {kp : Nat → Int32} {im : Int32} {fo : Nat → Int32} {tr : Nat → Int32} {tn : Nat} {bi : Nat → Int32} {ss : Nat → Nat} {nu : Nat → Int32} (X : Ok κ G cL_law 4 yL_law.cls 60 600000 7302250) (hs : Scr κ G b L xs) (hi : i + 6 ≤ L) (hL : L ≤ 3072) (HC : CI κ o h d kp im fo tr tn bi ss nu) (HR : RI κ (o + 62) h d kp im fo tr tn bi ss nu) (hzn : o + 76 ≤ n) (hca : ca + 3 ≤ 600000) (hsl : sl + 105 ≤ 7302250) (hb : ∀ (h' : Mm) (n' ca' sl' : Nat) (d : Nat → Int32) (kp : Nat → Int32) (im : Int32) (fo : Nat → Int32) (tr : Nat → Int32) (tn : Nat) (bi : Nat → Int32) (ss : Nat → Nat) (nu : Nat → Int32), CI κ o h' d kp im fo tr tn bi ss nu → RI κ (o + 62) h' d kp im fo tr tn bi ss nu → o + 76 ≤ n' → ca' ≤ ca + 3 → sl' ≤ sl + 105 → Z κ G 4 1502 [(3, .int (nI i)), (2, .ref (o + 62)), (1, .ref o), (0, .ref b)] [] h' n' ca' sl') : Z κ G 4 1024 [(3, .int (nI i)), (2, .ref (o + 62)), (1, .ref o), (0, .ref b)] [] h n ca sl := by
  refine z_aload_n X 2 dL_law_1024 rfl ?_
  refine z_aload_n X 3 dL_law_1025 rfl ?_
  refine z_iload_n X 0 dL_law_1026 rfl ?_
  refine z_iconst (v := 1) X dL_law_1027 (by decide) ?_
  refine z_iadd X dL_law_1028 ?_
  refine z_toe (y := nI (i + 1)) (nI_add (i) (1)) ?_
  refine z_sld (v := xs (i + 1)) X hs dL_law_1029 (vp_in_nI (n := i + 1) (by omega) (by omega)) (congrArg xs (nI_clamp (by omega))) ?_
  refine z_aload_n X 3 dL_law_1030 rfl ?_
  refine z_iload_n X 0 dL_law_1031 rfl ?_
  refine z_iconst (v := 2) X dL_law_1032 (by decide) ?_
  refine z_iadd X dL_law_1033 ?_
  refine z_toe (y := nI (i + 2)) (nI_add (i) (2)) ?_
  refine z_sld (v := xs (i + 2)) X hs dL_law_1034 (vp_in_nI (n := i + 2) (by omega) (by omega)) (congrArg xs (nI_clamp (by omega))) ?_
  refine z_callV X (k_blown (l := gL G) (n := n) (s := xs (i + 1)) (v := xs (i + 2)) HC) mk_X11_blown dL_law_1035 wd_733 wd_734 wd_735 rfl HC.1 rfl rfl rfl (Nat.le_of_ble_eq_true rfl) (by omega) (Nat.le_of_ble_eq_true rfl) (by omega) (by omega) (fun q h1 n1 hp => ?_)
  obtain ⟨rfl, hn1, HC1, hf1⟩ := hp
  refine z_st (st' := [.int _]) rfl ?_
  have HR1 := HR.same (h1 := h1) (fun zq z1 z2 => hf1 zq (by omega) (by omega))
  obtain ⟨zfs, hr0⟩ := RI.obj HR1
  refine z_aload_n X 1 dL_law_1038 rfl ?_
  refine z_aload_n X 3 dL_law_1039 rfl ?_
  refine z_iload_n X 0 dL_law_1040 rfl ?_
  refine z_iconst (v := 1) X dL_law_1041 (by decide) ?_
  refine z_iadd X dL_law_1042 ?_
  refine z_toe (y := nI (i + 1)) (nI_add (i) (1)) ?_
  refine z_sld (v := xs (i + 1)) X hs dL_law_1043 (vp_in_nI (n := i + 1) (by omega) (by omega)) (congrArg xs (nI_clamp (by omega))) ?_
  refine z_aload_n X 3 dL_law_1044 rfl ?_
  refine z_iload_n X 0 dL_law_1045 rfl ?_
  refine z_iconst (v := 2) X dL_law_1046 (by decide) ?_
  refine z_iadd X dL_law_1047 ?_
  refine z_toe (y := nI (i + 2)) (nI_add (i) (2)) ?_
  refine z_sld (v := xs (i + 2)) X hs dL_law_1048 (vp_in_nI (n := i + 2) (by omega) (by omega)) (congrArg xs (nI_clamp (by omega))) ?_
  refine z_callV X (q_blown (l := gL G) (n := n1) (s := xs (i + 1)) (v := xs (i + 2)) HR1 HC.wd) mk_X12_blown dL_law_1049 wd_1267 wd_1268 wd_1269 rfl hr0 rfl rfl rfl (Nat.le_of_ble_eq_true rfl) (by omega) (Nat.le_of_ble_eq_true rfl) (by omega) (by omega) (fun q h2 n2 hp => ?_)
  obtain ⟨rfl, hn2, HR2, hf2⟩ := hp
  refine z_st (st' := [.int _, .int _]) rfl ?_
  have HC2 := HC1.same (h1 := h2) (fun zq hq => hf2 zq (by omega))
  exact z_icmp_eq X 1502 dL_law_1052 (by decide) (fun _ => hb _ _ _ _ _ _ _ _ _ _ _ _ _ HC2 HR2 (by omega) (by omega) (by omega)) (fun hne => absurd rfl hne)
theorem law_box {κ : Wc} {G : Gm} {b L : Nat} {xs : Nat → Int32} {o i n ca sl : Nat} {h : Mm} {d : Nat → Int32} {kp : Nat → Int32} {im : Int32} {fo : Nat → Int32} {tr : Nat → Int32} {tn : Nat} {bi : Nat → Int32} {ss : Nat → Nat} {nu : Nat → Int32} (X : Ok κ G cL_law 4 yL_law.cls 60 600000 7302250) (hs : Scr κ G b L xs) (hi : i + 6 ≤ L) (hL : L ≤ 3072) (HC : CI κ o h d kp im fo tr tn bi ss nu) (HR : RI κ (o + 62) h d kp im fo tr tn bi ss nu) (hzn : o + 76 ≤ n) (hca : ca + 3 ≤ 600000) (hsl : sl + 105 ≤ 7302250) (hb : ∀ (h' : Mm) (n' ca' sl' : Nat) (d : Nat → Int32) (kp : Nat → Int32) (im : Int32) (fo : Nat → Int32) (tr : Nat → Int32) (tn : Nat) (bi : Nat → Int32) (ss : Nat → Nat) (nu : Nat → Int32), CI κ o h' d kp im fo tr tn bi ss nu → RI κ (o + 62) h' d kp im fo tr tn bi ss nu → o + 76 ≤ n' → ca' ≤ ca + 3 → sl' ≤ sl + 105 → Z κ G 4 1502 [(3, .int (nI i)), (2, .ref (o + 62)), (1, .ref o), (0, .ref b)] [] h' n' ca' sl') : Z κ G 4 1057 [(3, .int (nI i)), (2, .ref (o + 62)), (1, .ref o), (0, .ref b)] [] h n ca sl := by
  refine z_aload_n X 2 dL_law_1057 rfl ?_
  refine z_aload_n X 3 dL_law_1058 rfl ?_
  refine z_iload_n X 0 dL_law_1059 rfl ?_
  refine z_iconst (v := 1) X dL_law_1060 (by decide) ?_
  refine z_iadd X dL_law_1061 ?_
  refine z_toe (y := nI (i + 1)) (nI_add (i) (1)) ?_
  refine z_sld (v := xs (i + 1)) X hs dL_law_1062 (vp_in_nI (n := i + 1) (by omega) (by omega)) (congrArg xs (nI_clamp (by omega))) ?_
  refine z_aload_n X 3 dL_law_1063 rfl ?_
  refine z_iload_n X 0 dL_law_1064 rfl ?_
  refine z_iconst (v := 2) X dL_law_1065 (by decide) ?_
  refine z_iadd X dL_law_1066 ?_
  refine z_toe (y := nI (i + 2)) (nI_add (i) (2)) ?_
  refine z_sld (v := xs (i + 2)) X hs dL_law_1067 (vp_in_nI (n := i + 2) (by omega) (by omega)) (congrArg xs (nI_clamp (by omega))) ?_
  refine z_aload_n X 3 dL_law_1068 rfl ?_
  refine z_iload_n X 0 dL_law_1069 rfl ?_
  refine z_iconst (v := 3) X dL_law_1070 (by decide) ?_
  refine z_iadd X dL_law_1071 ?_
  refine z_toe (y := nI (i + 3)) (nI_add (i) (3)) ?_
  refine z_sld (v := xs (i + 3)) X hs dL_law_1072 (vp_in_nI (n := i + 3) (by omega) (by omega)) (congrArg xs (nI_clamp (by omega))) ?_
  refine z_callV X (k_box (l := gL G) (n := n) (c := xs (i + 1)) (w := xs (i + 2)) (s := xs (i + 3)) HC) mk_X11_box dL_law_1073 wd_737 wd_738 wd_739 rfl HC.1 rfl rfl rfl (Nat.le_of_ble_eq_true rfl) (by omega) (Nat.le_of_ble_eq_true rfl) (by omega) (by omega) (fun q h1 n1 hp => ?_)
  obtain ⟨rfl, hn1, HC1, hf1⟩ := hp
  refine z_st (st' := [.int _]) rfl ?_
  have HR1 := HR.same (h1 := h1) (fun zq z1 z2 => hf1 zq (by omega) (by omega))
  obtain ⟨zfs, hr0⟩ := RI.obj HR1
  refine z_aload_n X 1 dL_law_1076 rfl ?_
  refine z_aload_n X 3 dL_law_1077 rfl ?_
  refine z_iload_n X 0 dL_law_1078 rfl ?_
  refine z_iconst (v := 1) X dL_law_1079 (by decide) ?_
  refine z_iadd X dL_law_1080 ?_
  refine z_toe (y := nI (i + 1)) (nI_add (i) (1)) ?_
  refine z_sld (v := xs (i + 1)) X hs dL_law_1081 (vp_in_nI (n := i + 1) (by omega) (by omega)) (congrArg xs (nI_clamp (by omega))) ?_
  refine z_aload_n X 3 dL_law_1082 rfl ?_
  refine z_iload_n X 0 dL_law_1083 rfl ?_
  refine z_iconst (v := 2) X dL_law_1084 (by decide) ?_
  refine z_iadd X dL_law_1085 ?_
  refine z_toe (y := nI (i + 2)) (nI_add (i) (2)) ?_
  refine z_sld (v := xs (i + 2)) X hs dL_law_1086 (vp_in_nI (n := i + 2) (by omega) (by omega)) (congrArg xs (nI_clamp (by omega))) ?_
  refine z_aload_n X 3 dL_law_1087 rfl ?_
  refine z_iload_n X 0 dL_law_1088 rfl ?_
  refine z_iconst (v := 3) X dL_law_1089 (by decide) ?_
  refine z_iadd X dL_law_1090 ?_
  refine z_toe (y := nI (i + 3)) (nI_add (i) (3)) ?_
  refine z_sld (v := xs (i + 3)) X hs dL_law_1091 (vp_in_nI (n := i + 3) (by omega) (by omega)) (congrArg xs (nI_clamp (by omega))) ?_
  refine z_callV X (q_box (l := gL G) (n := n1) (c := xs (i + 1)) (w := xs (i + 2)) (s := xs (i + 3)) HR1 HC.wd) mk_X12_box dL_law_1092 wd_1271 wd_1272 wd_1273 rfl hr0 rfl rfl rfl (Nat.le_of_ble_eq_true rfl) (by omega) (Nat.le_of_ble_eq_true rfl) (by omega) (by omega) (fun q h2 n2 hp => ?_)
  obtain ⟨rfl, hn2, HR2, hf2⟩ := hp
  refine z_st (st' := [.int _, .int _]) rfl ?_
  have HC2 := HC1.same (h1 := h2) (fun zq hq => hf2 zq (by omega))
  exact z_icmp_eq X 1502 dL_law_1095 (by decide) (fun _ => hb _ _ _ _ _ _ _ _ _ _ _ _ _ HC2 HR2 (by omega) (by omega) (by omega)) (fun hne => absurd rfl hne)
theorem law_tries {κ : Wc} {G : Gm} {b L : Nat} {xs : Nat → Int32} {o i n ca sl : Nat} {h : Mm} {d : Nat → Int32} {kp : Nat → Int32} {im : Int32} {fo : Nat → Int32} {tr : Nat → Int32} {tn : Nat} {bi : Nat → Int32} {ss : Nat → Nat} {nu : Nat → Int32} (X : Ok κ G cL_law 4 yL_law.cls 60 600000 7302250) (hs : Scr κ G b L xs) (hi : i + 6 ≤ L) (hL : L ≤ 3072) (HC : CI κ o h d kp im fo tr tn bi ss nu) (HR : RI κ (o + 62) h d kp im fo tr tn bi ss nu) (hzn : o + 76 ≤ n) (hca : ca + 3 ≤ 600000) (hsl : sl + 105 ≤ 7302250) (hb : ∀ (h' : Mm) (n' ca' sl' : Nat) (d : Nat → Int32) (kp : Nat → Int32) (im : Int32) (fo : Nat → Int32) (tr : Nat → Int32) (tn : Nat) (bi : Nat → Int32) (ss : Nat → Nat) (nu : Nat → Int32), CI κ o h' d kp im fo tr tn bi ss nu → RI κ (o + 62) h' d kp im fo tr tn bi ss nu → o + 76 ≤ n' → ca' ≤ ca + 3 → sl' ≤ sl + 105 → Z κ G 4 1502 [(3, .int (nI i)), (2, .ref (o + 62)), (1, .ref o), (0, .ref b)] [] h' n' ca' sl') : Z κ G 4 1100 [(3, .int (nI i)), (2, .ref (o + 62)), (1, .ref o), (0, .ref b)] [] h n ca sl := by
  refine z_aload_n X 2 dL_law_1100 rfl ?_
  refine z_aload_n X 3 dL_law_1101 rfl ?_
  refine z_iload_n X 0 dL_law_1102 rfl ?_
  refine z_iconst (v := 1) X dL_law_1103 (by decide) ?_
  refine z_iadd X dL_law_1104 ?_
  refine z_toe (y := nI (i + 1)) (nI_add (i) (1)) ?_
  refine z_sld (v := xs (i + 1)) X hs dL_law_1105 (vp_in_nI (n := i + 1) (by omega) (by omega)) (congrArg xs (nI_clamp (by omega))) ?_
  refine z_callV X (k_tries (l := gL G) (n := n) (v := xs (i + 1)) HC) mk_X11_tries dL_law_1106 wd_745 wd_746 wd_747 rfl HC.1 rfl rfl rfl (Nat.le_of_ble_eq_true rfl) (by omega) (Nat.le_of_ble_eq_true rfl) (by omega) (by omega) (fun q h1 n1 hp => ?_)
  obtain ⟨rfl, hn1, HC1, hf1⟩ := hp
  refine z_st (st' := [.int _]) rfl ?_
  have HR1 := HR.same (h1 := h1) (fun zq z1 z2 => hf1 zq (by omega) (by omega))
  obtain ⟨zfs, hr0⟩ := RI.obj HR1
  refine z_aload_n X 1 dL_law_1109 rfl ?_
  refine z_aload_n X 3 dL_law_1110 rfl ?_
  refine z_iload_n X 0 dL_law_1111 rfl ?_
  refine z_iconst (v := 1) X dL_law_1112 (by decide) ?_
  refine z_iadd X dL_law_1113 ?_
  refine z_toe (y := nI (i + 1)) (nI_add (i) (1)) ?_
  refine z_sld (v := xs (i + 1)) X hs dL_law_1114 (vp_in_nI (n := i + 1) (by omega) (by omega)) (congrArg xs (nI_clamp (by omega))) ?_
  refine z_callV X (q_tries (l := gL G) (n := n1) (v := xs (i + 1)) HR1 HC.wd) mk_X12_tries dL_law_1115 wd_1275 wd_1276 wd_1277 rfl hr0 rfl rfl rfl (Nat.le_of_ble_eq_true rfl) (by omega) (Nat.le_of_ble_eq_true rfl) (by omega) (by omega) (fun q h2 n2 hp => ?_)
  obtain ⟨rfl, hn2, HR2, hf2⟩ := hp
  refine z_st (st' := [.int _, .int _]) rfl ?_
  have HC2 := HC1.same (h1 := h2) (fun zq hq => hf2 zq (by omega))
  exact z_icmp_eq X 1502 dL_law_1118 (by decide) (fun _ => hb _ _ _ _ _ _ _ _ _ _ _ _ _ HC2 HR2 (by omega) (by omega) (by omega)) (fun hne => absurd rfl hne)
theorem law_seed {κ : Wc} {G : Gm} {b L : Nat} {xs : Nat → Int32} {o i n ca sl : Nat} {h : Mm} {d : Nat → Int32} {kp : Nat → Int32} {im : Int32} {fo : Nat → Int32} {tr : Nat → Int32} {tn : Nat} {bi : Nat → Int32} {ss : Nat → Nat} {nu : Nat → Int32} (X : Ok κ G cL_law 4 yL_law.cls 60 600000 7302250) (hs : Scr κ G b L xs) (hi : i + 6 ≤ L) (hL : L ≤ 3072) (HC : CI κ o h d kp im fo tr tn bi ss nu) (HR : RI κ (o + 62) h d kp im fo tr tn bi ss nu) (hzn : o + 76 ≤ n) (hca : ca + 3 ≤ 600000) (hsl : sl + 105 ≤ 7302250) (hb : ∀ (h' : Mm) (n' ca' sl' : Nat) (d : Nat → Int32) (kp : Nat → Int32) (im : Int32) (fo : Nat → Int32) (tr : Nat → Int32) (tn : Nat) (bi : Nat → Int32) (ss : Nat → Nat) (nu : Nat → Int32), CI κ o h' d kp im fo tr tn bi ss nu → RI κ (o + 62) h' d kp im fo tr tn bi ss nu → o + 76 ≤ n' → ca' ≤ ca + 3 → sl' ≤ sl + 105 → Z κ G 4 1502 [(3, .int (nI i)), (2, .ref (o + 62)), (1, .ref o), (0, .ref b)] [] h' n' ca' sl') : Z κ G 4 1123 [(3, .int (nI i)), (2, .ref (o + 62)), (1, .ref o), (0, .ref b)] [] h n ca sl := by
  refine z_aload_n X 2 dL_law_1123 rfl ?_
  refine z_aload_n X 3 dL_law_1124 rfl ?_
  refine z_iload_n X 0 dL_law_1125 rfl ?_
  refine z_iconst (v := 1) X dL_law_1126 (by decide) ?_
  refine z_iadd X dL_law_1127 ?_
  refine z_toe (y := nI (i + 1)) (nI_add (i) (1)) ?_
  refine z_sld (v := xs (i + 1)) X hs dL_law_1128 (vp_in_nI (n := i + 1) (by omega) (by omega)) (congrArg xs (nI_clamp (by omega))) ?_
  refine z_callV X (k_seed (l := gL G) (n := n) (v := xs (i + 1)) HC) mk_X11_seed dL_law_1129 wd_764 wd_765 wd_766 rfl HC.1 rfl rfl rfl (Nat.le_of_ble_eq_true rfl) (by omega) (Nat.le_of_ble_eq_true rfl) (by omega) (by omega) (fun q h1 n1 hp => ?_)
  obtain ⟨rfl, hn1, HC1, hf1⟩ := hp
  refine z_st (st' := [.int _]) rfl ?_
  have HR1 := HR.same (h1 := h1) (fun zq z1 z2 => hf1 zq (by omega) (by omega))
  obtain ⟨zfs, hr0⟩ := RI.obj HR1
  refine z_aload_n X 1 dL_law_1132 rfl ?_
  refine z_aload_n X 3 dL_law_1133 rfl ?_
  refine z_iload_n X 0 dL_law_1134 rfl ?_
  refine z_iconst (v := 1) X dL_law_1135 (by decide) ?_
  refine z_iadd X dL_law_1136 ?_
  refine z_toe (y := nI (i + 1)) (nI_add (i) (1)) ?_
  refine z_sld (v := xs (i + 1)) X hs dL_law_1137 (vp_in_nI (n := i + 1) (by omega) (by omega)) (congrArg xs (nI_clamp (by omega))) ?_
  refine z_callV X (q_seed (l := gL G) (n := n1) (v := xs (i + 1)) HR1 HC.wd) mk_X12_seed dL_law_1138 wd_1287 wd_1288 wd_1289 rfl hr0 rfl rfl rfl (Nat.le_of_ble_eq_true rfl) (by omega) (Nat.le_of_ble_eq_true rfl) (by omega) (by omega) (fun q h2 n2 hp => ?_)
  obtain ⟨rfl, hn2, HR2, hf2⟩ := hp
  refine z_st (st' := [.int _, .int _]) rfl ?_
  have HC2 := HC1.same (h1 := h2) (fun zq hq => hf2 zq (by omega))
  exact z_icmp_eq X 1502 dL_law_1141 (by decide) (fun _ => hb _ _ _ _ _ _ _ _ _ _ _ _ _ HC2 HR2 (by omega) (by omega) (by omega)) (fun hne => absurd rfl hne)
theorem law_voice {κ : Wc} {G : Gm} {b L : Nat} {xs : Nat → Int32} {o i n ca sl : Nat} {h : Mm} {d : Nat → Int32} {kp : Nat → Int32} {im : Int32} {fo : Nat → Int32} {tr : Nat → Int32} {tn : Nat} {bi : Nat → Int32} {ss : Nat → Nat} {nu : Nat → Int32} (X : Ok κ G cL_law 4 yL_law.cls 60 600000 7302250) (hs : Scr κ G b L xs) (hi : i + 6 ≤ L) (hL : L ≤ 3072) (HC : CI κ o h d kp im fo tr tn bi ss nu) (HR : RI κ (o + 62) h d kp im fo tr tn bi ss nu) (hzn : o + 76 ≤ n) (hca : ca + 3 ≤ 600000) (hsl : sl + 105 ≤ 7302250) (hb : ∀ (h' : Mm) (n' ca' sl' : Nat) (d : Nat → Int32) (kp : Nat → Int32) (im : Int32) (fo : Nat → Int32) (tr : Nat → Int32) (tn : Nat) (bi : Nat → Int32) (ss : Nat → Nat) (nu : Nat → Int32), CI κ o h' d kp im fo tr tn bi ss nu → RI κ (o + 62) h' d kp im fo tr tn bi ss nu → o + 76 ≤ n' → ca' ≤ ca + 3 → sl' ≤ sl + 105 → Z κ G 4 1502 [(3, .int (nI i)), (2, .ref (o + 62)), (1, .ref o), (0, .ref b)] [] h' n' ca' sl') : Z κ G 4 1146 [(3, .int (nI i)), (2, .ref (o + 62)), (1, .ref o), (0, .ref b)] [] h n ca sl := by
  refine z_aload_n X 2 dL_law_1146 rfl ?_
  refine z_aload_n X 3 dL_law_1147 rfl ?_
  refine z_iload_n X 0 dL_law_1148 rfl ?_
  refine z_iconst (v := 1) X dL_law_1149 (by decide) ?_
  refine z_iadd X dL_law_1150 ?_
  refine z_toe (y := nI (i + 1)) (nI_add (i) (1)) ?_
  refine z_sld (v := xs (i + 1)) X hs dL_law_1151 (vp_in_nI (n := i + 1) (by omega) (by omega)) (congrArg xs (nI_clamp (by omega))) ?_
  refine z_aload_n X 3 dL_law_1152 rfl ?_
  refine z_iload_n X 0 dL_law_1153 rfl ?_
  refine z_iconst (v := 2) X dL_law_1154 (by decide) ?_
  refine z_iadd X dL_law_1155 ?_
  refine z_toe (y := nI (i + 2)) (nI_add (i) (2)) ?_
  refine z_sld (v := xs (i + 2)) X hs dL_law_1156 (vp_in_nI (n := i + 2) (by omega) (by omega)) (congrArg xs (nI_clamp (by omega))) ?_
  refine z_aload_n X 3 dL_law_1157 rfl ?_
  refine z_iload_n X 0 dL_law_1158 rfl ?_
  refine z_iconst (v := 3) X dL_law_1159 (by decide) ?_
  refine z_iadd X dL_law_1160 ?_
  refine z_toe (y := nI (i + 3)) (nI_add (i) (3)) ?_
  refine z_sld (v := xs (i + 3)) X hs dL_law_1161 (vp_in_nI (n := i + 3) (by omega) (by omega)) (congrArg xs (nI_clamp (by omega))) ?_
  refine z_callV X (k_voice (l := gL G) (n := n) (c := xs (i + 1)) (a := xs (i + 2)) (x := xs (i + 3)) HC) mk_X11_voice dL_law_1162 wd_768 wd_769 wd_770 rfl HC.1 rfl rfl rfl (Nat.le_of_ble_eq_true rfl) (by omega) (Nat.le_of_ble_eq_true rfl) (by omega) (by omega) (fun q h1 n1 hp => ?_)
  obtain ⟨rfl, hn1, HC1, hf1⟩ := hp
  refine z_st (st' := [.int _]) rfl ?_
  have HR1 := HR.same (h1 := h1) (fun zq z1 z2 => hf1 zq (by omega) (by omega))
  obtain ⟨zfs, hr0⟩ := RI.obj HR1
  refine z_aload_n X 1 dL_law_1165 rfl ?_
  refine z_aload_n X 3 dL_law_1166 rfl ?_
  refine z_iload_n X 0 dL_law_1167 rfl ?_
  refine z_iconst (v := 1) X dL_law_1168 (by decide) ?_
  refine z_iadd X dL_law_1169 ?_
  refine z_toe (y := nI (i + 1)) (nI_add (i) (1)) ?_
  refine z_sld (v := xs (i + 1)) X hs dL_law_1170 (vp_in_nI (n := i + 1) (by omega) (by omega)) (congrArg xs (nI_clamp (by omega))) ?_
  refine z_aload_n X 3 dL_law_1171 rfl ?_
  refine z_iload_n X 0 dL_law_1172 rfl ?_
  refine z_iconst (v := 2) X dL_law_1173 (by decide) ?_
  refine z_iadd X dL_law_1174 ?_
  refine z_toe (y := nI (i + 2)) (nI_add (i) (2)) ?_
  refine z_sld (v := xs (i + 2)) X hs dL_law_1175 (vp_in_nI (n := i + 2) (by omega) (by omega)) (congrArg xs (nI_clamp (by omega))) ?_
  refine z_aload_n X 3 dL_law_1176 rfl ?_
  refine z_iload_n X 0 dL_law_1177 rfl ?_
  refine z_iconst (v := 3) X dL_law_1178 (by decide) ?_
  refine z_iadd X dL_law_1179 ?_
  refine z_toe (y := nI (i + 3)) (nI_add (i) (3)) ?_
  refine z_sld (v := xs (i + 3)) X hs dL_law_1180 (vp_in_nI (n := i + 3) (by omega) (by omega)) (congrArg xs (nI_clamp (by omega))) ?_
  refine z_callV X (q_voice (l := gL G) (n := n1) (c := xs (i + 1)) (a := xs (i + 2)) (x := xs (i + 3)) HR1 HC.wd) mk_X12_voice dL_law_1181 wd_1291 wd_1292 wd_1293 rfl hr0 rfl rfl rfl (Nat.le_of_ble_eq_true rfl) (by omega) (Nat.le_of_ble_eq_true rfl) (by omega) (by omega) (fun q h2 n2 hp => ?_)
  obtain ⟨rfl, hn2, HR2, hf2⟩ := hp
  refine z_st (st' := [.int _, .int _]) rfl ?_
  have HC2 := HC1.same (h1 := h2) (fun zq hq => hf2 zq (by omega))
  exact z_icmp_eq X 1502 dL_law_1184 (by decide) (fun _ => hb _ _ _ _ _ _ _ _ _ _ _ _ _ HC2 HR2 (by omega) (by omega) (by omega)) (fun hne => absurd rfl hne)
theorem law_trace {κ : Wc} {G : Gm} {b L : Nat} {xs : Nat → Int32} {o i n ca sl : Nat} {h : Mm} {d : Nat → Int32} {kp : Nat → Int32} {im : Int32} {fo : Nat → Int32} {tr : Nat → Int32} {tn : Nat} {bi : Nat → Int32} {ss : Nat → Nat} {nu : Nat → Int32} (X : Ok κ G cL_law 4 yL_law.cls 60 600000 7302250) (hs : Scr κ G b L xs) (hi : i + 6 ≤ L) (hL : L ≤ 3072) (HC : CI κ o h d kp im fo tr tn bi ss nu) (HR : RI κ (o + 62) h d kp im fo tr tn bi ss nu) (hzn : o + 76 ≤ n) (hca : ca + 3 ≤ 600000) (hsl : sl + 105 ≤ 7302250) (hb : ∀ (h' : Mm) (n' ca' sl' : Nat) (d : Nat → Int32) (kp : Nat → Int32) (im : Int32) (fo : Nat → Int32) (tr : Nat → Int32) (tn : Nat) (bi : Nat → Int32) (ss : Nat → Nat) (nu : Nat → Int32), CI κ o h' d kp im fo tr tn bi ss nu → RI κ (o + 62) h' d kp im fo tr tn bi ss nu → o + 76 ≤ n' → ca' ≤ ca + 3 → sl' ≤ sl + 105 → Z κ G 4 1502 [(3, .int (nI i)), (2, .ref (o + 62)), (1, .ref o), (0, .ref b)] [] h' n' ca' sl') : Z κ G 4 1189 [(3, .int (nI i)), (2, .ref (o + 62)), (1, .ref o), (0, .ref b)] [] h n ca sl := by
  refine z_aload_n X 2 dL_law_1189 rfl ?_
  refine z_aload_n X 3 dL_law_1190 rfl ?_
  refine z_iload_n X 0 dL_law_1191 rfl ?_
  refine z_iconst (v := 1) X dL_law_1192 (by decide) ?_
  refine z_iadd X dL_law_1193 ?_
  refine z_toe (y := nI (i + 1)) (nI_add (i) (1)) ?_
  refine z_sld (v := xs (i + 1)) X hs dL_law_1194 (vp_in_nI (n := i + 1) (by omega) (by omega)) (congrArg xs (nI_clamp (by omega))) ?_
  refine z_callV X (k_trace (l := gL G) (n := n) (k := xs (i + 1)) HC) mk_X11_trace dL_law_1195 wd_856 wd_857 wd_858 rfl HC.1 rfl rfl rfl (Nat.le_of_ble_eq_true rfl) (by omega) (Nat.le_of_ble_eq_true rfl) (by omega) (by omega) (fun q h1 n1 hp => ?_)
  obtain ⟨rfl, hn1, HC1, hf1⟩ := hp
  refine z_st (st' := [.int _]) rfl ?_
  have HR1 := HR.same (h1 := h1) (fun zq z1 z2 => hf1 zq (by omega) (by omega))
  obtain ⟨zfs, hr0⟩ := RI.obj HR1
  refine z_aload_n X 1 dL_law_1198 rfl ?_
  refine z_aload_n X 3 dL_law_1199 rfl ?_
  refine z_iload_n X 0 dL_law_1200 rfl ?_
  refine z_iconst (v := 1) X dL_law_1201 (by decide) ?_
  refine z_iadd X dL_law_1202 ?_
  refine z_toe (y := nI (i + 1)) (nI_add (i) (1)) ?_
  refine z_sld (v := xs (i + 1)) X hs dL_law_1203 (vp_in_nI (n := i + 1) (by omega) (by omega)) (congrArg xs (nI_clamp (by omega))) ?_
  refine z_callV X (q_trace (l := gL G) (n := n1) (k := xs (i + 1)) HR1 HC.wd HC.tn) mk_X12_trace dL_law_1204 wd_1326 wd_1327 wd_1328 rfl hr0 rfl rfl rfl (Nat.le_of_ble_eq_true rfl) (by omega) (Nat.le_of_ble_eq_true rfl) (by omega) (by omega) (fun q h2 n2 hp => ?_)
  obtain ⟨rfl, hn2, HR2, hf2⟩ := hp
  refine z_st (st' := [.int _, .int _]) rfl ?_
  have HC2 := HC1.same (h1 := h2) (fun zq hq => hf2 zq (by omega))
  exact z_icmp_eq X 1502 dL_law_1207 (by decide) (fun _ => hb _ _ _ _ _ _ _ _ _ _ _ _ _ HC2 HR2 (by omega) (by omega) (by omega)) (fun hne => absurd rfl hne)
theorem law_sheet {κ : Wc} {G : Gm} {b L : Nat} {xs : Nat → Int32} {o i n ca sl : Nat} {h : Mm} {d : Nat → Int32} {kp : Nat → Int32} {im : Int32} {fo : Nat → Int32} {tr : Nat → Int32} {tn : Nat} {bi : Nat → Int32} {ss : Nat → Nat} {nu : Nat → Int32} (X : Ok κ G cL_law 4 yL_law.cls 60 600000 7302250) (hs : Scr κ G b L xs) (hi : i + 6 ≤ L) (hL : L ≤ 3072) (HC : CI κ o h d kp im fo tr tn bi ss nu) (HR : RI κ (o + 62) h d kp im fo tr tn bi ss nu) (hzn : o + 76 ≤ n) (hca : ca + 3 ≤ 600000) (hsl : sl + 105 ≤ 7302250) (hb : ∀ (h' : Mm) (n' ca' sl' : Nat) (d : Nat → Int32) (kp : Nat → Int32) (im : Int32) (fo : Nat → Int32) (tr : Nat → Int32) (tn : Nat) (bi : Nat → Int32) (ss : Nat → Nat) (nu : Nat → Int32), CI κ o h' d kp im fo tr tn bi ss nu → RI κ (o + 62) h' d kp im fo tr tn bi ss nu → o + 76 ≤ n' → ca' ≤ ca + 3 → sl' ≤ sl + 105 → Z κ G 4 1502 [(3, .int (nI i)), (2, .ref (o + 62)), (1, .ref o), (0, .ref b)] [] h' n' ca' sl') : Z κ G 4 1212 [(3, .int (nI i)), (2, .ref (o + 62)), (1, .ref o), (0, .ref b)] [] h n ca sl := by
  refine z_aload_n X 2 dL_law_1212 rfl ?_
  refine z_aload_n X 3 dL_law_1213 rfl ?_
  refine z_iload_n X 0 dL_law_1214 rfl ?_
  refine z_iconst (v := 1) X dL_law_1215 (by decide) ?_
  refine z_iadd X dL_law_1216 ?_
  refine z_toe (y := nI (i + 1)) (nI_add (i) (1)) ?_
  refine z_sld (v := xs (i + 1)) X hs dL_law_1217 (vp_in_nI (n := i + 1) (by omega) (by omega)) (congrArg xs (nI_clamp (by omega))) ?_
  refine z_aload_n X 3 dL_law_1218 rfl ?_
  refine z_iload_n X 0 dL_law_1219 rfl ?_
  refine z_iconst (v := 2) X dL_law_1220 (by decide) ?_
  refine z_iadd X dL_law_1221 ?_
  refine z_toe (y := nI (i + 2)) (nI_add (i) (2)) ?_
  refine z_sld (v := xs (i + 2)) X hs dL_law_1222 (vp_in_nI (n := i + 2) (by omega) (by omega)) (congrArg xs (nI_clamp (by omega))) ?_
  refine z_aload_n X 3 dL_law_1223 rfl ?_
  refine z_iload_n X 0 dL_law_1224 rfl ?_
  refine z_iconst (v := 3) X dL_law_1225 (by decide) ?_
  refine z_iadd X dL_law_1226 ?_
  refine z_toe (y := nI (i + 3)) (nI_add (i) (3)) ?_
  refine z_sld (v := xs (i + 3)) X hs dL_law_1227 (vp_in_nI (n := i + 3) (by omega) (by omega)) (congrArg xs (nI_clamp (by omega))) ?_
  refine z_callV X (k_sheet (l := gL G) (n := n) (s := xs (i + 1)) (w := xs (i + 2)) (j := xs (i + 3)) HC) mk_X11_sheet dL_law_1228 wd_860 wd_861 wd_862 rfl HC.1 rfl rfl rfl (Nat.le_of_ble_eq_true rfl) (by omega) (Nat.le_of_ble_eq_true rfl) (by omega) (by omega) (fun q h1 n1 hp => ?_)
  obtain ⟨rfl, hn1, HC1, hf1⟩ := hp
  refine z_st (st' := [.int _]) rfl ?_
  have HR1 := HR.same (h1 := h1) (fun zq z1 z2 => hf1 zq (by omega) (by omega))
  obtain ⟨zfs, hr0⟩ := RI.obj HR1
  refine z_aload_n X 1 dL_law_1231 rfl ?_
  refine z_aload_n X 3 dL_law_1232 rfl ?_
  refine z_iload_n X 0 dL_law_1233 rfl ?_
  refine z_iconst (v := 1) X dL_law_1234 (by decide) ?_
  refine z_iadd X dL_law_1235 ?_
  refine z_toe (y := nI (i + 1)) (nI_add (i) (1)) ?_
  refine z_sld (v := xs (i + 1)) X hs dL_law_1236 (vp_in_nI (n := i + 1) (by omega) (by omega)) (congrArg xs (nI_clamp (by omega))) ?_
  refine z_aload_n X 3 dL_law_1237 rfl ?_
  refine z_iload_n X 0 dL_law_1238 rfl ?_
  refine z_iconst (v := 2) X dL_law_1239 (by decide) ?_
  refine z_iadd X dL_law_1240 ?_
  refine z_toe (y := nI (i + 2)) (nI_add (i) (2)) ?_
  refine z_sld (v := xs (i + 2)) X hs dL_law_1241 (vp_in_nI (n := i + 2) (by omega) (by omega)) (congrArg xs (nI_clamp (by omega))) ?_
  refine z_aload_n X 3 dL_law_1242 rfl ?_
  refine z_iload_n X 0 dL_law_1243 rfl ?_
  refine z_iconst (v := 3) X dL_law_1244 (by decide) ?_
  refine z_iadd X dL_law_1245 ?_
  refine z_toe (y := nI (i + 3)) (nI_add (i) (3)) ?_
  refine z_sld (v := xs (i + 3)) X hs dL_law_1246 (vp_in_nI (n := i + 3) (by omega) (by omega)) (congrArg xs (nI_clamp (by omega))) ?_
  refine z_callV X (q_sheet (l := gL G) (n := n1) (s := xs (i + 1)) (w := xs (i + 2)) (j := xs (i + 3)) HR1 HC.wd HC1.ss) mk_X12_sheet dL_law_1247 wd_1330 wd_1331 wd_1332 rfl hr0 rfl rfl rfl (Nat.le_of_ble_eq_true rfl) (by omega) (Nat.le_of_ble_eq_true rfl) (by omega) (by omega) (fun q h2 n2 hp => ?_)
  obtain ⟨rfl, hn2, HR2, hf2⟩ := hp
  refine z_st (st' := [.int _, .int _]) rfl ?_
  have HC2 := HC1.same (h1 := h2) (fun zq hq => hf2 zq (by omega))
  exact z_icmp_eq X 1502 dL_law_1250 (by decide) (fun _ => hb _ _ _ _ _ _ _ _ _ _ _ _ _ HC2 HR2 (by omega) (by omega) (by omega)) (fun hne => absurd rfl hne)
theorem law_put {κ : Wc} {G : Gm} {b L : Nat} {xs : Nat → Int32} {o i n ca sl : Nat} {h : Mm} {d : Nat → Int32} {kp : Nat → Int32} {im : Int32} {fo : Nat → Int32} {tr : Nat → Int32} {tn : Nat} {bi : Nat → Int32} {ss : Nat → Nat} {nu : Nat → Int32} (X : Ok κ G cL_law 4 yL_law.cls 60 600000 7302250) (hs : Scr κ G b L xs) (hi : i + 6 ≤ L) (hL : L ≤ 3072) (HC : CI κ o h d kp im fo tr tn bi ss nu) (HR : RI κ (o + 62) h d kp im fo tr tn bi ss nu) (hzn : o + 76 ≤ n) (hca : ca + 3 ≤ 600000) (hsl : sl + 105 ≤ 7302250) (hb : ∀ (h' : Mm) (n' ca' sl' : Nat) (d : Nat → Int32) (kp : Nat → Int32) (im : Int32) (fo : Nat → Int32) (tr : Nat → Int32) (tn : Nat) (bi : Nat → Int32) (ss : Nat → Nat) (nu : Nat → Int32), CI κ o h' d kp im fo tr tn bi ss nu → RI κ (o + 62) h' d kp im fo tr tn bi ss nu → o + 76 ≤ n' → ca' ≤ ca + 3 → sl' ≤ sl + 105 → Z κ G 4 1502 [(3, .int (nI i)), (2, .ref (o + 62)), (1, .ref o), (0, .ref b)] [] h' n' ca' sl') : Z κ G 4 1255 [(3, .int (nI i)), (2, .ref (o + 62)), (1, .ref o), (0, .ref b)] [] h n ca sl := by
  refine z_aload_n X 2 dL_law_1255 rfl ?_
  refine z_aload_n X 3 dL_law_1256 rfl ?_
  refine z_iload_n X 0 dL_law_1257 rfl ?_
  refine z_iconst (v := 1) X dL_law_1258 (by decide) ?_
  refine z_iadd X dL_law_1259 ?_
  refine z_toe (y := nI (i + 1)) (nI_add (i) (1)) ?_
  refine z_sld (v := xs (i + 1)) X hs dL_law_1260 (vp_in_nI (n := i + 1) (by omega) (by omega)) (congrArg xs (nI_clamp (by omega))) ?_
  refine z_aload_n X 3 dL_law_1261 rfl ?_
  refine z_iload_n X 0 dL_law_1262 rfl ?_
  refine z_iconst (v := 2) X dL_law_1263 (by decide) ?_
  refine z_iadd X dL_law_1264 ?_
  refine z_toe (y := nI (i + 2)) (nI_add (i) (2)) ?_
  refine z_sld (v := xs (i + 2)) X hs dL_law_1265 (vp_in_nI (n := i + 2) (by omega) (by omega)) (congrArg xs (nI_clamp (by omega))) ?_
  refine z_aload_n X 3 dL_law_1266 rfl ?_
  refine z_iload_n X 0 dL_law_1267 rfl ?_
  refine z_iconst (v := 3) X dL_law_1268 (by decide) ?_
  refine z_iadd X dL_law_1269 ?_
  refine z_toe (y := nI (i + 3)) (nI_add (i) (3)) ?_
  refine z_sld (v := xs (i + 3)) X hs dL_law_1270 (vp_in_nI (n := i + 3) (by omega) (by omega)) (congrArg xs (nI_clamp (by omega))) ?_
  refine z_callV X (k_put (l := gL G) (n := n) (s := xs (i + 1)) (i := xs (i + 2)) (v := xs (i + 3)) HC) mk_X11_put dL_law_1271 wd_874 wd_875 wd_876 rfl HC.1 rfl rfl rfl (Nat.le_of_ble_eq_true rfl) (by omega) (Nat.le_of_ble_eq_true rfl) (by omega) (by omega) (fun q h1 n1 hp => ?_)
  obtain ⟨rfl, hn1, HC1, hf1⟩ := hp
  refine z_st (st' := [.int _]) rfl ?_
  have HR1 := HR.same (h1 := h1) (fun zq z1 z2 => hf1 zq (by omega) (by omega))
  obtain ⟨zfs, hr0⟩ := RI.obj HR1
  refine z_aload_n X 1 dL_law_1274 rfl ?_
  refine z_aload_n X 3 dL_law_1275 rfl ?_
  refine z_iload_n X 0 dL_law_1276 rfl ?_
  refine z_iconst (v := 1) X dL_law_1277 (by decide) ?_
  refine z_iadd X dL_law_1278 ?_
  refine z_toe (y := nI (i + 1)) (nI_add (i) (1)) ?_
  refine z_sld (v := xs (i + 1)) X hs dL_law_1279 (vp_in_nI (n := i + 1) (by omega) (by omega)) (congrArg xs (nI_clamp (by omega))) ?_
  refine z_aload_n X 3 dL_law_1280 rfl ?_
  refine z_iload_n X 0 dL_law_1281 rfl ?_
  refine z_iconst (v := 2) X dL_law_1282 (by decide) ?_
  refine z_iadd X dL_law_1283 ?_
  refine z_toe (y := nI (i + 2)) (nI_add (i) (2)) ?_
  refine z_sld (v := xs (i + 2)) X hs dL_law_1284 (vp_in_nI (n := i + 2) (by omega) (by omega)) (congrArg xs (nI_clamp (by omega))) ?_
  refine z_aload_n X 3 dL_law_1285 rfl ?_
  refine z_iload_n X 0 dL_law_1286 rfl ?_
  refine z_iconst (v := 3) X dL_law_1287 (by decide) ?_
  refine z_iadd X dL_law_1288 ?_
  refine z_toe (y := nI (i + 3)) (nI_add (i) (3)) ?_
  refine z_sld (v := xs (i + 3)) X hs dL_law_1289 (vp_in_nI (n := i + 3) (by omega) (by omega)) (congrArg xs (nI_clamp (by omega))) ?_
  refine z_callV X (q_put (l := gL G) (n := n1) (s := xs (i + 1)) (i := xs (i + 2)) (v := xs (i + 3)) HR1 HC.wd) mk_X12_put dL_law_1290 wd_1334 wd_1335 wd_1336 rfl hr0 rfl rfl rfl (Nat.le_of_ble_eq_true rfl) (by omega) (Nat.le_of_ble_eq_true rfl) (by omega) (by omega) (fun q h2 n2 hp => ?_)
  obtain ⟨rfl, hn2, HR2, hf2⟩ := hp
  refine z_st (st' := [.int _, .int _]) rfl ?_
  have HC2 := HC1.same (h1 := h2) (fun zq hq => hf2 zq (by omega))
  exact z_icmp_eq X 1502 dL_law_1293 (by decide) (fun _ => hb _ _ _ _ _ _ _ _ _ _ _ _ _ HC2 HR2 (by omega) (by omega) (by omega)) (fun hne => absurd rfl hne)
theorem law_move {κ : Wc} {G : Gm} {b L : Nat} {xs : Nat → Int32} {o i n ca sl : Nat} {h : Mm} {d : Nat → Int32} {kp : Nat → Int32} {im : Int32} {fo : Nat → Int32} {tr : Nat → Int32} {tn : Nat} {bi : Nat → Int32} {ss : Nat → Nat} {nu : Nat → Int32} (X : Ok κ G cL_law 4 yL_law.cls 60 600000 7302250) (hs : Scr κ G b L xs) (hi : i + 6 ≤ L) (hL : L ≤ 3072) (HC : CI κ o h d kp im fo tr tn bi ss nu) (HR : RI κ (o + 62) h d kp im fo tr tn bi ss nu) (hzn : o + 76 ≤ n) (hca : ca + 3 ≤ 600000) (hsl : sl + 105 ≤ 7302250) (hb : ∀ (h' : Mm) (n' ca' sl' : Nat) (d : Nat → Int32) (kp : Nat → Int32) (im : Int32) (fo : Nat → Int32) (tr : Nat → Int32) (tn : Nat) (bi : Nat → Int32) (ss : Nat → Nat) (nu : Nat → Int32), CI κ o h' d kp im fo tr tn bi ss nu → RI κ (o + 62) h' d kp im fo tr tn bi ss nu → o + 76 ≤ n' → ca' ≤ ca + 3 → sl' ≤ sl + 105 → Z κ G 4 1502 [(3, .int (nI i)), (2, .ref (o + 62)), (1, .ref o), (0, .ref b)] [] h' n' ca' sl') : Z κ G 4 1298 [(3, .int (nI i)), (2, .ref (o + 62)), (1, .ref o), (0, .ref b)] [] h n ca sl := by
  refine z_aload_n X 2 dL_law_1298 rfl ?_
  refine z_aload_n X 3 dL_law_1299 rfl ?_
  refine z_iload_n X 0 dL_law_1300 rfl ?_
  refine z_iconst (v := 1) X dL_law_1301 (by decide) ?_
  refine z_iadd X dL_law_1302 ?_
  refine z_toe (y := nI (i + 1)) (nI_add (i) (1)) ?_
  refine z_sld (v := xs (i + 1)) X hs dL_law_1303 (vp_in_nI (n := i + 1) (by omega) (by omega)) (congrArg xs (nI_clamp (by omega))) ?_
  refine z_aload_n X 3 dL_law_1304 rfl ?_
  refine z_iload_n X 0 dL_law_1305 rfl ?_
  refine z_iconst (v := 2) X dL_law_1306 (by decide) ?_
  refine z_iadd X dL_law_1307 ?_
  refine z_toe (y := nI (i + 2)) (nI_add (i) (2)) ?_
  refine z_sld (v := xs (i + 2)) X hs dL_law_1308 (vp_in_nI (n := i + 2) (by omega) (by omega)) (congrArg xs (nI_clamp (by omega))) ?_
  refine z_aload_n X 3 dL_law_1309 rfl ?_
  refine z_iload_n X 0 dL_law_1310 rfl ?_
  refine z_iconst (v := 3) X dL_law_1311 (by decide) ?_
  refine z_iadd X dL_law_1312 ?_
  refine z_toe (y := nI (i + 3)) (nI_add (i) (3)) ?_
  refine z_sld (v := xs (i + 3)) X hs dL_law_1313 (vp_in_nI (n := i + 3) (by omega) (by omega)) (congrArg xs (nI_clamp (by omega))) ?_
  refine z_aload_n X 3 dL_law_1314 rfl ?_
  refine z_iload_n X 0 dL_law_1315 rfl ?_
  refine z_iconst (v := 4) X dL_law_1316 (by decide) ?_
  refine z_iadd X dL_law_1317 ?_
  refine z_toe (y := nI (i + 4)) (nI_add (i) (4)) ?_
  refine z_sld (v := xs (i + 4)) X hs dL_law_1318 (vp_in_nI (n := i + 4) (by omega) (by omega)) (congrArg xs (nI_clamp (by omega))) ?_
  refine z_aload_n X 3 dL_law_1319 rfl ?_
  refine z_iload_n X 0 dL_law_1320 rfl ?_
  refine z_iconst (v := 5) X dL_law_1321 (by decide) ?_
  refine z_iadd X dL_law_1322 ?_
  refine z_toe (y := nI (i + 5)) (nI_add (i) (5)) ?_
  refine z_sld (v := xs (i + 5)) X hs dL_law_1323 (vp_in_nI (n := i + 5) (by omega) (by omega)) (congrArg xs (nI_clamp (by omega))) ?_
  refine z_callV X (k_move (l := gL G) (n := n) (s := xs (i + 1)) (i := xs (i + 2)) (t := xs (i + 3)) (j := xs (i + 4)) (v := xs (i + 5)) HC) mk_X11_move dL_law_1324 wd_882 wd_883 wd_884 rfl HC.1 rfl rfl rfl (Nat.le_of_ble_eq_true rfl) (by omega) (Nat.le_of_ble_eq_true rfl) (by omega) (by omega) (fun q h1 n1 hp => ?_)
  obtain ⟨rfl, hn1, HC1, hf1⟩ := hp
  refine z_st (st' := [.int _]) rfl ?_
  have HR1 := HR.same (h1 := h1) (fun zq z1 z2 => hf1 zq (by omega) (by omega))
  obtain ⟨zfs, hr0⟩ := RI.obj HR1
  refine z_aload_n X 1 dL_law_1327 rfl ?_
  refine z_aload_n X 3 dL_law_1328 rfl ?_
  refine z_iload_n X 0 dL_law_1329 rfl ?_
  refine z_iconst (v := 1) X dL_law_1330 (by decide) ?_
  refine z_iadd X dL_law_1331 ?_
  refine z_toe (y := nI (i + 1)) (nI_add (i) (1)) ?_
  refine z_sld (v := xs (i + 1)) X hs dL_law_1332 (vp_in_nI (n := i + 1) (by omega) (by omega)) (congrArg xs (nI_clamp (by omega))) ?_
  refine z_aload_n X 3 dL_law_1333 rfl ?_
  refine z_iload_n X 0 dL_law_1334 rfl ?_
  refine z_iconst (v := 2) X dL_law_1335 (by decide) ?_
  refine z_iadd X dL_law_1336 ?_
  refine z_toe (y := nI (i + 2)) (nI_add (i) (2)) ?_
  refine z_sld (v := xs (i + 2)) X hs dL_law_1337 (vp_in_nI (n := i + 2) (by omega) (by omega)) (congrArg xs (nI_clamp (by omega))) ?_
  refine z_aload_n X 3 dL_law_1338 rfl ?_
  refine z_iload_n X 0 dL_law_1339 rfl ?_
  refine z_iconst (v := 3) X dL_law_1340 (by decide) ?_
  refine z_iadd X dL_law_1341 ?_
  refine z_toe (y := nI (i + 3)) (nI_add (i) (3)) ?_
  refine z_sld (v := xs (i + 3)) X hs dL_law_1342 (vp_in_nI (n := i + 3) (by omega) (by omega)) (congrArg xs (nI_clamp (by omega))) ?_
  refine z_aload_n X 3 dL_law_1343 rfl ?_
  refine z_iload_n X 0 dL_law_1344 rfl ?_
  refine z_iconst (v := 4) X dL_law_1345 (by decide) ?_
  refine z_iadd X dL_law_1346 ?_
  refine z_toe (y := nI (i + 4)) (nI_add (i) (4)) ?_
  refine z_sld (v := xs (i + 4)) X hs dL_law_1347 (vp_in_nI (n := i + 4) (by omega) (by omega)) (congrArg xs (nI_clamp (by omega))) ?_
  refine z_aload_n X 3 dL_law_1348 rfl ?_
  refine z_iload_n X 0 dL_law_1349 rfl ?_
  refine z_iconst (v := 5) X dL_law_1350 (by decide) ?_
  refine z_iadd X dL_law_1351 ?_
  refine z_toe (y := nI (i + 5)) (nI_add (i) (5)) ?_
  refine z_sld (v := xs (i + 5)) X hs dL_law_1352 (vp_in_nI (n := i + 5) (by omega) (by omega)) (congrArg xs (nI_clamp (by omega))) ?_
  refine z_callV X (q_move (l := gL G) (n := n1) (s := xs (i + 1)) (i := xs (i + 2)) (t := xs (i + 3)) (j := xs (i + 4)) (v := xs (i + 5)) HR1 HC.wd) mk_X12_move dL_law_1353 wd_1338 wd_1339 wd_1340 rfl hr0 rfl rfl rfl (Nat.le_of_ble_eq_true rfl) (by omega) (Nat.le_of_ble_eq_true rfl) (by omega) (by omega) (fun q h2 n2 hp => ?_)
  obtain ⟨rfl, hn2, HR2, hf2⟩ := hp
  refine z_st (st' := [.int _, .int _]) rfl ?_
  have HC2 := HC1.same (h1 := h2) (fun zq hq => hf2 zq (by omega))
  exact z_icmp_eq X 1502 dL_law_1356 (by decide) (fun _ => hb _ _ _ _ _ _ _ _ _ _ _ _ _ HC2 HR2 (by omega) (by omega) (by omega)) (fun hne => absurd rfl hne)
theorem law_draw {κ : Wc} {G : Gm} {b L : Nat} {xs : Nat → Int32} {o i n ca sl : Nat} {h : Mm} {d : Nat → Int32} {kp : Nat → Int32} {im : Int32} {fo : Nat → Int32} {tr : Nat → Int32} {tn : Nat} {bi : Nat → Int32} {ss : Nat → Nat} {nu : Nat → Int32} (X : Ok κ G cL_law 4 yL_law.cls 60 600000 7302250) (hs : Scr κ G b L xs) (hi : i + 6 ≤ L) (hL : L ≤ 3072) (HC : CI κ o h d kp im fo tr tn bi ss nu) (HR : RI κ (o + 62) h d kp im fo tr tn bi ss nu) (hzn : o + 76 ≤ n) (hca : ca + 3 ≤ 600000) (hsl : sl + 105 ≤ 7302250) (hb : ∀ (h' : Mm) (n' ca' sl' : Nat) (d : Nat → Int32) (kp : Nat → Int32) (im : Int32) (fo : Nat → Int32) (tr : Nat → Int32) (tn : Nat) (bi : Nat → Int32) (ss : Nat → Nat) (nu : Nat → Int32), CI κ o h' d kp im fo tr tn bi ss nu → RI κ (o + 62) h' d kp im fo tr tn bi ss nu → o + 76 ≤ n' → ca' ≤ ca + 3 → sl' ≤ sl + 105 → Z κ G 4 1502 [(3, .int (nI i)), (2, .ref (o + 62)), (1, .ref o), (0, .ref b)] [] h' n' ca' sl') : Z κ G 4 1361 [(3, .int (nI i)), (2, .ref (o + 62)), (1, .ref o), (0, .ref b)] [] h n ca sl := by
  refine z_aload_n X 2 dL_law_1361 rfl ?_
  refine z_aload_n X 3 dL_law_1362 rfl ?_
  refine z_iload_n X 0 dL_law_1363 rfl ?_
  refine z_iconst (v := 1) X dL_law_1364 (by decide) ?_
  refine z_iadd X dL_law_1365 ?_
  refine z_toe (y := nI (i + 1)) (nI_add (i) (1)) ?_
  refine z_sld (v := xs (i + 1)) X hs dL_law_1366 (vp_in_nI (n := i + 1) (by omega) (by omega)) (congrArg xs (nI_clamp (by omega))) ?_
  refine z_callV X (k_draw (l := gL G) (n := n) (s := xs (i + 1)) HC) mk_X11_draw dL_law_1367 wd_891 wd_892 wd_893 rfl HC.1 rfl rfl rfl (Nat.le_of_ble_eq_true rfl) (by omega) (Nat.le_of_ble_eq_true rfl) (by omega) (by omega) (fun q h1 n1 hp => ?_)
  obtain ⟨rfl, hn1, HC1, hf1⟩ := hp
  refine z_st (st' := [.int _]) rfl ?_
  have HR1 := HR.same (h1 := h1) (fun zq z1 z2 => hf1 zq (by omega) (by omega))
  obtain ⟨zfs, hr0⟩ := RI.obj HR1
  refine z_aload_n X 1 dL_law_1370 rfl ?_
  refine z_aload_n X 3 dL_law_1371 rfl ?_
  refine z_iload_n X 0 dL_law_1372 rfl ?_
  refine z_iconst (v := 1) X dL_law_1373 (by decide) ?_
  refine z_iadd X dL_law_1374 ?_
  refine z_toe (y := nI (i + 1)) (nI_add (i) (1)) ?_
  refine z_sld (v := xs (i + 1)) X hs dL_law_1375 (vp_in_nI (n := i + 1) (by omega) (by omega)) (congrArg xs (nI_clamp (by omega))) ?_
  refine z_callV X (q_draw (l := gL G) (n := n1) (s := xs (i + 1)) HR1 HC.wd) mk_X12_draw dL_law_1376 wd_1342 wd_1343 wd_1344 rfl hr0 rfl rfl rfl (Nat.le_of_ble_eq_true rfl) (by omega) (Nat.le_of_ble_eq_true rfl) (by omega) (by omega) (fun q h2 n2 hp => ?_)
  obtain ⟨rfl, hn2, HR2, hf2⟩ := hp
  refine z_st (st' := [.int _, .int _]) rfl ?_
  have HC2 := HC1.same (h1 := h2) (fun zq hq => hf2 zq (by omega))
  exact z_icmp_eq X 1502 dL_law_1379 (by decide) (fun _ => hb _ _ _ _ _ _ _ _ _ _ _ _ _ HC2 HR2 (by omega) (by omega) (by omega)) (fun hne => absurd rfl hne)
theorem law_image {κ : Wc} {G : Gm} {b L : Nat} {xs : Nat → Int32} {o i n ca sl : Nat} {h : Mm} {d : Nat → Int32} {kp : Nat → Int32} {im : Int32} {fo : Nat → Int32} {tr : Nat → Int32} {tn : Nat} {bi : Nat → Int32} {ss : Nat → Nat} {nu : Nat → Int32} (X : Ok κ G cL_law 4 yL_law.cls 60 600000 7302250) (hs : Scr κ G b L xs) (hi : i + 6 ≤ L) (hL : L ≤ 3072) (HC : CI κ o h d kp im fo tr tn bi ss nu) (HR : RI κ (o + 62) h d kp im fo tr tn bi ss nu) (hzn : o + 76 ≤ n) (hca : ca + 3 ≤ 600000) (hsl : sl + 105 ≤ 7302250) (hb : ∀ (h' : Mm) (n' ca' sl' : Nat) (d : Nat → Int32) (kp : Nat → Int32) (im : Int32) (fo : Nat → Int32) (tr : Nat → Int32) (tn : Nat) (bi : Nat → Int32) (ss : Nat → Nat) (nu : Nat → Int32), CI κ o h' d kp im fo tr tn bi ss nu → RI κ (o + 62) h' d kp im fo tr tn bi ss nu → o + 76 ≤ n' → ca' ≤ ca + 3 → sl' ≤ sl + 105 → Z κ G 4 1502 [(3, .int (nI i)), (2, .ref (o + 62)), (1, .ref o), (0, .ref b)] [] h' n' ca' sl') : Z κ G 4 1384 [(3, .int (nI i)), (2, .ref (o + 62)), (1, .ref o), (0, .ref b)] [] h n ca sl := by
  refine z_aload_n X 2 dL_law_1384 rfl ?_
  refine z_callV X (k_image (l := gL G) (n := n)  HC) mk_X11_image dL_law_1385 wd_895 wd_896 wd_897 rfl HC.1 rfl rfl rfl (Nat.le_of_ble_eq_true rfl) (by omega) (Nat.le_of_ble_eq_true rfl) (by omega) (by omega) (fun q h1 n1 hp => ?_)
  obtain ⟨rfl, hn1, HC1, hf1⟩ := hp
  refine z_st (st' := [.int _]) rfl ?_
  have HR1 := HR.same (h1 := h1) (fun zq z1 z2 => hf1 zq (by omega) (by omega))
  obtain ⟨zfs, hr0⟩ := RI.obj HR1
  refine z_aload_n X 1 dL_law_1388 rfl ?_
  refine z_callV X (q_image (l := gL G) (n := n1)  HR1 HC.wd) mk_X12_image dL_law_1389 wd_1346 wd_1347 wd_1348 rfl hr0 rfl rfl rfl (Nat.le_of_ble_eq_true rfl) (by omega) (Nat.le_of_ble_eq_true rfl) (by omega) (by omega) (fun q h2 n2 hp => ?_)
  obtain ⟨rfl, hn2, HR2, hf2⟩ := hp
  refine z_st (st' := [.int _, .int _]) rfl ?_
  have HC2 := HC1.same (h1 := h2) (fun zq hq => hf2 zq (by omega))
  exact z_icmp_eq X 1502 dL_law_1392 (by decide) (fun _ => hb _ _ _ _ _ _ _ _ _ _ _ _ _ HC2 HR2 (by omega) (by omega) (by omega)) (fun hne => absurd rfl hne)
theorem law_restore {κ : Wc} {G : Gm} {b L : Nat} {xs : Nat → Int32} {o i n ca sl : Nat} {h : Mm} {d : Nat → Int32} {kp : Nat → Int32} {im : Int32} {fo : Nat → Int32} {tr : Nat → Int32} {tn : Nat} {bi : Nat → Int32} {ss : Nat → Nat} {nu : Nat → Int32} (X : Ok κ G cL_law 4 yL_law.cls 60 600000 7302250) (hs : Scr κ G b L xs) (hi : i + 6 ≤ L) (hL : L ≤ 3072) (HC : CI κ o h d kp im fo tr tn bi ss nu) (HR : RI κ (o + 62) h d kp im fo tr tn bi ss nu) (hzn : o + 76 ≤ n) (hca : ca + 3 ≤ 600000) (hsl : sl + 105 ≤ 7302250) (hb : ∀ (h' : Mm) (n' ca' sl' : Nat) (d : Nat → Int32) (kp : Nat → Int32) (im : Int32) (fo : Nat → Int32) (tr : Nat → Int32) (tn : Nat) (bi : Nat → Int32) (ss : Nat → Nat) (nu : Nat → Int32), CI κ o h' d kp im fo tr tn bi ss nu → RI κ (o + 62) h' d kp im fo tr tn bi ss nu → o + 76 ≤ n' → ca' ≤ ca + 3 → sl' ≤ sl + 105 → Z κ G 4 1502 [(3, .int (nI i)), (2, .ref (o + 62)), (1, .ref o), (0, .ref b)] [] h' n' ca' sl') : Z κ G 4 1397 [(3, .int (nI i)), (2, .ref (o + 62)), (1, .ref o), (0, .ref b)] [] h n ca sl := by
  refine z_aload_n X 2 dL_law_1397 rfl ?_
  refine z_callV X (k_restore (l := gL G) (n := n)  HC) mk_X11_restore dL_law_1398 wd_909 wd_910 wd_911 rfl HC.1 rfl rfl rfl (Nat.le_of_ble_eq_true rfl) (by omega) (Nat.le_of_ble_eq_true rfl) (by omega) (by omega) (fun q h1 n1 hp => ?_)
  obtain ⟨rfl, hn1, HC1, hf1⟩ := hp
  refine z_st (st' := [.int _]) rfl ?_
  have HR1 := HR.same (h1 := h1) (fun zq z1 z2 => hf1 zq (by omega) (by omega))
  obtain ⟨zfs, hr0⟩ := RI.obj HR1
  refine z_aload_n X 1 dL_law_1401 rfl ?_
  refine z_callV X (q_restore (l := gL G) (n := n1)  HR1 HC.wd) mk_X12_restore dL_law_1402 wd_1350 wd_1351 wd_1352 rfl hr0 rfl rfl rfl (Nat.le_of_ble_eq_true rfl) (by omega) (Nat.le_of_ble_eq_true rfl) (by omega) (by omega) (fun q h2 n2 hp => ?_)
  obtain ⟨rfl, hn2, HR2, hf2⟩ := hp
  refine z_st (st' := [.int _, .int _]) rfl ?_
  have HC2 := HC1.same (h1 := h2) (fun zq hq => hf2 zq (by omega))
  exact z_icmp_eq X 1502 dL_law_1405 (by decide) (fun _ => hb _ _ _ _ _ _ _ _ _ _ _ _ _ HC2 HR2 (by omega) (by omega) (by omega)) (fun hne => absurd rfl hne)
theorem law_tell {κ : Wc} {G : Gm} {b L : Nat} {xs : Nat → Int32} {o i n ca sl : Nat} {h : Mm} {d : Nat → Int32} {kp : Nat → Int32} {im : Int32} {fo : Nat → Int32} {tr : Nat → Int32} {tn : Nat} {bi : Nat → Int32} {ss : Nat → Nat} {nu : Nat → Int32} (X : Ok κ G cL_law 4 yL_law.cls 60 600000 7302250) (hs : Scr κ G b L xs) (hi : i + 6 ≤ L) (hL : L ≤ 3072) (HC : CI κ o h d kp im fo tr tn bi ss nu) (HR : RI κ (o + 62) h d kp im fo tr tn bi ss nu) (hzn : o + 76 ≤ n) (hca : ca + 3 ≤ 600000) (hsl : sl + 105 ≤ 7302250) (hb : ∀ (h' : Mm) (n' ca' sl' : Nat) (d : Nat → Int32) (kp : Nat → Int32) (im : Int32) (fo : Nat → Int32) (tr : Nat → Int32) (tn : Nat) (bi : Nat → Int32) (ss : Nat → Nat) (nu : Nat → Int32), CI κ o h' d kp im fo tr tn bi ss nu → RI κ (o + 62) h' d kp im fo tr tn bi ss nu → o + 76 ≤ n' → ca' ≤ ca + 3 → sl' ≤ sl + 105 → Z κ G 4 1502 [(3, .int (nI i)), (2, .ref (o + 62)), (1, .ref o), (0, .ref b)] [] h' n' ca' sl') : Z κ G 4 1410 [(3, .int (nI i)), (2, .ref (o + 62)), (1, .ref o), (0, .ref b)] [] h n ca sl := by
  refine z_aload_n X 2 dL_law_1410 rfl ?_
  refine z_aload_n X 3 dL_law_1411 rfl ?_
  refine z_iload_n X 0 dL_law_1412 rfl ?_
  refine z_iconst (v := 1) X dL_law_1413 (by decide) ?_
  refine z_iadd X dL_law_1414 ?_
  refine z_toe (y := nI (i + 1)) (nI_add (i) (1)) ?_
  refine z_sld (v := xs (i + 1)) X hs dL_law_1415 (vp_in_nI (n := i + 1) (by omega) (by omega)) (congrArg xs (nI_clamp (by omega))) ?_
  refine z_callV X (k_tell (l := gL G) (n := n) (v := xs (i + 1)) HC) mk_X11_tell dL_law_1416 wd_913 wd_914 wd_915 rfl HC.1 rfl rfl rfl (Nat.le_of_ble_eq_true rfl) (by omega) (Nat.le_of_ble_eq_true rfl) (by omega) (by omega) (fun q h1 n1 hp => ?_)
  obtain ⟨rfl, hn1, HC1, hf1⟩ := hp
  refine z_st (st' := [.int _]) rfl ?_
  have HR1 := HR.same (h1 := h1) (fun zq z1 z2 => hf1 zq (by omega) (by omega))
  obtain ⟨zfs, hr0⟩ := RI.obj HR1
  refine z_aload_n X 1 dL_law_1419 rfl ?_
  refine z_aload_n X 3 dL_law_1420 rfl ?_
  refine z_iload_n X 0 dL_law_1421 rfl ?_
  refine z_iconst (v := 1) X dL_law_1422 (by decide) ?_
  refine z_iadd X dL_law_1423 ?_
  refine z_toe (y := nI (i + 1)) (nI_add (i) (1)) ?_
  refine z_sld (v := xs (i + 1)) X hs dL_law_1424 (vp_in_nI (n := i + 1) (by omega) (by omega)) (congrArg xs (nI_clamp (by omega))) ?_
  refine z_callV X (q_tell (l := gL G) (n := n1) (v := xs (i + 1)) HR1 HC.wd) mk_X12_tell dL_law_1425 wd_1354 wd_1355 wd_1356 rfl hr0 rfl rfl rfl (Nat.le_of_ble_eq_true rfl) (by omega) (Nat.le_of_ble_eq_true rfl) (by omega) (by omega) (fun q h2 n2 hp => ?_)
  obtain ⟨rfl, hn2, HR2, hf2⟩ := hp
  refine z_st (st' := [.int _, .int _]) rfl ?_
  have HC2 := HC1.same (h1 := h2) (fun zq hq => hf2 zq (by omega))
  exact z_icmp_eq X 1502 dL_law_1428 (by decide) (fun _ => hb _ _ _ _ _ _ _ _ _ _ _ _ _ HC2 HR2 (by omega) (by omega) (by omega)) (fun hne => absurd rfl hne)
theorem law_check {κ : Wc} {G : Gm} {b L : Nat} {xs : Nat → Int32} {o i n ca sl : Nat} {h : Mm} {d : Nat → Int32} {kp : Nat → Int32} {im : Int32} {fo : Nat → Int32} {tr : Nat → Int32} {tn : Nat} {bi : Nat → Int32} {ss : Nat → Nat} {nu : Nat → Int32} (X : Ok κ G cL_law 4 yL_law.cls 60 600000 7302250) (hs : Scr κ G b L xs) (hi : i + 6 ≤ L) (hL : L ≤ 3072) (HC : CI κ o h d kp im fo tr tn bi ss nu) (HR : RI κ (o + 62) h d kp im fo tr tn bi ss nu) (hzn : o + 76 ≤ n) (hca : ca + 3 ≤ 600000) (hsl : sl + 105 ≤ 7302250) (hb : ∀ (h' : Mm) (n' ca' sl' : Nat) (d : Nat → Int32) (kp : Nat → Int32) (im : Int32) (fo : Nat → Int32) (tr : Nat → Int32) (tn : Nat) (bi : Nat → Int32) (ss : Nat → Nat) (nu : Nat → Int32), CI κ o h' d kp im fo tr tn bi ss nu → RI κ (o + 62) h' d kp im fo tr tn bi ss nu → o + 76 ≤ n' → ca' ≤ ca + 3 → sl' ≤ sl + 105 → Z κ G 4 1502 [(3, .int (nI i)), (2, .ref (o + 62)), (1, .ref o), (0, .ref b)] [] h' n' ca' sl') : Z κ G 4 1433 [(3, .int (nI i)), (2, .ref (o + 62)), (1, .ref o), (0, .ref b)] [] h n ca sl := by
  refine z_aload_n X 2 dL_law_1433 rfl ?_
  refine z_aload_n X 3 dL_law_1434 rfl ?_
  refine z_iload_n X 0 dL_law_1435 rfl ?_
  refine z_iconst (v := 1) X dL_law_1436 (by decide) ?_
  refine z_iadd X dL_law_1437 ?_
  refine z_toe (y := nI (i + 1)) (nI_add (i) (1)) ?_
  refine z_sld (v := xs (i + 1)) X hs dL_law_1438 (vp_in_nI (n := i + 1) (by omega) (by omega)) (congrArg xs (nI_clamp (by omega))) ?_
  refine z_callV X (k_check (l := gL G) (n := n) (v := xs (i + 1)) HC) mk_X11_check dL_law_1439 wd_917 wd_918 wd_919 rfl HC.1 rfl rfl rfl (Nat.le_of_ble_eq_true rfl) (by omega) (Nat.le_of_ble_eq_true rfl) (by omega) (by omega) (fun q h1 n1 hp => ?_)
  obtain ⟨rfl, hn1, HC1, hf1⟩ := hp
  refine z_st (st' := [.int _]) rfl ?_
  have HR1 := HR.same (h1 := h1) (fun zq z1 z2 => hf1 zq (by omega) (by omega))
  obtain ⟨zfs, hr0⟩ := RI.obj HR1
  refine z_aload_n X 1 dL_law_1442 rfl ?_
  refine z_aload_n X 3 dL_law_1443 rfl ?_
  refine z_iload_n X 0 dL_law_1444 rfl ?_
  refine z_iconst (v := 1) X dL_law_1445 (by decide) ?_
  refine z_iadd X dL_law_1446 ?_
  refine z_toe (y := nI (i + 1)) (nI_add (i) (1)) ?_
  refine z_sld (v := xs (i + 1)) X hs dL_law_1447 (vp_in_nI (n := i + 1) (by omega) (by omega)) (congrArg xs (nI_clamp (by omega))) ?_
  refine z_callV X (q_check (l := gL G) (n := n1) (v := xs (i + 1)) HR1 HC.wd) mk_X12_check dL_law_1448 wd_1358 wd_1359 wd_1360 rfl hr0 rfl rfl rfl (Nat.le_of_ble_eq_true rfl) (by omega) (Nat.le_of_ble_eq_true rfl) (by omega) (by omega) (fun q h2 n2 hp => ?_)
  obtain ⟨rfl, hn2, HR2, hf2⟩ := hp
  refine z_st (st' := [.int _, .int _]) rfl ?_
  have HC2 := HC1.same (h1 := h2) (fun zq hq => hf2 zq (by omega))
  exact z_icmp_eq X 1502 dL_law_1451 (by decide) (fun _ => hb _ _ _ _ _ _ _ _ _ _ _ _ _ HC2 HR2 (by omega) (by omega) (by omega)) (fun hne => absurd rfl hne)
theorem law_count {κ : Wc} {G : Gm} {b L : Nat} {xs : Nat → Int32} {o i n ca sl : Nat} {h : Mm} {d : Nat → Int32} {kp : Nat → Int32} {im : Int32} {fo : Nat → Int32} {tr : Nat → Int32} {tn : Nat} {bi : Nat → Int32} {ss : Nat → Nat} {nu : Nat → Int32} (X : Ok κ G cL_law 4 yL_law.cls 60 600000 7302250) (hs : Scr κ G b L xs) (hi : i + 6 ≤ L) (hL : L ≤ 3072) (HC : CI κ o h d kp im fo tr tn bi ss nu) (HR : RI κ (o + 62) h d kp im fo tr tn bi ss nu) (hzn : o + 76 ≤ n) (hca : ca + 3 ≤ 600000) (hsl : sl + 105 ≤ 7302250) (hb : ∀ (h' : Mm) (n' ca' sl' : Nat) (d : Nat → Int32) (kp : Nat → Int32) (im : Int32) (fo : Nat → Int32) (tr : Nat → Int32) (tn : Nat) (bi : Nat → Int32) (ss : Nat → Nat) (nu : Nat → Int32), CI κ o h' d kp im fo tr tn bi ss nu → RI κ (o + 62) h' d kp im fo tr tn bi ss nu → o + 76 ≤ n' → ca' ≤ ca + 3 → sl' ≤ sl + 105 → Z κ G 4 1502 [(3, .int (nI i)), (2, .ref (o + 62)), (1, .ref o), (0, .ref b)] [] h' n' ca' sl') : Z κ G 4 1456 [(3, .int (nI i)), (2, .ref (o + 62)), (1, .ref o), (0, .ref b)] [] h n ca sl := by
  refine z_aload_n X 2 dL_law_1456 rfl ?_
  refine z_aload_n X 3 dL_law_1457 rfl ?_
  refine z_iload_n X 0 dL_law_1458 rfl ?_
  refine z_iconst (v := 1) X dL_law_1459 (by decide) ?_
  refine z_iadd X dL_law_1460 ?_
  refine z_toe (y := nI (i + 1)) (nI_add (i) (1)) ?_
  refine z_sld (v := xs (i + 1)) X hs dL_law_1461 (vp_in_nI (n := i + 1) (by omega) (by omega)) (congrArg xs (nI_clamp (by omega))) ?_
  refine z_callV X (k_count (l := gL G) (n := n) (k := xs (i + 1)) HC) mk_X11_count dL_law_1462 wd_921 wd_922 wd_923 rfl HC.1 rfl rfl rfl (Nat.le_of_ble_eq_true rfl) (by omega) (Nat.le_of_ble_eq_true rfl) (by omega) (by omega) (fun q h1 n1 hp => ?_)
  obtain ⟨rfl, hn1, HC1, hf1⟩ := hp
  refine z_st (st' := [.int _]) rfl ?_
  have HR1 := HR.same (h1 := h1) (fun zq z1 z2 => hf1 zq (by omega) (by omega))
  obtain ⟨zfs, hr0⟩ := RI.obj HR1
  refine z_aload_n X 1 dL_law_1465 rfl ?_
  refine z_aload_n X 3 dL_law_1466 rfl ?_
  refine z_iload_n X 0 dL_law_1467 rfl ?_
  refine z_iconst (v := 1) X dL_law_1468 (by decide) ?_
  refine z_iadd X dL_law_1469 ?_
  refine z_toe (y := nI (i + 1)) (nI_add (i) (1)) ?_
  refine z_sld (v := xs (i + 1)) X hs dL_law_1470 (vp_in_nI (n := i + 1) (by omega) (by omega)) (congrArg xs (nI_clamp (by omega))) ?_
  refine z_callV X (q_count (l := gL G) (n := n1) (k := xs (i + 1)) HR1 HC.wd) mk_X12_count dL_law_1471 wd_1362 wd_1363 wd_1364 rfl hr0 rfl rfl rfl (Nat.le_of_ble_eq_true rfl) (by omega) (Nat.le_of_ble_eq_true rfl) (by omega) (by omega) (fun q h2 n2 hp => ?_)
  obtain ⟨rfl, hn2, HR2, hf2⟩ := hp
  refine z_st (st' := [.int _, .int _]) rfl ?_
  have HC2 := HC1.same (h1 := h2) (fun zq hq => hf2 zq (by omega))
  exact z_icmp_eq X 1502 dL_law_1474 (by decide) (fun _ => hb _ _ _ _ _ _ _ _ _ _ _ _ _ HC2 HR2 (by omega) (by omega) (by omega)) (fun hne => absurd rfl hne)
theorem law_told {κ : Wc} {G : Gm} {b L : Nat} {xs : Nat → Int32} {o i n ca sl : Nat} {h : Mm} {d : Nat → Int32} {kp : Nat → Int32} {im : Int32} {fo : Nat → Int32} {tr : Nat → Int32} {tn : Nat} {bi : Nat → Int32} {ss : Nat → Nat} {nu : Nat → Int32} (X : Ok κ G cL_law 4 yL_law.cls 60 600000 7302250) (hs : Scr κ G b L xs) (hi : i + 6 ≤ L) (hL : L ≤ 3072) (HC : CI κ o h d kp im fo tr tn bi ss nu) (HR : RI κ (o + 62) h d kp im fo tr tn bi ss nu) (hzn : o + 76 ≤ n) (hca : ca + 3 ≤ 600000) (hsl : sl + 105 ≤ 7302250) (hb : ∀ (h' : Mm) (n' ca' sl' : Nat) (d : Nat → Int32) (kp : Nat → Int32) (im : Int32) (fo : Nat → Int32) (tr : Nat → Int32) (tn : Nat) (bi : Nat → Int32) (ss : Nat → Nat) (nu : Nat → Int32), CI κ o h' d kp im fo tr tn bi ss nu → RI κ (o + 62) h' d kp im fo tr tn bi ss nu → o + 76 ≤ n' → ca' ≤ ca + 3 → sl' ≤ sl + 105 → Z κ G 4 1502 [(3, .int (nI i)), (2, .ref (o + 62)), (1, .ref o), (0, .ref b)] [] h' n' ca' sl') : Z κ G 4 1479 [(3, .int (nI i)), (2, .ref (o + 62)), (1, .ref o), (0, .ref b)] [] h n ca sl := by
  refine z_aload_n X 2 dL_law_1479 rfl ?_
  refine z_aload_n X 3 dL_law_1480 rfl ?_
  refine z_iload_n X 0 dL_law_1481 rfl ?_
  refine z_iconst (v := 1) X dL_law_1482 (by decide) ?_
  refine z_iadd X dL_law_1483 ?_
  refine z_toe (y := nI (i + 1)) (nI_add (i) (1)) ?_
  refine z_sld (v := xs (i + 1)) X hs dL_law_1484 (vp_in_nI (n := i + 1) (by omega) (by omega)) (congrArg xs (nI_clamp (by omega))) ?_
  refine z_callV X (k_told (l := gL G) (n := n) (k := xs (i + 1)) HC) mk_X11_told dL_law_1485 wd_925 wd_926 wd_927 rfl HC.1 rfl rfl rfl (Nat.le_of_ble_eq_true rfl) (by omega) (Nat.le_of_ble_eq_true rfl) (by omega) (by omega) (fun q h1 n1 hp => ?_)
  obtain ⟨rfl, hn1, HC1, hf1⟩ := hp
  refine z_st (st' := [.int _]) rfl ?_
  have HR1 := HR.same (h1 := h1) (fun zq z1 z2 => hf1 zq (by omega) (by omega))
  obtain ⟨zfs, hr0⟩ := RI.obj HR1
  refine z_aload_n X 1 dL_law_1488 rfl ?_
  refine z_aload_n X 3 dL_law_1489 rfl ?_
  refine z_iload_n X 0 dL_law_1490 rfl ?_
  refine z_iconst (v := 1) X dL_law_1491 (by decide) ?_
  refine z_iadd X dL_law_1492 ?_
  refine z_toe (y := nI (i + 1)) (nI_add (i) (1)) ?_
  refine z_sld (v := xs (i + 1)) X hs dL_law_1493 (vp_in_nI (n := i + 1) (by omega) (by omega)) (congrArg xs (nI_clamp (by omega))) ?_
  refine z_callV X (q_told (l := gL G) (n := n1) (k := xs (i + 1)) HR1 HC.wd) mk_X12_told dL_law_1494 wd_1366 wd_1367 wd_1368 rfl hr0 rfl rfl rfl (Nat.le_of_ble_eq_true rfl) (by omega) (Nat.le_of_ble_eq_true rfl) (by omega) (by omega) (fun q h2 n2 hp => ?_)
  obtain ⟨rfl, hn2, HR2, hf2⟩ := hp
  refine z_st (st' := [.int _, .int _]) rfl ?_
  have HC2 := HC1.same (h1 := h2) (fun zq hq => hf2 zq (by omega))
  exact z_icmp_eq X 1502 dL_law_1497 (by decide) (fun _ => hb _ _ _ _ _ _ _ _ _ _ _ _ _ HC2 HR2 (by omega) (by omega) (by omega)) (fun hne => absurd rfl hne)
