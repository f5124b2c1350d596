section ZR
variable {κ : Wc} {G : Gm} {cc : ByteArray} {nL d mc ms : Nat} {own : String} {pc : Nat} {ls : Lc} {st : List Value} {h : Mm} {n ca sl : Nat}
theorem z_iconst (X : Ok κ G cc nL own d mc ms) {i : Int} {v : Int32} (hd : decode cc pc = .ok (.iconst i, 1)) (hv : Int32.ofInt i = v) (k : Z κ G nL (pc + 1) ls (.int v :: st) h n ca sl) : Z κ G nL (pc) ls (st) h n ca sl := by
  obtain ⟨p, l, e, R, s, m, args, below, meth, c, Q⟩ := G
  obtain ⟨hx, hb, hml, hown, hts, hK, hB, hR1, hR2, hR3, hR4⟩ := X
  intro H locs la hF hS hl
  exact lv_iconst hx hb hd hv (k H locs la hF hS hl)
theorem z_bipush (X : Ok κ G cc nL own d mc ms) {i : Int} {v : Int32} (hd : decode cc pc = .ok (.bipush i, 2)) (hv : (Int8.ofInt i).toInt32 = v) (k : Z κ G nL (pc + 2) ls (.int v :: st) h n ca sl) : Z κ G nL (pc) ls (st) h n ca sl := by
  obtain ⟨p, l, e, R, s, m, args, below, meth, c, Q⟩ := G
  obtain ⟨hx, hb, hml, hown, hts, hK, hB, hR1, hR2, hR3, hR4⟩ := X
  intro H locs la hF hS hl
  exact lv_bipush hx hb hd hv (k H locs la hF hS hl)
theorem z_sipush (X : Ok κ G cc nL own d mc ms) {i : Int} {v : Int32} (hd : decode cc pc = .ok (.sipush i, 3)) (hv : (Int16.ofInt i).toInt32 = v) (k : Z κ G nL (pc + 3) ls (.int v :: st) h n ca sl) : Z κ G nL (pc) ls (st) h n ca sl := by
  obtain ⟨p, l, e, R, s, m, args, below, meth, c, Q⟩ := G
  obtain ⟨hx, hb, hml, hown, hts, hK, hB, hR1, hR2, hR3, hR4⟩ := X
  intro H locs la hF hS hl
  exact lv_sipush hx hb hd hv (k H locs la hF hS hl)
theorem z_lconst (X : Ok κ G cc nL own d mc ms) {i : Fin 2} {v : Int64} (hd : decode cc pc = .ok (.lconst i, 1)) (hv : Int64.ofNat (i : Nat) = v) (k : Z κ G nL (pc + 1) ls (.long v :: st) h n ca sl) : Z κ G nL (pc) ls (st) h n ca sl := by
  obtain ⟨p, l, e, R, s, m, args, below, meth, c, Q⟩ := G
  obtain ⟨hx, hb, hml, hown, hts, hK, hB, hR1, hR2, hR3, hR4⟩ := X
  intro H locs la hF hS hl
  exact lv_lconst hx hb hd hv (k H locs la hF hS hl)
theorem z_ldc (X : Ok κ G cc nL own d mc ms) {i : Nat} {v : Int32} (hd : decode cc pc = .ok (.ldc i, 2)) (hw : Cond.constant own i v ∈ gtbl) (k : Z κ G nL (pc + 2) ls (.int v :: st) h n ca sl) : Z κ G nL (pc) ls (st) h n ca sl := by
  obtain ⟨p, l, e, R, s, m, args, below, meth, c, Q⟩ := G
  obtain ⟨hx, hb, hml, hown, hts, hK, hB, hR1, hR2, hR3, hR4⟩ := X
  intro H locs la hF hS hl
  exact lv_ldc hx hb hown (hts _ hw) hd (k H locs la hF hS hl)
theorem z_ldcw (X : Ok κ G cc nL own d mc ms) {i : Nat} {v : Int32} (hd : decode cc pc = .ok (.ldc_w i, 3)) (hw : Cond.constant own i v ∈ gtbl) (k : Z κ G nL (pc + 3) ls (.int v :: st) h n ca sl) : Z κ G nL (pc) ls (st) h n ca sl := by
  obtain ⟨p, l, e, R, s, m, args, below, meth, c, Q⟩ := G
  obtain ⟨hx, hb, hml, hown, hts, hK, hB, hR1, hR2, hR3, hR4⟩ := X
  intro H locs la hF hS hl
  exact lv_ldcw hx hb hown (hts _ hw) hd (k H locs la hF hS hl)
theorem z_ldc2 (X : Ok κ G cc nL own d mc ms) {i : Nat} {v : Int64} (hd : decode cc pc = .ok (.ldc2_w i, 3)) (hw : Cond.constantLong own i v ∈ gtbl) (k : Z κ G nL (pc + 3) ls (.long v :: st) h n ca sl) : Z κ G nL (pc) ls (st) h n ca sl := by
  obtain ⟨p, l, e, R, s, m, args, below, meth, c, Q⟩ := G
  obtain ⟨hx, hb, hml, hown, hts, hK, hB, hR1, hR2, hR3, hR4⟩ := X
  intro H locs la hF hS hl
  exact lv_ldc2 hx hb hown (hts _ hw) hd (k H locs la hF hS hl)
theorem z_null (X : Ok κ G cc nL own d mc ms) (hd : decode cc pc = .ok (.aconst_null, 1)) (k : Z κ G nL (pc + 1) ls (.null :: st) h n ca sl) : Z κ G nL (pc) ls (st) h n ca sl := by
  obtain ⟨p, l, e, R, s, m, args, below, meth, c, Q⟩ := G
  obtain ⟨hx, hb, hml, hown, hts, hK, hB, hR1, hR2, hR3, hR4⟩ := X
  intro H locs la hF hS hl
  exact lv_null hx hb hd (k H locs la hF hS hl)
theorem z_iload_n (X : Ok κ G cc nL own d mc ms) {i : Fin 4} {x : Int32} (j : Nat) (hd : decode cc pc = .ok (.iload_n i, 1)) (hv : ls[j]? = some ((i : Nat), .int x)) (k : Z κ G nL (pc + 1) ls (.int x :: st) h n ca sl) : Z κ G nL (pc) ls (st) h n ca sl := by
  obtain ⟨p, l, e, R, s, m, args, below, meth, c, Q⟩ := G
  obtain ⟨hx, hb, hml, hown, hts, hK, hB, hR1, hR2, hR3, hR4⟩ := X
  intro H locs la hF hS hl
  exact lv_iload_n hx hb hd rfl (lv_at hl j hv) (k H locs la hF hS hl)
theorem z_iload (X : Ok κ G cc nL own d mc ms) {i : Nat} {x : Int32} (j : Nat) (hd : decode cc pc = .ok (.iload i, 2)) (hv : ls[j]? = some (i, .int x)) (k : Z κ G nL (pc + 2) ls (.int x :: st) h n ca sl) : Z κ G nL (pc) ls (st) h n ca sl := by
  obtain ⟨p, l, e, R, s, m, args, below, meth, c, Q⟩ := G
  obtain ⟨hx, hb, hml, hown, hts, hK, hB, hR1, hR2, hR3, hR4⟩ := X
  intro H locs la hF hS hl
  exact lv_iload hx hb hd (lv_at hl j hv) (k H locs la hF hS hl)
theorem z_lload_n (X : Ok κ G cc nL own d mc ms) {i : Fin 4} {x : Int64} (j : Nat) (hd : decode cc pc = .ok (.lload_n i, 1)) (hv : ls[j]? = some ((i : Nat), .long x)) (k : Z κ G nL (pc + 1) ls (.long x :: st) h n ca sl) : Z κ G nL (pc) ls (st) h n ca sl := by
  obtain ⟨p, l, e, R, s, m, args, below, meth, c, Q⟩ := G
  obtain ⟨hx, hb, hml, hown, hts, hK, hB, hR1, hR2, hR3, hR4⟩ := X
  intro H locs la hF hS hl
  exact lv_lload_n hx hb hd rfl (lv_at hl j hv) (k H locs la hF hS hl)
theorem z_lload (X : Ok κ G cc nL own d mc ms) {i : Nat} {x : Int64} (j : Nat) (hd : decode cc pc = .ok (.lload i, 2)) (hv : ls[j]? = some (i, .long x)) (k : Z κ G nL (pc + 2) ls (.long x :: st) h n ca sl) : Z κ G nL (pc) ls (st) h n ca sl := by
  obtain ⟨p, l, e, R, s, m, args, below, meth, c, Q⟩ := G
  obtain ⟨hx, hb, hml, hown, hts, hK, hB, hR1, hR2, hR3, hR4⟩ := X
  intro H locs la hF hS hl
  exact lv_lload hx hb hd (lv_at hl j hv) (k H locs la hF hS hl)
theorem z_aload_n (X : Ok κ G cc nL own d mc ms) {i : Fin 4} {x : Nat} (j : Nat) (hd : decode cc pc = .ok (.aload_n i, 1)) (hv : ls[j]? = some ((i : Nat), .ref x)) (k : Z κ G nL (pc + 1) ls (.ref x :: st) h n ca sl) : Z κ G nL (pc) ls (st) h n ca sl := by
  obtain ⟨p, l, e, R, s, m, args, below, meth, c, Q⟩ := G
  obtain ⟨hx, hb, hml, hown, hts, hK, hB, hR1, hR2, hR3, hR4⟩ := X
  intro H locs la hF hS hl
  exact lv_aload_n hx hb hd rfl (lv_at hl j hv) (k H locs la hF hS hl)
theorem z_aload (X : Ok κ G cc nL own d mc ms) {i : Nat} {x : Nat} (j : Nat) (hd : decode cc pc = .ok (.aload i, 2)) (hv : ls[j]? = some (i, .ref x)) (k : Z κ G nL (pc + 2) ls (.ref x :: st) h n ca sl) : Z κ G nL (pc) ls (st) h n ca sl := by
  obtain ⟨p, l, e, R, s, m, args, below, meth, c, Q⟩ := G
  obtain ⟨hx, hb, hml, hown, hts, hK, hB, hR1, hR2, hR3, hR4⟩ := X
  intro H locs la hF hS hl
  exact lv_aload hx hb hd (lv_at hl j hv) (k H locs la hF hS hl)
theorem z_aload_nN (X : Ok κ G cc nL own d mc ms) {i : Fin 4} (j : Nat) (hd : decode cc pc = .ok (.aload_n i, 1)) (hv : ls[j]? = some ((i : Nat), .null)) (k : Z κ G nL (pc + 1) ls (.null :: st) h n ca sl) : Z κ G nL (pc) ls (st) h n ca sl := by
  obtain ⟨p, l, e, R, s, m, args, below, meth, c, Q⟩ := G
  obtain ⟨hx, hb, hml, hown, hts, hK, hB, hR1, hR2, hR3, hR4⟩ := X
  intro H locs la hF hS hl
  exact lv_aload_nN hx hb hd rfl (lv_at hl j hv) (k H locs la hF hS hl)
theorem z_aloadN (X : Ok κ G cc nL own d mc ms) {i : Nat} (j : Nat) (hd : decode cc pc = .ok (.aload i, 2)) (hv : ls[j]? = some (i, .null)) (k : Z κ G nL (pc + 2) ls (.null :: st) h n ca sl) : Z κ G nL (pc) ls (st) h n ca sl := by
  obtain ⟨p, l, e, R, s, m, args, below, meth, c, Q⟩ := G
  obtain ⟨hx, hb, hml, hown, hts, hK, hB, hR1, hR2, hR3, hR4⟩ := X
  intro H locs la hF hS hl
  exact lv_aloadN hx hb hd (lv_at hl j hv) (k H locs la hF hS hl)
theorem z_istore_n (X : Ok κ G cc nL own d mc ms) {i : Fin 4} {x : Int32} {ls' : Lc} (hd : decode cc pc = .ok (.istore_n i, 1)) (hn : (i : Nat) < nL) (hl' : ((i : Nat), Value.int x) :: ls.filter (fun q => !(q.1 == (i : Nat)) && !(q.1 + 1 == (i : Nat) && q.2.category == 2)) = ls') (k : Z κ G nL (pc + 1) ls' (st) h n ca sl) : Z κ G nL (pc) ls (.int x :: st) h n ca sl := by
  obtain ⟨p, l, e, R, s, m, args, below, meth, c, Q⟩ := G
  obtain ⟨hx, hb, hml, hown, hts, hK, hB, hR1, hR2, hR3, hR4⟩ := X
  intro H locs la hF hS hl
  exact lv_istore_n hx hb hd rfl hl hn hl' (fun la2 hl2 => k H locs la2 hF hS hl2)
theorem z_istore (X : Ok κ G cc nL own d mc ms) {i : Nat} {x : Int32} {ls' : Lc} (hd : decode cc pc = .ok (.istore i, 2)) (hn : i < nL) (hl' : (i, Value.int x) :: ls.filter (fun q => !(q.1 == i) && !(q.1 + 1 == i && q.2.category == 2)) = ls') (k : Z κ G nL (pc + 2) ls' (st) h n ca sl) : Z κ G nL (pc) ls (.int x :: st) h n ca sl := by
  obtain ⟨p, l, e, R, s, m, args, below, meth, c, Q⟩ := G
  obtain ⟨hx, hb, hml, hown, hts, hK, hB, hR1, hR2, hR3, hR4⟩ := X
  intro H locs la hF hS hl
  exact lv_istore hx hb hd hl hn hl' (fun la2 hl2 => k H locs la2 hF hS hl2)
theorem z_lstore_n (X : Ok κ G cc nL own d mc ms) {i : Fin 4} {x : Int64} {ls' : Lc} (hd : decode cc pc = .ok (.lstore_n i, 1)) (hn : (i : Nat) + 1 < nL) (hl' : ((i : Nat), Value.long x) :: ls.filter (fun q => !(q.1 == (i : Nat)) && (!(q.1 == (i : Nat) + 1) && !(q.1 + 1 == (i : Nat) && q.2.category == 2))) = ls') (k : Z κ G nL (pc + 1) ls' (st) h n ca sl) : Z κ G nL (pc) ls (.long x :: st) h n ca sl := by
  obtain ⟨p, l, e, R, s, m, args, below, meth, c, Q⟩ := G
  obtain ⟨hx, hb, hml, hown, hts, hK, hB, hR1, hR2, hR3, hR4⟩ := X
  intro H locs la hF hS hl
  exact lv_lstore_n hx hb hd rfl hl hn hl' (fun la2 hl2 => k H locs la2 hF hS hl2)
theorem z_lstore (X : Ok κ G cc nL own d mc ms) {i : Nat} {x : Int64} {ls' : Lc} (hd : decode cc pc = .ok (.lstore i, 2)) (hn : i + 1 < nL) (hl' : (i, Value.long x) :: ls.filter (fun q => !(q.1 == i) && (!(q.1 == i + 1) && !(q.1 + 1 == i && q.2.category == 2))) = ls') (k : Z κ G nL (pc + 2) ls' (st) h n ca sl) : Z κ G nL (pc) ls (.long x :: st) h n ca sl := by
  obtain ⟨p, l, e, R, s, m, args, below, meth, c, Q⟩ := G
  obtain ⟨hx, hb, hml, hown, hts, hK, hB, hR1, hR2, hR3, hR4⟩ := X
  intro H locs la hF hS hl
  exact lv_lstore hx hb hd hl hn hl' (fun la2 hl2 => k H locs la2 hF hS hl2)
theorem z_astore_n (X : Ok κ G cc nL own d mc ms) {i : Fin 4} {x : Nat} {ls' : Lc} (hd : decode cc pc = .ok (.astore_n i, 1)) (hn : (i : Nat) < nL) (hl' : ((i : Nat), Value.ref x) :: ls.filter (fun q => !(q.1 == (i : Nat)) && !(q.1 + 1 == (i : Nat) && q.2.category == 2)) = ls') (k : Z κ G nL (pc + 1) ls' (st) h n ca sl) : Z κ G nL (pc) ls (.ref x :: st) h n ca sl := by
  obtain ⟨p, l, e, R, s, m, args, below, meth, c, Q⟩ := G
  obtain ⟨hx, hb, hml, hown, hts, hK, hB, hR1, hR2, hR3, hR4⟩ := X
  intro H locs la hF hS hl
  exact lv_astore_n hx hb hd rfl hl hn hl' (fun la2 hl2 => k H locs la2 hF hS hl2)
theorem z_astore (X : Ok κ G cc nL own d mc ms) {i : Nat} {x : Nat} {ls' : Lc} (hd : decode cc pc = .ok (.astore i, 2)) (hn : i < nL) (hl' : (i, Value.ref x) :: ls.filter (fun q => !(q.1 == i) && !(q.1 + 1 == i && q.2.category == 2)) = ls') (k : Z κ G nL (pc + 2) ls' (st) h n ca sl) : Z κ G nL (pc) ls (.ref x :: st) h n ca sl := by
  obtain ⟨p, l, e, R, s, m, args, below, meth, c, Q⟩ := G
  obtain ⟨hx, hb, hml, hown, hts, hK, hB, hR1, hR2, hR3, hR4⟩ := X
  intro H locs la hF hS hl
  exact lv_astore hx hb hd hl hn hl' (fun la2 hl2 => k H locs la2 hF hS hl2)
theorem z_astore_nN (X : Ok κ G cc nL own d mc ms) {i : Fin 4} {ls' : Lc} (hd : decode cc pc = .ok (.astore_n i, 1)) (hn : (i : Nat) < nL) (hl' : ((i : Nat), Value.null) :: ls.filter (fun q => !(q.1 == (i : Nat)) && !(q.1 + 1 == (i : Nat) && q.2.category == 2)) = ls') (k : Z κ G nL (pc + 1) ls' (st) h n ca sl) : Z κ G nL (pc) ls (.null :: st) h n ca sl := by
  obtain ⟨p, l, e, R, s, m, args, below, meth, c, Q⟩ := G
  obtain ⟨hx, hb, hml, hown, hts, hK, hB, hR1, hR2, hR3, hR4⟩ := X
  intro H locs la hF hS hl
  exact lv_astore_nN hx hb hd rfl hl hn hl' (fun la2 hl2 => k H locs la2 hF hS hl2)
theorem z_astoreN (X : Ok κ G cc nL own d mc ms) {i : Nat} {ls' : Lc} (hd : decode cc pc = .ok (.astore i, 2)) (hn : i < nL) (hl' : (i, Value.null) :: ls.filter (fun q => !(q.1 == i) && !(q.1 + 1 == i && q.2.category == 2)) = ls') (k : Z κ G nL (pc + 2) ls' (st) h n ca sl) : Z κ G nL (pc) ls (.null :: st) h n ca sl := by
  obtain ⟨p, l, e, R, s, m, args, below, meth, c, Q⟩ := G
  obtain ⟨hx, hb, hml, hown, hts, hK, hB, hR1, hR2, hR3, hR4⟩ := X
  intro H locs la hF hS hl
  exact lv_astoreN hx hb hd hl hn hl' (fun la2 hl2 => k H locs la2 hF hS hl2)
theorem z_iinc (X : Ok κ G cc nL own d mc ms) {i : Nat} {z : Int} {x v : Int32} {ls' : Lc} (j : Nat) (hd : decode cc pc = .ok (.iinc i z, 3)) (hj : ls[j]? = some (i, .int x)) (hv : x + Int32.ofInt z = v) (hn : i < nL) (hl' : (i, Value.int v) :: ls.filter (fun q => !(q.1 == i) && !(q.1 + 1 == i && q.2.category == 2)) = ls') (k : Z κ G nL (pc + 3) ls' (st) h n ca sl) : Z κ G nL (pc) ls (st) h n ca sl := by
  obtain ⟨p, l, e, R, s, m, args, below, meth, c, Q⟩ := G
  obtain ⟨hx, hb, hml, hown, hts, hK, hB, hR1, hR2, hR3, hR4⟩ := X
  intro H locs la hF hS hl
  exact lv_iinc hx hb hd hl hj hv hn hl' (fun la2 hl2 => k H locs la2 hF hS hl2)
theorem z_iadd (X : Ok κ G cc nL own d mc ms) {x y : Int32} (hd : decode cc pc = .ok (.iadd, 1)) (k : Z κ G nL (pc + 1) ls (.int (x + y) :: st) h n ca sl) : Z κ G nL (pc) ls (.int y :: .int x :: st) h n ca sl := by
  obtain ⟨p, l, e, R, s, m, args, below, meth, c, Q⟩ := G
  obtain ⟨hx, hb, hml, hown, hts, hK, hB, hR1, hR2, hR3, hR4⟩ := X
  intro H locs la hF hS hl
  exact lv_iadd hx hb hd (k H locs la hF hS hl)
theorem z_isub (X : Ok κ G cc nL own d mc ms) {x y : Int32} (hd : decode cc pc = .ok (.isub, 1)) (k : Z κ G nL (pc + 1) ls (.int (x - y) :: st) h n ca sl) : Z κ G nL (pc) ls (.int y :: .int x :: st) h n ca sl := by
  obtain ⟨p, l, e, R, s, m, args, below, meth, c, Q⟩ := G
  obtain ⟨hx, hb, hml, hown, hts, hK, hB, hR1, hR2, hR3, hR4⟩ := X
  intro H locs la hF hS hl
  exact lv_isub hx hb hd (k H locs la hF hS hl)
theorem z_imul (X : Ok κ G cc nL own d mc ms) {x y : Int32} (hd : decode cc pc = .ok (.imul, 1)) (k : Z κ G nL (pc + 1) ls (.int (x * y) :: st) h n ca sl) : Z κ G nL (pc) ls (.int y :: .int x :: st) h n ca sl := by
  obtain ⟨p, l, e, R, s, m, args, below, meth, c, Q⟩ := G
  obtain ⟨hx, hb, hml, hown, hts, hK, hB, hR1, hR2, hR3, hR4⟩ := X
  intro H locs la hF hS hl
  exact lv_imul hx hb hd (k H locs la hF hS hl)
theorem z_iand (X : Ok κ G cc nL own d mc ms) {x y : Int32} (hd : decode cc pc = .ok (.iand, 1)) (k : Z κ G nL (pc + 1) ls (.int (x &&& y) :: st) h n ca sl) : Z κ G nL (pc) ls (.int y :: .int x :: st) h n ca sl := by
  obtain ⟨p, l, e, R, s, m, args, below, meth, c, Q⟩ := G
  obtain ⟨hx, hb, hml, hown, hts, hK, hB, hR1, hR2, hR3, hR4⟩ := X
  intro H locs la hF hS hl
  exact lv_iand hx hb hd (k H locs la hF hS hl)
theorem z_ior (X : Ok κ G cc nL own d mc ms) {x y : Int32} (hd : decode cc pc = .ok (.ior, 1)) (k : Z κ G nL (pc + 1) ls (.int (x ||| y) :: st) h n ca sl) : Z κ G nL (pc) ls (.int y :: .int x :: st) h n ca sl := by
  obtain ⟨p, l, e, R, s, m, args, below, meth, c, Q⟩ := G
  obtain ⟨hx, hb, hml, hown, hts, hK, hB, hR1, hR2, hR3, hR4⟩ := X
  intro H locs la hF hS hl
  exact lv_ior hx hb hd (k H locs la hF hS hl)
theorem z_ixor (X : Ok κ G cc nL own d mc ms) {x y : Int32} (hd : decode cc pc = .ok (.ixor, 1)) (k : Z κ G nL (pc + 1) ls (.int (x ^^^ y) :: st) h n ca sl) : Z κ G nL (pc) ls (.int y :: .int x :: st) h n ca sl := by
  obtain ⟨p, l, e, R, s, m, args, below, meth, c, Q⟩ := G
  obtain ⟨hx, hb, hml, hown, hts, hK, hB, hR1, hR2, hR3, hR4⟩ := X
  intro H locs la hF hS hl
  exact lv_ixor hx hb hd (k H locs la hF hS hl)
theorem z_ishl (X : Ok κ G cc nL own d mc ms) {x y : Int32} (hd : decode cc pc = .ok (.ishl, 1)) (k : Z κ G nL (pc + 1) ls (.int (x <<< (y &&& 31)) :: st) h n ca sl) : Z κ G nL (pc) ls (.int y :: .int x :: st) h n ca sl := by
  obtain ⟨p, l, e, R, s, m, args, below, meth, c, Q⟩ := G
  obtain ⟨hx, hb, hml, hown, hts, hK, hB, hR1, hR2, hR3, hR4⟩ := X
  intro H locs la hF hS hl
  exact lv_ishl hx hb hd (k H locs la hF hS hl)
theorem z_ishr (X : Ok κ G cc nL own d mc ms) {x y : Int32} (hd : decode cc pc = .ok (.ishr, 1)) (k : Z κ G nL (pc + 1) ls (.int (x >>> (y &&& 31)) :: st) h n ca sl) : Z κ G nL (pc) ls (.int y :: .int x :: st) h n ca sl := by
  obtain ⟨p, l, e, R, s, m, args, below, meth, c, Q⟩ := G
  obtain ⟨hx, hb, hml, hown, hts, hK, hB, hR1, hR2, hR3, hR4⟩ := X
  intro H locs la hF hS hl
  exact lv_ishr hx hb hd (k H locs la hF hS hl)
theorem z_idiv (X : Ok κ G cc nL own d mc ms) {x y : Int32} (hd : decode cc pc = .ok (.idiv, 1)) (hne : ¬ y = 0) (k : Z κ G nL (pc + 1) ls (.int (x / y) :: st) h n ca sl) : Z κ G nL (pc) ls (.int y :: .int x :: st) h n ca sl := by
  obtain ⟨p, l, e, R, s, m, args, below, meth, c, Q⟩ := G
  obtain ⟨hx, hb, hml, hown, hts, hK, hB, hR1, hR2, hR3, hR4⟩ := X
  intro H locs la hF hS hl
  exact lv_idiv hx hb hd hne (k H locs la hF hS hl)
theorem z_irem (X : Ok κ G cc nL own d mc ms) {x y : Int32} (hd : decode cc pc = .ok (.irem, 1)) (hne : ¬ y = 0) (k : Z κ G nL (pc + 1) ls (.int (x - x / y * y) :: st) h n ca sl) : Z κ G nL (pc) ls (.int y :: .int x :: st) h n ca sl := by
  obtain ⟨p, l, e, R, s, m, args, below, meth, c, Q⟩ := G
  obtain ⟨hx, hb, hml, hown, hts, hK, hB, hR1, hR2, hR3, hR4⟩ := X
  intro H locs la hF hS hl
  exact lv_irem hx hb hd hne (k H locs la hF hS hl)
theorem z_ineg (X : Ok κ G cc nL own d mc ms) {x : Int32} (hd : decode cc pc = .ok (.ineg, 1)) (k : Z κ G nL (pc + 1) ls (.int (-x) :: st) h n ca sl) : Z κ G nL (pc) ls (.int x :: st) h n ca sl := by
  obtain ⟨p, l, e, R, s, m, args, below, meth, c, Q⟩ := G
  obtain ⟨hx, hb, hml, hown, hts, hK, hB, hR1, hR2, hR3, hR4⟩ := X
  intro H locs la hF hS hl
  exact lv_ineg hx hb hd (k H locs la hF hS hl)
theorem z_iushr (X : Ok κ G cc nL own d mc ms) {x y v : Int32} (hd : decode cc pc = .ok (.iushr, 1)) (hv : (x.toUInt32 >>> (y.toUInt32 &&& Int32.toUInt32 31)).toInt32 = v) (k : Z κ G nL (pc + 1) ls (.int v :: st) h n ca sl) : Z κ G nL (pc) ls (.int y :: .int x :: st) h n ca sl := by
  obtain ⟨p, l, e, R, s, m, args, below, meth, c, Q⟩ := G
  obtain ⟨hx, hb, hml, hown, hts, hK, hB, hR1, hR2, hR3, hR4⟩ := X
  intro H locs la hF hS hl
  exact lv_iushr hx hb hd hv (k H locs la hF hS hl)
theorem z_ladd (X : Ok κ G cc nL own d mc ms) {x y : Int64} (hd : decode cc pc = .ok (.ladd, 1)) (k : Z κ G nL (pc + 1) ls (.long (x + y) :: st) h n ca sl) : Z κ G nL (pc) ls (.long y :: .long x :: st) h n ca sl := by
  obtain ⟨p, l, e, R, s, m, args, below, meth, c, Q⟩ := G
  obtain ⟨hx, hb, hml, hown, hts, hK, hB, hR1, hR2, hR3, hR4⟩ := X
  intro H locs la hF hS hl
  exact lv_ladd hx hb hd (k H locs la hF hS hl)
theorem z_lsub (X : Ok κ G cc nL own d mc ms) {x y : Int64} (hd : decode cc pc = .ok (.lsub, 1)) (k : Z κ G nL (pc + 1) ls (.long (x - y) :: st) h n ca sl) : Z κ G nL (pc) ls (.long y :: .long x :: st) h n ca sl := by
  obtain ⟨p, l, e, R, s, m, args, below, meth, c, Q⟩ := G
  obtain ⟨hx, hb, hml, hown, hts, hK, hB, hR1, hR2, hR3, hR4⟩ := X
  intro H locs la hF hS hl
  exact lv_lsub hx hb hd (k H locs la hF hS hl)
theorem z_lmul (X : Ok κ G cc nL own d mc ms) {x y : Int64} (hd : decode cc pc = .ok (.lmul, 1)) (k : Z κ G nL (pc + 1) ls (.long (x * y) :: st) h n ca sl) : Z κ G nL (pc) ls (.long y :: .long x :: st) h n ca sl := by
  obtain ⟨p, l, e, R, s, m, args, below, meth, c, Q⟩ := G
  obtain ⟨hx, hb, hml, hown, hts, hK, hB, hR1, hR2, hR3, hR4⟩ := X
  intro H locs la hF hS hl
  exact lv_lmul hx hb hd (k H locs la hF hS hl)
theorem z_land (X : Ok κ G cc nL own d mc ms) {x y : Int64} (hd : decode cc pc = .ok (.land, 1)) (k : Z κ G nL (pc + 1) ls (.long (x &&& y) :: st) h n ca sl) : Z κ G nL (pc) ls (.long y :: .long x :: st) h n ca sl := by
  obtain ⟨p, l, e, R, s, m, args, below, meth, c, Q⟩ := G
  obtain ⟨hx, hb, hml, hown, hts, hK, hB, hR1, hR2, hR3, hR4⟩ := X
  intro H locs la hF hS hl
  exact lv_land hx hb hd (k H locs la hF hS hl)
theorem z_lor (X : Ok κ G cc nL own d mc ms) {x y : Int64} (hd : decode cc pc = .ok (.lor, 1)) (k : Z κ G nL (pc + 1) ls (.long (x ||| y) :: st) h n ca sl) : Z κ G nL (pc) ls (.long y :: .long x :: st) h n ca sl := by
  obtain ⟨p, l, e, R, s, m, args, below, meth, c, Q⟩ := G
  obtain ⟨hx, hb, hml, hown, hts, hK, hB, hR1, hR2, hR3, hR4⟩ := X
  intro H locs la hF hS hl
  exact lv_lor hx hb hd (k H locs la hF hS hl)
theorem z_lxor (X : Ok κ G cc nL own d mc ms) {x y : Int64} (hd : decode cc pc = .ok (.lxor, 1)) (k : Z κ G nL (pc + 1) ls (.long (x ^^^ y) :: st) h n ca sl) : Z κ G nL (pc) ls (.long y :: .long x :: st) h n ca sl := by
  obtain ⟨p, l, e, R, s, m, args, below, meth, c, Q⟩ := G
  obtain ⟨hx, hb, hml, hown, hts, hK, hB, hR1, hR2, hR3, hR4⟩ := X
  intro H locs la hF hS hl
  exact lv_lxor hx hb hd (k H locs la hF hS hl)
theorem z_ldiv (X : Ok κ G cc nL own d mc ms) {x y : Int64} (hd : decode cc pc = .ok (.ldiv, 1)) (hne : ¬ y = 0) (k : Z κ G nL (pc + 1) ls (.long (x / y) :: st) h n ca sl) : Z κ G nL (pc) ls (.long y :: .long x :: st) h n ca sl := by
  obtain ⟨p, l, e, R, s, m, args, below, meth, c, Q⟩ := G
  obtain ⟨hx, hb, hml, hown, hts, hK, hB, hR1, hR2, hR3, hR4⟩ := X
  intro H locs la hF hS hl
  exact lv_ldiv hx hb hd hne (k H locs la hF hS hl)
theorem z_lushr (X : Ok κ G cc nL own d mc ms) {x v : Int64} {y : Int32} (hd : decode cc pc = .ok (.lushr, 1)) (hv : (x.toUInt64 >>> (y.toInt64.toUInt64 &&& Int64.toUInt64 63)).toInt64 = v) (k : Z κ G nL (pc + 1) ls (.long v :: st) h n ca sl) : Z κ G nL (pc) ls (.int y :: .long x :: st) h n ca sl := by
  obtain ⟨p, l, e, R, s, m, args, below, meth, c, Q⟩ := G
  obtain ⟨hx, hb, hml, hown, hts, hK, hB, hR1, hR2, hR3, hR4⟩ := X
  intro H locs la hF hS hl
  exact lv_lushr hx hb hd hv (k H locs la hF hS hl)
theorem z_lshl (X : Ok κ G cc nL own d mc ms) {x v : Int64} {y : Int32} (hd : decode cc pc = .ok (.lshl, 1)) (hv : x <<< (y.toInt64 &&& 63) = v) (k : Z κ G nL (pc + 1) ls (.long v :: st) h n ca sl) : Z κ G nL (pc) ls (.int y :: .long x :: st) h n ca sl := by
  obtain ⟨p, l, e, R, s, m, args, below, meth, c, Q⟩ := G
  obtain ⟨hx, hb, hml, hown, hts, hK, hB, hR1, hR2, hR3, hR4⟩ := X
  intro H locs la hF hS hl
  exact lv_lshl hx hb hd hv (k H locs la hF hS hl)
theorem z_lshr (X : Ok κ G cc nL own d mc ms) {x v : Int64} {y : Int32} (hd : decode cc pc = .ok (.lshr, 1)) (hv : x >>> (y.toInt64 &&& 63) = v) (k : Z κ G nL (pc + 1) ls (.long v :: st) h n ca sl) : Z κ G nL (pc) ls (.int y :: .long x :: st) h n ca sl := by
  obtain ⟨p, l, e, R, s, m, args, below, meth, c, Q⟩ := G
  obtain ⟨hx, hb, hml, hown, hts, hK, hB, hR1, hR2, hR3, hR4⟩ := X
  intro H locs la hF hS hl
  exact lv_lshr hx hb hd hv (k H locs la hF hS hl)
theorem z_lcmp (X : Ok κ G cc nL own d mc ms) {x y : Int64} (hd : decode cc pc = .ok (.lcmp, 1)) (k : Z κ G nL (pc + 1) ls (.int (lg_cmp x y) :: st) h n ca sl) : Z κ G nL (pc) ls (.long y :: .long x :: st) h n ca sl := by
  obtain ⟨p, l, e, R, s, m, args, below, meth, c, Q⟩ := G
  obtain ⟨hx, hb, hml, hown, hts, hK, hB, hR1, hR2, hR3, hR4⟩ := X
  intro H locs la hF hS hl
  exact W.lcmp hx hb hd (k H locs la hF hS hl)
theorem z_i2l (X : Ok κ G cc nL own d mc ms) {x : Int32} {v : Int64} (hd : decode cc pc = .ok (.i2l, 1)) (hv : x.toInt64 = v) (k : Z κ G nL (pc + 1) ls (.long v :: st) h n ca sl) : Z κ G nL (pc) ls (.int x :: st) h n ca sl := by
  obtain ⟨p, l, e, R, s, m, args, below, meth, c, Q⟩ := G
  obtain ⟨hx, hb, hml, hown, hts, hK, hB, hR1, hR2, hR3, hR4⟩ := X
  intro H locs la hF hS hl
  exact lv_i2l hx hb hd hv (k H locs la hF hS hl)
theorem z_l2i (X : Ok κ G cc nL own d mc ms) {x : Int64} {v : Int32} (hd : decode cc pc = .ok (.l2i, 1)) (hv : x.toInt32 = v) (k : Z κ G nL (pc + 1) ls (.int v :: st) h n ca sl) : Z κ G nL (pc) ls (.long x :: st) h n ca sl := by
  obtain ⟨p, l, e, R, s, m, args, below, meth, c, Q⟩ := G
  obtain ⟨hx, hb, hml, hown, hts, hK, hB, hR1, hR2, hR3, hR4⟩ := X
  intro H locs la hF hS hl
  exact lv_l2i hx hb hd hv (k H locs la hF hS hl)
theorem z_i2b (X : Ok κ G cc nL own d mc ms) {x : Int32} {v : Int32} (hd : decode cc pc = .ok (.i2b, 1)) (hv : x.toInt8.toInt32 = v) (k : Z κ G nL (pc + 1) ls (.int v :: st) h n ca sl) : Z κ G nL (pc) ls (.int x :: st) h n ca sl := by
  obtain ⟨p, l, e, R, s, m, args, below, meth, c, Q⟩ := G
  obtain ⟨hx, hb, hml, hown, hts, hK, hB, hR1, hR2, hR3, hR4⟩ := X
  intro H locs la hF hS hl
  exact lv_i2b hx hb hd hv (k H locs la hF hS hl)
theorem z_i2s (X : Ok κ G cc nL own d mc ms) {x : Int32} {v : Int32} (hd : decode cc pc = .ok (.i2s, 1)) (hv : x.toInt16.toInt32 = v) (k : Z κ G nL (pc + 1) ls (.int v :: st) h n ca sl) : Z κ G nL (pc) ls (.int x :: st) h n ca sl := by
  obtain ⟨p, l, e, R, s, m, args, below, meth, c, Q⟩ := G
  obtain ⟨hx, hb, hml, hown, hts, hK, hB, hR1, hR2, hR3, hR4⟩ := X
  intro H locs la hF hS hl
  exact lv_i2s hx hb hd hv (k H locs la hF hS hl)
theorem z_dup (X : Ok κ G cc nL own d mc ms) {v : Value} (hd : decode cc pc = .ok (.dup, 1)) (hv : v.category = 1) (k : Z κ G nL (pc + 1) ls (v :: v :: st) h n ca sl) : Z κ G nL (pc) ls (v :: st) h n ca sl := by
  obtain ⟨p, l, e, R, s, m, args, below, meth, c, Q⟩ := G
  obtain ⟨hx, hb, hml, hown, hts, hK, hB, hR1, hR2, hR3, hR4⟩ := X
  intro H locs la hF hS hl
  exact lv_dup hx hb hd hv (k H locs la hF hS hl)
theorem z_pop (X : Ok κ G cc nL own d mc ms) {v : Value} (hd : decode cc pc = .ok (.pop, 1)) (hv : v.category = 1) (k : Z κ G nL (pc + 1) ls (st) h n ca sl) : Z κ G nL (pc) ls (v :: st) h n ca sl := by
  obtain ⟨p, l, e, R, s, m, args, below, meth, c, Q⟩ := G
  obtain ⟨hx, hb, hml, hown, hts, hK, hB, hR1, hR2, hR3, hR4⟩ := X
  intro H locs la hF hS hl
  exact lv_pop hx hb hd hv (k H locs la hF hS hl)
theorem z_dup_x1 (X : Ok κ G cc nL own d mc ms) {v w : Value} (hd : decode cc pc = .ok (.dup_x1, 1)) (hv : v.category = 1) (hw : w.category = 1) (k : Z κ G nL (pc + 1) ls (v :: w :: v :: st) h n ca sl) : Z κ G nL (pc) ls (v :: w :: st) h n ca sl := by
  obtain ⟨p, l, e, R, s, m, args, below, meth, c, Q⟩ := G
  obtain ⟨hx, hb, hml, hown, hts, hK, hB, hR1, hR2, hR3, hR4⟩ := X
  intro H locs la hF hS hl
  exact lv_dup_x1 hx hb hd hv hw (k H locs la hF hS hl)
theorem z_dup2 (X : Ok κ G cc nL own d mc ms) {v w : Value} (hd : decode cc pc = .ok (.dup2, 1)) (hv : v.category = 1) (hw : w.category = 1) (k : Z κ G nL (pc + 1) ls (v :: w :: v :: w :: st) h n ca sl) : Z κ G nL (pc) ls (v :: w :: st) h n ca sl := by
  obtain ⟨p, l, e, R, s, m, args, below, meth, c, Q⟩ := G
  obtain ⟨hx, hb, hml, hown, hts, hK, hB, hR1, hR2, hR3, hR4⟩ := X
  intro H locs la hF hS hl
  exact lv_dup2_11 hx hb hd hv hw (k H locs la hF hS hl)
theorem z_if_eq (X : Ok κ G cc nL own d mc ms) {x : Int32} {off : Int} (tgt : Nat) (hd : decode cc pc = .ok (.ifCond .eq off, 3)) (ht : (pc : Int) + off = (tgt : Int)) (kt : x = 0 → Z κ G nL (tgt) ls (st) h n ca sl) (kf : ¬ x = 0 → Z κ G nL (pc + 3) ls (st) h n ca sl) : Z κ G nL (pc) ls (.int x :: st) h n ca sl := by
  obtain ⟨p, l, e, R, s, m, args, below, meth, c, Q⟩ := G
  obtain ⟨hx, hb, hml, hown, hts, hK, hB, hR1, hR2, hR3, hR4⟩ := X
  intro H locs la hF hS hl
  exact lv_if_eq hx hb hd ht (fun q => kt q H locs la hF hS hl) (fun q => kf q H locs la hF hS hl)
theorem z_icmp_eq (X : Ok κ G cc nL own d mc ms) {x y : Int32} {off : Int} (tgt : Nat) (hd : decode cc pc = .ok (.if_icmp .eq off, 3)) (ht : (pc : Int) + off = (tgt : Int)) (kt : x = y → Z κ G nL (tgt) ls (st) h n ca sl) (kf : ¬ x = y → Z κ G nL (pc + 3) ls (st) h n ca sl) : Z κ G nL (pc) ls (.int y :: .int x :: st) h n ca sl := by
  obtain ⟨p, l, e, R, s, m, args, below, meth, c, Q⟩ := G
  obtain ⟨hx, hb, hml, hown, hts, hK, hB, hR1, hR2, hR3, hR4⟩ := X
  intro H locs la hF hS hl
  exact lv_icmp_eq hx hb hd ht (fun q => kt q H locs la hF hS hl) (fun q => kf q H locs la hF hS hl)
theorem z_if_ne (X : Ok κ G cc nL own d mc ms) {x : Int32} {off : Int} (tgt : Nat) (hd : decode cc pc = .ok (.ifCond .ne off, 3)) (ht : (pc : Int) + off = (tgt : Int)) (kt : ¬ x = 0 → Z κ G nL (tgt) ls (st) h n ca sl) (kf : x = 0 → Z κ G nL (pc + 3) ls (st) h n ca sl) : Z κ G nL (pc) ls (.int x :: st) h n ca sl := by
  obtain ⟨p, l, e, R, s, m, args, below, meth, c, Q⟩ := G
  obtain ⟨hx, hb, hml, hown, hts, hK, hB, hR1, hR2, hR3, hR4⟩ := X
  intro H locs la hF hS hl
  exact lv_if_ne hx hb hd ht (fun q => kt q H locs la hF hS hl) (fun q => kf q H locs la hF hS hl)
theorem z_icmp_ne (X : Ok κ G cc nL own d mc ms) {x y : Int32} {off : Int} (tgt : Nat) (hd : decode cc pc = .ok (.if_icmp .ne off, 3)) (ht : (pc : Int) + off = (tgt : Int)) (kt : ¬ x = y → Z κ G nL (tgt) ls (st) h n ca sl) (kf : x = y → Z κ G nL (pc + 3) ls (st) h n ca sl) : Z κ G nL (pc) ls (.int y :: .int x :: st) h n ca sl := by
  obtain ⟨p, l, e, R, s, m, args, below, meth, c, Q⟩ := G
  obtain ⟨hx, hb, hml, hown, hts, hK, hB, hR1, hR2, hR3, hR4⟩ := X
  intro H locs la hF hS hl
  exact lv_icmp_ne hx hb hd ht (fun q => kt q H locs la hF hS hl) (fun q => kf q H locs la hF hS hl)
theorem z_if_lt (X : Ok κ G cc nL own d mc ms) {x : Int32} {off : Int} (tgt : Nat) (hd : decode cc pc = .ok (.ifCond .lt off, 3)) (ht : (pc : Int) + off = (tgt : Int)) (kt : x < 0 → Z κ G nL (tgt) ls (st) h n ca sl) (kf : ¬ x < 0 → Z κ G nL (pc + 3) ls (st) h n ca sl) : Z κ G nL (pc) ls (.int x :: st) h n ca sl := by
  obtain ⟨p, l, e, R, s, m, args, below, meth, c, Q⟩ := G
  obtain ⟨hx, hb, hml, hown, hts, hK, hB, hR1, hR2, hR3, hR4⟩ := X
  intro H locs la hF hS hl
  exact lv_if_lt hx hb hd ht (fun q => kt q H locs la hF hS hl) (fun q => kf q H locs la hF hS hl)
theorem z_icmp_lt (X : Ok κ G cc nL own d mc ms) {x y : Int32} {off : Int} (tgt : Nat) (hd : decode cc pc = .ok (.if_icmp .lt off, 3)) (ht : (pc : Int) + off = (tgt : Int)) (kt : x < y → Z κ G nL (tgt) ls (st) h n ca sl) (kf : ¬ x < y → Z κ G nL (pc + 3) ls (st) h n ca sl) : Z κ G nL (pc) ls (.int y :: .int x :: st) h n ca sl := by
  obtain ⟨p, l, e, R, s, m, args, below, meth, c, Q⟩ := G
  obtain ⟨hx, hb, hml, hown, hts, hK, hB, hR1, hR2, hR3, hR4⟩ := X
  intro H locs la hF hS hl
  exact lv_icmp_lt hx hb hd ht (fun q => kt q H locs la hF hS hl) (fun q => kf q H locs la hF hS hl)
theorem z_if_ge (X : Ok κ G cc nL own d mc ms) {x : Int32} {off : Int} (tgt : Nat) (hd : decode cc pc = .ok (.ifCond .ge off, 3)) (ht : (pc : Int) + off = (tgt : Int)) (kt : 0 ≤ x → Z κ G nL (tgt) ls (st) h n ca sl) (kf : ¬ 0 ≤ x → Z κ G nL (pc + 3) ls (st) h n ca sl) : Z κ G nL (pc) ls (.int x :: st) h n ca sl := by
  obtain ⟨p, l, e, R, s, m, args, below, meth, c, Q⟩ := G
  obtain ⟨hx, hb, hml, hown, hts, hK, hB, hR1, hR2, hR3, hR4⟩ := X
  intro H locs la hF hS hl
  exact lv_if_ge hx hb hd ht (fun q => kt q H locs la hF hS hl) (fun q => kf q H locs la hF hS hl)
theorem z_icmp_ge (X : Ok κ G cc nL own d mc ms) {x y : Int32} {off : Int} (tgt : Nat) (hd : decode cc pc = .ok (.if_icmp .ge off, 3)) (ht : (pc : Int) + off = (tgt : Int)) (kt : y ≤ x → Z κ G nL (tgt) ls (st) h n ca sl) (kf : ¬ y ≤ x → Z κ G nL (pc + 3) ls (st) h n ca sl) : Z κ G nL (pc) ls (.int y :: .int x :: st) h n ca sl := by
  obtain ⟨p, l, e, R, s, m, args, below, meth, c, Q⟩ := G
  obtain ⟨hx, hb, hml, hown, hts, hK, hB, hR1, hR2, hR3, hR4⟩ := X
  intro H locs la hF hS hl
  exact lv_icmp_ge hx hb hd ht (fun q => kt q H locs la hF hS hl) (fun q => kf q H locs la hF hS hl)
theorem z_if_gt (X : Ok κ G cc nL own d mc ms) {x : Int32} {off : Int} (tgt : Nat) (hd : decode cc pc = .ok (.ifCond .gt off, 3)) (ht : (pc : Int) + off = (tgt : Int)) (kt : 0 < x → Z κ G nL (tgt) ls (st) h n ca sl) (kf : ¬ 0 < x → Z κ G nL (pc + 3) ls (st) h n ca sl) : Z κ G nL (pc) ls (.int x :: st) h n ca sl := by
  obtain ⟨p, l, e, R, s, m, args, below, meth, c, Q⟩ := G
  obtain ⟨hx, hb, hml, hown, hts, hK, hB, hR1, hR2, hR3, hR4⟩ := X
  intro H locs la hF hS hl
  exact lv_if_gt hx hb hd ht (fun q => kt q H locs la hF hS hl) (fun q => kf q H locs la hF hS hl)
theorem z_icmp_gt (X : Ok κ G cc nL own d mc ms) {x y : Int32} {off : Int} (tgt : Nat) (hd : decode cc pc = .ok (.if_icmp .gt off, 3)) (ht : (pc : Int) + off = (tgt : Int)) (kt : y < x → Z κ G nL (tgt) ls (st) h n ca sl) (kf : ¬ y < x → Z κ G nL (pc + 3) ls (st) h n ca sl) : Z κ G nL (pc) ls (.int y :: .int x :: st) h n ca sl := by
  obtain ⟨p, l, e, R, s, m, args, below, meth, c, Q⟩ := G
  obtain ⟨hx, hb, hml, hown, hts, hK, hB, hR1, hR2, hR3, hR4⟩ := X
  intro H locs la hF hS hl
  exact lv_icmp_gt hx hb hd ht (fun q => kt q H locs la hF hS hl) (fun q => kf q H locs la hF hS hl)
theorem z_if_le (X : Ok κ G cc nL own d mc ms) {x : Int32} {off : Int} (tgt : Nat) (hd : decode cc pc = .ok (.ifCond .le off, 3)) (ht : (pc : Int) + off = (tgt : Int)) (kt : x ≤ 0 → Z κ G nL (tgt) ls (st) h n ca sl) (kf : ¬ x ≤ 0 → Z κ G nL (pc + 3) ls (st) h n ca sl) : Z κ G nL (pc) ls (.int x :: st) h n ca sl := by
  obtain ⟨p, l, e, R, s, m, args, below, meth, c, Q⟩ := G
  obtain ⟨hx, hb, hml, hown, hts, hK, hB, hR1, hR2, hR3, hR4⟩ := X
  intro H locs la hF hS hl
  exact lv_if_le hx hb hd ht (fun q => kt q H locs la hF hS hl) (fun q => kf q H locs la hF hS hl)
theorem z_icmp_le (X : Ok κ G cc nL own d mc ms) {x y : Int32} {off : Int} (tgt : Nat) (hd : decode cc pc = .ok (.if_icmp .le off, 3)) (ht : (pc : Int) + off = (tgt : Int)) (kt : x ≤ y → Z κ G nL (tgt) ls (st) h n ca sl) (kf : ¬ x ≤ y → Z κ G nL (pc + 3) ls (st) h n ca sl) : Z κ G nL (pc) ls (.int y :: .int x :: st) h n ca sl := by
  obtain ⟨p, l, e, R, s, m, args, below, meth, c, Q⟩ := G
  obtain ⟨hx, hb, hml, hown, hts, hK, hB, hR1, hR2, hR3, hR4⟩ := X
  intro H locs la hF hS hl
  exact lv_icmp_le hx hb hd ht (fun q => kt q H locs la hF hS hl) (fun q => kf q H locs la hF hS hl)
theorem z_goto (X : Ok κ G cc nL own d mc ms) {off : Int} (tgt : Nat) (hd : decode cc pc = .ok (.goto off, 3)) (ht : (pc : Int) + off = (tgt : Int)) (k : Z κ G nL (tgt) ls (st) h n ca sl) : Z κ G nL (pc) ls (st) h n ca sl := by
  obtain ⟨p, l, e, R, s, m, args, below, meth, c, Q⟩ := G
  obtain ⟨hx, hb, hml, hown, hts, hK, hB, hR1, hR2, hR3, hR4⟩ := X
  intro H locs la hF hS hl
  exact lv_goto hx hb hd ht (k H locs la hF hS hl)
theorem z_ifnonnull (X : Ok κ G cc nL own d mc ms) {x : Nat} {off : Int} (tgt : Nat) (hd : decode cc pc = .ok (.ifnonnull off, 3)) (ht : (pc : Int) + off = (tgt : Int)) (k : Z κ G nL (tgt) ls (st) h n ca sl) : Z κ G nL (pc) ls (.ref x :: st) h n ca sl := by
  obtain ⟨p, l, e, R, s, m, args, below, meth, c, Q⟩ := G
  obtain ⟨hx, hb, hml, hown, hts, hK, hB, hR1, hR2, hR3, hR4⟩ := X
  intro H locs la hF hS hl
  exact lv_ifnonnull hx hb hd ht (k H locs la hF hS hl)
theorem z_ifnull (X : Ok κ G cc nL own d mc ms) {x : Nat} {off : Int} (hd : decode cc pc = .ok (.ifnull off, 3)) (k : Z κ G nL (pc + 3) ls (st) h n ca sl) : Z κ G nL (pc) ls (.ref x :: st) h n ca sl := by
  obtain ⟨p, l, e, R, s, m, args, below, meth, c, Q⟩ := G
  obtain ⟨hx, hb, hml, hown, hts, hK, hB, hR1, hR2, hR3, hR4⟩ := X
  intro H locs la hF hS hl
  exact lv_ifnull hx hb hd (k H locs la hF hS hl)
theorem z_ifnullN (X : Ok κ G cc nL own d mc ms) {off : Int} (tgt : Nat) (hd : decode cc pc = .ok (.ifnull off, 3)) (ht : (pc : Int) + off = (tgt : Int)) (k : Z κ G nL (tgt) ls (st) h n ca sl) : Z κ G nL (pc) ls (.null :: st) h n ca sl := by
  obtain ⟨p, l, e, R, s, m, args, below, meth, c, Q⟩ := G
  obtain ⟨hx, hb, hml, hown, hts, hK, hB, hR1, hR2, hR3, hR4⟩ := X
  intro H locs la hF hS hl
  exact lv_ifnullN hx hb hd ht (k H locs la hF hS hl)
theorem z_ifnonnullN (X : Ok κ G cc nL own d mc ms) {off : Int} (hd : decode cc pc = .ok (.ifnonnull off, 3)) (k : Z κ G nL (pc + 3) ls (st) h n ca sl) : Z κ G nL (pc) ls (.null :: st) h n ca sl := by
  obtain ⟨p, l, e, R, s, m, args, below, meth, c, Q⟩ := G
  obtain ⟨hx, hb, hml, hown, hts, hK, hB, hR1, hR2, hR3, hR4⟩ := X
  intro H locs la hF hS hl
  exact lv_ifnonnullN hx hb hd (k H locs la hF hS hl)
theorem z_tableOut (X : Ok κ G cc nL own d mc ms) {dflt lo hi : Int} {offs : Array Int} {len : Nat} {x : Int32} (tgt : Nat) (hd : decode cc pc = .ok (.tableswitch dflt lo hi offs, len)) (hq : x.toInt < lo ∨ hi < x.toInt) (ht : (pc : Int) + dflt = (tgt : Int)) (k : Z κ G nL (tgt) ls (st) h n ca sl) : Z κ G nL (pc) ls (.int x :: st) h n ca sl := by
  obtain ⟨p, l, e, R, s, m, args, below, meth, c, Q⟩ := G
  obtain ⟨hx, hb, hml, hown, hts, hK, hB, hR1, hR2, hR3, hR4⟩ := X
  intro H locs la hF hS hl
  exact lv_tableOut hx hb hd hq ht (k H locs la hF hS hl)
theorem z_tableIn (X : Ok κ G cc nL own d mc ms) {dflt lo hi : Int} {offs : Array Int} {len : Nat} {x : Int32} {off : Int} (tgt : Nat) (hd : decode cc pc = .ok (.tableswitch dflt lo hi offs, len)) (h1 : ¬ x.toInt < lo) (h2 : ¬ hi < x.toInt) (ho : offs[(x.toInt - lo).toNat]? = some off) (ht : (pc : Int) + off = (tgt : Int)) (k : Z κ G nL (tgt) ls (st) h n ca sl) : Z κ G nL (pc) ls (.int x :: st) h n ca sl := by
  obtain ⟨p, l, e, R, s, m, args, below, meth, c, Q⟩ := G
  obtain ⟨hx, hb, hml, hown, hts, hK, hB, hR1, hR2, hR3, hR4⟩ := X
  intro H locs la hF hS hl
  exact lv_tableIn hx hb hd h1 h2 ho ht (k H locs la hF hS hl)
theorem z_lookup (X : Ok κ G cc nL own d mc ms) {dflt : Int} {ps : Array (Int × Int)} {len : Nat} {x : Int32} {off : Int} (tgt : Nat) (hd : decode cc pc = .ok (.lookupswitch dflt ps, len)) (hp : (ps.toList.zip (ps.toList.drop 1)).all (fun (a, next) => a.1 < next.1) = true) (ho : Op.lookupswitch.offset ps.toList dflt x.toInt = off) (ht : (pc : Int) + off = (tgt : Int)) (k : Z κ G nL (tgt) ls (st) h n ca sl) : Z κ G nL (pc) ls (.int x :: st) h n ca sl := by
  obtain ⟨p, l, e, R, s, m, args, below, meth, c, Q⟩ := G
  obtain ⟨hx, hb, hml, hown, hts, hK, hB, hR1, hR2, hR3, hR4⟩ := X
  intro H locs la hF hS hl
  exact lv_lookup hx hb hd hp ho ht (k H locs la hF hS hl)
theorem z_sub {ls' : Lc} (ks : List Nat) (hq : lv_pick ls ks = ls') (k : Z κ G nL (pc) ls' (st) h n ca sl) : Z κ G nL (pc) ls (st) h n ca sl := by
  obtain ⟨p, l, e, R, s, m, args, below, meth, c, Q⟩ := G
  intro H locs la hF hS hl
  exact k H locs la hF hS (lv_sub hl ks hq)
theorem z_heap {h' : Mm} (hq : h = h') (k : Z κ G nL (pc) ls (st) h' n ca sl) : Z κ G nL (pc) ls (st) h n ca sl := by
  subst hq
  exact k
theorem z_st {st' : List Value} (hq : st = st') (k : Z κ G nL (pc) ls (st') h n ca sl) : Z κ G nL (pc) ls (st) h n ca sl := by
  subst hq
  exact k
theorem z_ls {ls' : Lc} (hq : ls = ls') (k : Z κ G nL (pc) ls' (st) h n ca sl) : Z κ G nL (pc) ls (st) h n ca sl := by
  subst hq
  exact k
theorem z_wide {ca' sl' : Nat} (h1 : ca ≤ ca') (h2 : sl ≤ sl') (k : Z κ G nL (pc) ls (st) h n ca' sl') : Z κ G nL (pc) ls (st) h n ca sl := by
  obtain ⟨p, l, e, R, s, m, args, below, meth, c, Q⟩ := G
  intro H locs la hF hS hl
  exact W.widen h1 h2 (k H locs la hF hS hl)
theorem z_topi {x : Int32} (k : ∀ y : Int32, y = x → Z κ G nL (pc) ls (.int y :: st) h n ca sl) : Z κ G nL (pc) ls (.int x :: st) h n ca sl := k x rfl
end ZR
