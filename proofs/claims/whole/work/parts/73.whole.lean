theorem whole_start {p : Program} {e : Env} {s : State} {m : MethodId} {below : List Frame} {meth : Method} {c : Code} (l : Launch) {b L : Nat} {xs : Nat → Int32} (hL : L ≤ 3072) (C0 : lw_At p s m meth c b L xs) : W p l e room_1 s m #[Value.ref b] below meth c s.heap [] 0 0 (lw_Z below #[Value.ref b] s) (entryFrame m ([Value.ref b] : List Value).toArray 4) := by
  obtain ⟨hx, hb, hr, hml, hown, hts, hX, hbl, hlk, hgv⟩ := C0
  obtain ⟨κ, hB, hK⟩ := KK_start hts hgv
  have htg : ∀ w ∈ gtbl, w.before #[Value.ref b] s = true := fun w hw => hts w (List.mem_filter.mp hw).1
  have X : Ok κ (p, l, e, room_1, s, m, #[Value.ref b], below, meth, c, lw_Z below #[Value.ref b] s) cL_law 4 yL_law.cls 60 600000 7302250 := ⟨hx, hb, hml, hown, htg, hK, by rw [hB]; exact Nat.le_refl _, by decide, by decide, by decide, by decide⟩
  have hs : Scr κ (p, l, e, room_1, s, m, #[Value.ref b], below, meth, c, lw_Z below #[Value.ref b] s) b L xs := ⟨hX, hbl, by rw [hB]; omega⟩
  have hret : ∀ (pc : Nat) (ls : Lc) (h : Mm) (n ca sl : Nat), decode cL_law pc = .ok (.ireturn, 1) → ca ≤ 600000 → sl ≤ 7302250 → Z κ (p, l, e, room_1, s, m, #[Value.ref b], below, meth, c, lw_Z below #[Value.ref b] s) 4 pc ls [.int 1] h n ca sl := by
    intro pc ls h n ca sl hd hca hsl H locs la hF hS hl
    refine va_forget (fun q hq => ?_) (W.widen hca hsl (lw_ret hx hb hr hlk hd))
    have := hS.2.2 q hq
    rw [hB] at this
    exact this
  have hF : Fl κ (fun _ => none) s.heap.size s.heap := ⟨rfl, by rw [hB]; exact Nat.le_refl _, fun a c h => by cases h⟩
  rw [lg_entry_eq]
  exact law_entry X hs hL hret s.heap [] _ hF va_S.rf (lv_entry [Value.ref b] (Nat.le_of_ble_eq_true rfl))
