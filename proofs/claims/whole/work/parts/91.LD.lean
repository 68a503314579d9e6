theorem whole_start {p : Program} {e : Env} {s : State} {m : MethodId} {below : List Frame} {meth : Method} {c : Code} (l : Launch) (hflags : l.flags = flags0) {b L : Nat} {xs : Nat → Int32} (hL : L ≤ 3072) (C0 : lw_At p s m meth c b L xs) : W p l e room_1 s m #[Value.ref b] below meth c s.heap [] 0 0 (lw_Z below #[Value.ref b] s) (entryFrame m ([Value.ref b] : List Value).toArray 4) := by
  obtain ⟨hx, hcode, hret, hml, hown, hts, hX, hbl, hlocks, hgv⟩ := C0
  obtain ⟨w, hw1, hw2, hK⟩ := pz_K0 hts hgv
  have hO : cd_O w (p, l, e, room_1, s, m, #[Value.ref b], below, meth, c, lw_Z below #[Value.ref b] s) code "CatDoorsLaw" 83 600000 7302250 l := ⟨hx, hcode, hown, fun q hq => hts q (List.mem_filter.mp hq).1, hK, show 83 ≤ room_1.frames by decide, show 41 * 83 ≤ room_1.locals by decide, Nat.le_refl _, Nat.le_refl _, rfl⟩
  have hend : ∀ (k n i : Nat) (S : cd_Sp) (I : cd_Mem), k ≤ 600000 → n ≤ 7302250 → cd_J w (p, l, e, room_1, s, m, #[Value.ref b], below, meth, c, lw_Z below #[Value.ref b] s) k n S I 1385 [some (.ref b), some (.ref w.1), some (.ref (w.1 + 90)), some (.int (nI i))] [.int (nI 1)] := by
    intro k n i S I hk hn H ls locs hR hl hq
    exact va_forget (fun q hq' => by rw [← hw1]; exact hq q hq') (W.widen hk hn (lw_ret hx hcode hret hlocks d_W_law_1385.1))
  have hJ := w_start hO hml (by rw [hw2]; exact hX) (by rw [hw1]; exact hbl) hL hend (S := (0, fun _ => (0, 0), fun _ _ => none)) (I := fun _ _ => nI 0) rfl (fun _ => rfl)
  have hR : cd_R w (0, fun _ => (0, 0), fun _ _ => none) (fun _ _ => nI 0) s.heap := ⟨fun a => trivial, hw1.symm, fun q _ => by rw [hw2]⟩
  rw [lg_entry_eq]
  exact hJ s.heap _ [] hR (cd_entry [Value.ref b] 4 (by simp [Value.category]) (show 1 ≤ 4 by decide)) (fun q hq => by cases hq)
