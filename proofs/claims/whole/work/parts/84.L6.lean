theorem s_text {l : Launch} {w : cd_WT} {m : Nat} {S : cd_Sp} {I : cd_Mem} {c : Nat} (H : px_SM w m S I c) : cd_C l w m_C_text 82 3 196 [.ref w.1] S I (px_P l w m c m_M_text 4 [.ref m]) := by
  have hm := H.1.1
  obtain ⟨g, n, i, t, s, sl, wt, k⟩ := H
  obtain ⟨mm, tc, hh, rr, hG, h2, h9, h10, hr⟩ := n
  have hB : px_HB (I (m + 1)) c := ⟨hh, rr, h2, h9, h10, hr⟩
  obtain ⟨B, L, t1, t2, t3⟩ := t
  obtain ⟨g0, g1, g2, ⟨Q, g3, g4⟩, g5⟩ := g
  refine px_imp (c_C_text g1 hG t3 g3 g5) ?_
  rintro r S1 I1 ⟨rfl, ⟨tc', hG1⟩, hT, ⟨Q', y1, y2, y3⟩, z1, z2, z3⟩
  have he : ∀ k, k < 22 → I1 (m + k) = I (m + k) := fun k hk => z3 _ (by omega) (by omega) (by omega) (by omega)
  have h0 : I1 m = I m := he 0 (by decide)
  have h1 := he 1 (by decide)
  have h5 := he 5 (by decide)
  have h6 := he 6 (by decide)
  have h7 := he 7 (by decide)
  have hM : cd_MO w S1 m := by
    refine ⟨g2.1, by rw [(z1 m (by omega)).1]; exact g2.2.1, fun q hq => ?_⟩
    have hq2 : ∀ q ∈ cd_mt, 1 ≤ q.2.1 ∧ q.2.1 ≤ 21 := by decide
    have hq3 := hq2 q hq
    rw [(z1 m (by omega)).2 (by omega), (z1 (m + q.2.1) (by omega)).1]
    exact g2.2.2 q hq
  refine ⟨_, rfl, hM.2.1, px_imp (c_M_text hM (B := B) (L := L) (tc := tc) (by rw [h1]; exact hG.2.2.1.2.2.1) hG.2.2.1.2.2.2.1 (by rw [h0]; exact t1) (by rw [h5]; exact t2) (by rw [h6]; exact k.1) (by rw [h7]; exact k.2)) ?_⟩
  rintro r' S2 I2 ⟨x, rfl, rfl, rfl, x1, x2, x3, x4⟩
  rw [h1] at x1
  rw [h1]
  have q : ∀ b, b ≠ m → b ≠ m + 1 → b ≠ m + 8 → b ≠ m + 9 → b ≠ m + 10 → I2 b = I1 b := fun b b1 b2 b3 b4 b5 => x3 b (by simp only [List.mem_cons, List.not_mem_nil, or_false]; omega)
  have qq : ∀ b, b < w.1 + S.1 → b ≠ m → b ≠ m + 1 → b ≠ m + 8 → b ≠ m + 9 → b ≠ m + 10 → (b < w.1 + 1 ∨ w.1 + 19 ≤ b) → b ≠ w.1 + 55 → b ≠ w.1 + 57 → I2 b = I b := fun b b0 b1 b2 b3 b4 b5 b6 b7 b8 => (q b b1 b2 b3 b4 b5).trans (z3 b b0 (by omega) b7 b8)
  have hB2 := hB.text (tc := tc) B L
  obtain ⟨hh', rr', a1, a2, a3, a4⟩ := hB2
  refine ⟨rfl, ⟨g0, g1.gr (w.1 + 5) z1 (Or.inl rfl) (by omega), hM, ⟨Q', y1, by omega⟩, fun b hb => by rw [z2 b hb]; exact g5 b (by omega)⟩, ⟨mm, tc', hh', rr', ?_, ?_, a2, ?_, a4⟩, ?_, ⟨B, 0, ?_, ⟨by omega, fun j hj => absurd hj (Nat.not_lt_zero _)⟩, ?_, by omega, fun j hj => absurd hj (Nat.not_lt_zero _)⟩, s.fr (fun b _ _ => qq b (by omega) (by omega) (by omega) (by omega) (by omega) (by omega) (by omega) (by omega) (by omega)) (qq _ (by omega) (by omega) (by omega) (by omega) (by omega) (by omega) (by omega) (by omega) (by omega)) (qq _ (by omega) (by omega) (by omega) (by omega) (by omega) (by omega) (by omega) (by omega) (by omega)) (qq _ (by omega) (by omega) (by omega) (by omega) (by omega) (by omega) (by omega) (by omega) (by omega)), sl.fr (fun b _ _ => qq b (by omega) (by omega) (by omega) (by omega) (by omega) (by omega) (by omega) (by omega) (by omega)) (qq _ (by omega) (by omega) (by omega) (by omega) (by omega) (by omega) (by omega) (by omega) (by omega)) (qq _ (by omega) (by omega) (by omega) (by omega) (by omega) (by omega) (by omega) (by omega) (by omega)) (qq _ (by omega) (by omega) (by omega) (by omega) (by omega) (by omega) (by omega) (by omega) (by omega)) (qq _ (by omega) (by omega) (by omega) (by omega) (by omega) (by omega) (by omega) (by omega) (by omega)), wt.fr (by rw [qq w.1 (by omega) (by omega) (by omega) (by omega) (by omega) (by omega) (by omega) (by omega) (by omega)]) (by rw [x4 32 (by omega), h0]) (qq _ (by omega) (by omega) (by omega) (by omega) (by omega) (by omega) (by omega) (by omega) (by omega)) (qq _ (by omega) (by omega) (by omega) (by omega) (by omega) (by omega) (by omega) (by omega) (by omega)), k.fr (qq _ (by omega) (by omega) (by omega) (by omega) (by omega) (by omega) (by omega) (by omega) (by omega)) (qq _ (by omega) (by omega) (by omega) (by omega) (by omega) (by omega) (by omega) (by omega) (by omega))⟩
  · rw [x1]
    exact hG1.fr (cd_ss.rf S2 (w.1 + 19)) (by omega) (by omega) (fun b b1 b2 => q b (by omega) (by omega) (by omega) (by omega) (by omega)) (fun b b1 b2 => q b (by omega) (by omega) (by omega) (by omega) (by omega))
  · rw [x1]; exact a1
  · rw [x1]; exact a3
  · obtain ⟨i0, mg, tg, hg, rg, i1, i2, i3, i4, i5, i6⟩ := i
    unfold px_sI
    rw [qq w.1 (by omega) (by omega) (by omega) (by omega) (by omega) (by omega) (by omega) (by omega) (by omega), x4 3 (by omega), h0, qq (m + 2) (by omega) (by omega) (by omega) (by omega) (by omega) (by omega) (by omega) (by omega) (by omega)]
    exact ⟨i0, mg, tg, hg, rg, i1, fun h => (i2 h).gr g5 (w.1 + 5) z1 (by omega) (by omega) (fun b b0 b1 => qq b (by omega) (by omega) (by omega) (by omega) (by omega) (by omega) (by omega) (by omega) (by omega)), i3, i4, i5, by omega⟩
  · exact x2
  · rw [q (w.1 + 55) (by omega) (by omega) (by omega) (by omega) (by omega)]; exact hT
