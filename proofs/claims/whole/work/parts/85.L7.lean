theorem px_SHi.cg {w : cd_WT} {S S' : cd_Sp} {I I' : cd_Mem} (H : px_SHi w S I 4) (hs : ∀ b, b < w.1 + 90 → S'.2.1 b = S.2.1 b ∧ S'.2.2 b = S.2.2 b ∧ I' b = I b) : px_SHi w S' I' 4 := fun a ha => by
  obtain ⟨⟨q1, q2, q3, q4⟩, q5⟩ := H a ha
  unfold cd_SH
  rw [(hs (w.1 + 58) (by omega)).2.1, (hs (w.1 + 62 + 2 * a) (by omega)).1, (hs (w.1 + 62 + 2 * a) (by omega)).2.1, (hs (w.1 + 62 + 2 * a) (by omega)).2.2, (hs (w.1 + 62 + 2 * a + 1) (by omega)).1, (hs (w.1 + 62 + 2 * a + 1) (by omega)).2.2]
  exact ⟨⟨q1, q2, q3, q4⟩, q5⟩
theorem px_SLj.cg {w : cd_WT} {S S' : cd_Sp} {I I' : cd_Mem} (H : px_SLj w S I 5) (hs : ∀ b, b < w.1 + 90 → S'.2.1 b = S.2.1 b ∧ S'.2.2 b = S.2.2 b ∧ I' b = I b) : px_SLj w S' I' 5 := fun a ha => by
  obtain ⟨⟨q1, q2, q3, q4, q5, q6, q7, q8⟩, q9⟩ := H a ha
  unfold cd_SH
  rw [(hs (w.1 + 59) (by omega)).2.1, (hs (w.1 + 70 + 4 * a) (by omega)).1, (hs (w.1 + 70 + 4 * a) (by omega)).2.1, (hs (w.1 + 70 + 4 * a) (by omega)).2.2, (hs (w.1 + 71 + 4 * a) (by omega)).1, (hs (w.1 + 72 + 4 * a) (by omega)).1, (hs (w.1 + 72 + 4 * a) (by omega)).2.1, (hs (w.1 + 72 + 4 * a + 1) (by omega)).1]
  exact ⟨⟨q1, q2, q3, q4, q5, q6, q7, q8⟩, q9⟩
theorem px_V0 {N : Nat → Int32} (h1 : N 1 = nI 0) (h15 : N 15 = nI 0) : cd_V N 0 0 := ⟨h1, by omega, h15, by omega, fun t ht => absurd ht (Nat.not_lt_zero _)⟩
theorem px_H0.hg {w : cd_WT} {S : cd_Sp} {I : cd_Mem} {h : Nat} {N : Nat → Int32} (H : px_H0 w S I h) (hh : h + 18 ≤ w.1 + 112) (hN : ∀ k, k < 1448 → N k = px_n0 k) : cd_HG w S I h N 0 0 := by
  obtain ⟨a1, ⟨m1, m2, m3, m4⟩, ⟨n1, n2, n3, n4⟩, o1, p1⟩ := H
  refine ⟨a1, hh, px_V0 (hN 1 (by decide)) (hN 15 (by decide)), ⟨fun i hi => absurd hi (Nat.not_lt_zero _), ⟨50, by omega, hN 3 (by decide)⟩, Or.inl (hN 6 (by decide)), Or.inl (hN 7 (by decide)), Or.inl (hN 8 (by decide)), Or.inl (hN 9 (by decide))⟩, fun j hj => ?_, fun t ht => absurd ht (Nat.not_lt_zero _), fun k hk => ?_⟩
  · rw [hN j (by omega)]
    rcases (show j = 0 ∨ j = 1 ∨ j = 2 ∨ j = 3 ∨ j = 4 ∨ j = 5 ∨ (6 ≤ j ∧ j < 10) ∨ (10 ≤ j ∧ j < 15) ∨ j = 15 by omega) with e | e | e | e | e | e | e | e | e
    · subst e; exact m3
    · subst e; exact m1
    · subst e; exact m2
    · subst e; exact n1
    · subst e; exact n2
    · subst e; exact n3
    · unfold cd_vw cd_lx cd_lk px_n0
      rw [if_neg (by omega), if_pos (by omega), if_neg (by omega), if_neg (by omega), if_pos (by omega), if_neg (by omega), if_neg (by omega), if_neg (by omega), if_neg (by omega)]
      exact n4 _ (by omega) (by omega)
    · unfold cd_vw cd_lx cd_lk px_n0
      rw [if_neg (by omega), if_neg (by omega), if_pos (by omega), if_neg (by omega), if_neg (by omega), if_neg (by omega), if_pos (by omega), if_neg (by omega), if_neg (by omega), if_neg (by omega), if_neg (by omega)]
      exact o1 _ (by omega)
    · subst e; exact m4
  · rw [p1 k hk]; rfl
theorem px_start {w : cd_WT} {S0 S1 S3 : cd_Sp} {I1 I3 : cd_Mem} {m : Nat} (hm : m = w.1 + 90) (hN : px_CN w S0 S1 I1) (hz : ∀ b, w.1 + 90 ≤ b → (S0.2.1 b).1 = 0) (hM : px_MN w (cd_al S1 m (1, 7)) S3 (cd_set I1 m (fun _ => nI 0)) I3 m) : px_SM w m S3 I3 0 := by
  obtain ⟨a1, a2, a3, a4, a5, a6⟩ := hN
  obtain ⟨b1, b2, b3, b4, b5, b6⟩ := hM
  have hs : ∀ b, b < w.1 + 90 → S3.2.1 b = S1.2.1 b ∧ S3.2.2 b = S1.2.2 b ∧ I3 b = I1 b := fun b hb => by
    obtain ⟨q1, q2, q3⟩ := b3 b (by omega)
    rw [q1, q2, q3, cd_al_n (by omega), cd_al_rn (by omega), cd_set_ne _ _ (by omega)]
    exact ⟨rfl, rfl, rfl⟩
  have hBF : px_BF w S3 I3 := a3.cg (fun b c1 c2 => ⟨(hs b (by omega)).1, fun _ _ => (hs b (by omega)).2.1, (hs b (by omega)).2.2⟩)
  have hSH := a4.cg hs
  have hSL := a5.cg hs
  have hI : I3 m = fun _ => nI 0 := b4.trans (cd_set_eq _ _ _)
  have row : ∀ q ∈ cd_mt, q.2.1 ≠ 1 → ∀ k, k < q.2.2.2 → I3 (m + q.2.1) k = px_mi q.2.1 k := b6
  have r2 : ∀ k, k < 1448 → I3 (m + 2) k = nI 0 := fun k hk => row (1, 2, 2, 1448) (by decide) (by decide) k hk
  have r6 : ∀ k, k < 12 → I3 (m + 6) k = nI (px_kc k) := fun k hk => row (13, 6, 4, 12) (by decide) (by decide) k hk
  have r7 : ∀ k, k < 4 → I3 (m + 7) k = nI (px_ka k) := fun k hk => row (14, 7, 2, 4) (by decide) (by decide) k hk
  have r13 : ∀ k, k < 4 → I3 (m + 13) k = -1 := fun k hk => row (23, 13, 2, 4) (by decide) (by decide) k hk
  have r14 : ∀ k, k < 4 → I3 (m + 14) k = nI 0 := fun k hk => row (24, 14, 2, 4) (by decide) (by decide) k hk
  have r15 : ∀ k, k < 96 → I3 (m + 15) k = nI 0 := fun k hk => row (25, 15, 2, 96) (by decide) (by decide) k hk
  have r16 : ∀ k, k < 5 → I3 (m + 16) k = nI 0 := fun k hk => row (26, 16, 2, 5) (by decide) (by decide) k hk
  obtain ⟨⟨c0, c1, c2, c3, c4, c5, c6, c7, c8⟩, d, ⟨e1, e2, e3, e4⟩, ⟨f0, f1, f2⟩, g1, g2, g3⟩ := hBF
  refine ⟨⟨hm, ⟨c0, c1, c2, c3, c4, c5, c6, c7, c8, g1.1, g2.1, g3.1, d, e1, e2, e3, e4, fun i hi => (hSH i hi).1, fun j hj => (hSL j hj).1⟩, b2, ⟨0, ?_, by omega⟩, fun b hb => ?_⟩, ⟨0, 0, 0, 0, g1.hg (by omega) b5, b5 2 (by decide), by omega, b5 10 (by decide), by omega⟩, ⟨?_, 0, 0, 0, 0, px_V0 (r2 1 (by decide)) (r2 15 (by decide)), fun h => absurd f0 h, r2 2 (by decide), by omega, r2 10 (by decide), by omega⟩, ⟨fun _ => 0, 0, ?_, ⟨by omega, fun j hj => absurd hj (Nat.not_lt_zero _)⟩, f2, by omega, fun j hj => absurd hj (Nat.not_lt_zero _)⟩, ⟨fun s hs => ?_, fun s hs => ⟨0, by omega, r14 s hs, Or.inl (r13 s hs)⟩, fun j hj => ?_⟩, ⟨fun j hj => ?_, fun j hj h => ?_⟩, ⟨0, f1, ?_, by omega, fun j hj => absurd hj (Nat.not_lt_zero _)⟩, r6, r7⟩
  · have q : S3.1 = S1.1 + 1 + 21 := b1
    omega
  · have q : S3.1 = S1.1 + 1 + 21 := b1
    rw [(b3 b (by omega)).1, cd_al_n (by omega), a6 b (by omega)]
    exact hz b (by omega)
  · rw [f0, hI]
  · rw [hI]
  · rw [r13 s hs, r14 s hs]
    refine ⟨(hSH s hs).2.1, (hSH s hs).2.2.1, fun k hk => ?_⟩
    rw [r15 _ (by omega)]
    exact (hSH s hs).2.2.2 k hk
  · rw [r15 j hj]
    exact Or.inr ⟨by decide, by decide⟩
  · rw [r16 j hj]
    exact ⟨(hSL j hj).2, fun h => absurd h (by decide), fun h => absurd h (by decide), fun h => absurd h (by decide)⟩
  · rw [r16 j hj] at h
    exact absurd h (by decide)
  · rw [hI]
