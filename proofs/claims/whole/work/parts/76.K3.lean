/-- a house as it begins -/
def px_H0 (w : cd_WT) (S : cd_Sp) (I : cd_Mem) (h : Nat) : Prop := cd_HO w S h ∧ (I h 3 = nI 0 ∧ I h 4 = nI 0 ∧ I h 5 = nI 1 ∧ I h 7 = nI 0) ∧ (I (h + 1) 0 = nI 50 ∧ I (h + 1) 1 = nI 20 ∧ I (h + 1) 2 = nI 10 ∧ ∀ k, 3 ≤ k → k < 7 → I (h + 1) k = nI 0) ∧ (∀ k, k < 5 → I (h + 2) k = nI 0) ∧ ∀ k, k < 3 → I (h + 5) k = cd_NONE
theorem px_H0.cg {w : cd_WT} {S S' : cd_Sp} {I I' : cd_Mem} {h : Nat} (H : px_H0 w S I h) (hs : ∀ b, h ≤ b → b < h + 18 → S'.2.1 b = S.2.1 b ∧ S'.2.2 b = S.2.2 b ∧ I' b = I b) : px_H0 w S' I' h := by
  obtain ⟨⟨a1, a2, a3, a4, a5, a6, a7, a8⟩, m1, m2, m3, m4⟩ := H
  have e0 := hs h (by omega) (by omega)
  have e1 := hs (h + 1) (by omega) (by omega)
  have e2 := hs (h + 2) (by omega) (by omega)
  have e3 := hs (h + 3) (by omega) (by omega)
  have e4 := hs (h + 4) (by omega) (by omega)
  have e5 := hs (h + 5) (by omega) (by omega)
  unfold px_H0 cd_HO
  rw [e0.1, e0.2.1, e0.2.2, e1.1, e1.2.2, e2.1, e2.2.2, e3.1, e3.2.1, e4.1, e5.1, e5.2.2]
  exact ⟨⟨a1, a2, a3, a4, a5, a6, a7, fun i hi => by rw [(hs (h + 6 + i) (by omega) (by omega)).1]; exact a8 i hi⟩, m1, m2, m3, m4⟩
theorem px_HN.h0 {w : cd_WT} {S S2 : cd_Sp} {I I2 : cd_Mem} {h : Nat} (H : px_HN w S S2 I I2 h) : px_H0 w S2 I2 h := ⟨H.2.2.1, H.2.2.2.2.1, H.2.2.2.2.2.1, H.2.2.2.2.2.2.1, H.2.2.2.2.2.2.2⟩
/-- the component's object but for its sheets and slots -/
def px_BF (w : cd_WT) (S : cd_Sp) (I : cd_Mem) : Prop := (S.2.1 w.1 = (1, 6) ∧ S.2.2 w.1 0 = some (w.1 + 1) ∧ S.2.2 w.1 1 = some (w.1 + 19) ∧ S.2.2 w.1 2 = some (w.1 + 37) ∧ S.2.2 w.1 4 = some (w.1 + 55) ∧ S.2.2 w.1 5 = some (w.1 + 58) ∧ S.2.2 w.1 6 = some (w.1 + 59) ∧ S.2.2 w.1 7 = some (w.1 + 60) ∧ S.2.2 w.1 9 = some (w.1 + 61)) ∧ (S.2.1 (w.1 + 55) = (1, 4) ∧ S.2.2 (w.1 + 55) 7 = some (w.1 + 56) ∧ S.2.2 (w.1 + 55) 8 = some (w.1 + 57) ∧ S.2.1 (w.1 + 56) = (3, 96) ∧ S.2.1 (w.1 + 57) = (2, 96)) ∧ (S.2.1 (w.1 + 58) = (8, 4) ∧ S.2.1 (w.1 + 59) = (9, 5) ∧ S.2.1 (w.1 + 60) = (2, 60) ∧ S.2.1 (w.1 + 61) = (2, 12)) ∧ (I w.1 3 = nI 0 ∧ I w.1 8 = nI 0 ∧ I (w.1 + 55) 0 = nI 0) ∧ px_H0 w S I (w.1 + 1) ∧ px_H0 w S I (w.1 + 19) ∧ px_H0 w S I (w.1 + 37)
theorem px_BF.cg {w : cd_WT} {S S' : cd_Sp} {I I' : cd_Mem} (H : px_BF w S I) (hs : ∀ b, w.1 ≤ b → b < w.1 + 62 → S'.2.1 b = S.2.1 b ∧ (b ≠ w.1 + 58 → b ≠ w.1 + 59 → S'.2.2 b = S.2.2 b) ∧ I' b = I b) : px_BF w S' I' := by
  obtain ⟨a1, a2, a3, a4, a5, a6, a7⟩ := H
  have f : ∀ h, w.1 ≤ h → h + 18 ≤ w.1 + 55 → ∀ b, h ≤ b → b < h + 18 → S'.2.1 b = S.2.1 b ∧ S'.2.2 b = S.2.2 b ∧ I' b = I b := fun h h1 h2 b b1 b2 => ⟨(hs b (by omega) (by omega)).1, (hs b (by omega) (by omega)).2.1 (by omega) (by omega), (hs b (by omega) (by omega)).2.2⟩
  refine ⟨?_, ?_, ?_, ?_, a5.cg (f _ (by omega) (by omega)), a6.cg (f _ (by omega) (by omega)), a7.cg (f _ (by omega) (by omega))⟩
  · rw [(hs w.1 (by omega) (by omega)).1, (hs w.1 (by omega) (by omega)).2.1 (by omega) (by omega)]; exact a1
  · rw [(hs (w.1 + 55) (by omega) (by omega)).1, (hs (w.1 + 55) (by omega) (by omega)).2.1 (by omega) (by omega), (hs (w.1 + 56) (by omega) (by omega)).1, (hs (w.1 + 57) (by omega) (by omega)).1]; exact a2
  · rw [(hs (w.1 + 58) (by omega) (by omega)).1, (hs (w.1 + 59) (by omega) (by omega)).1, (hs (w.1 + 60) (by omega) (by omega)).1, (hs (w.1 + 61) (by omega) (by omega)).1]; exact a3
  · rw [(hs w.1 (by omega) (by omega)).2.2, (hs (w.1 + 55) (by omega) (by omega)).2.2]; exact a4
def px_SHi (w : cd_WT) (S : cd_Sp) (I : cd_Mem) (i : Nat) : Prop := ∀ a, a < i → (S.2.2 (w.1 + 58) a = some (w.1 + 62 + 2 * a) ∧ cd_SH S (w.1 + 62 + 2 * a)) ∧ I (w.1 + 62 + 2 * a) 0 = (-1) ∧ I (w.1 + 62 + 2 * a) 1 = nI 0 ∧ ∀ k, k < 24 → I (w.1 + 62 + 2 * a + 1) k = nI 0
def px_SLj (w : cd_WT) (S : cd_Sp) (I : cd_Mem) (j : Nat) : Prop := ∀ a, a < j → (S.2.2 (w.1 + 59) a = some (w.1 + 70 + 4 * a) ∧ S.2.1 (w.1 + 70 + 4 * a) = (1, 3) ∧ S.2.2 (w.1 + 70 + 4 * a) 2 = some (w.1 + 71 + 4 * a) ∧ S.2.2 (w.1 + 70 + 4 * a) 3 = some (w.1 + 72 + 4 * a) ∧ S.2.1 (w.1 + 71 + 4 * a) = (1, 0) ∧ cd_SH S (w.1 + 72 + 4 * a)) ∧ I (w.1 + 70 + 4 * a) 0 = nI 0
def px_C3 (w : cd_WT) (S S2 : cd_Sp) (I2 : cd_Mem) (i : Nat) : Prop := S2.1 = 62 + 2 * i ∧ px_BF w S2 I2 ∧ px_SHi w S2 I2 i ∧ ∀ b, w.1 + 62 + 2 * i ≤ b → S2.2.1 b = S.2.1 b
def px_C4 (w : cd_WT) (S S2 : cd_Sp) (I2 : cd_Mem) (j : Nat) : Prop := S2.1 = 70 + 4 * j ∧ px_BF w S2 I2 ∧ px_SHi w S2 I2 4 ∧ px_SLj w S2 I2 j ∧ ∀ b, w.1 + 70 + 4 * j ≤ b → S2.2.1 b = S.2.1 b
theorem px_C3.step {w : cd_WT} {S S2 : cd_Sp} {I2 : cd_Mem} {i : Nat} (H : px_C3 w S S2 I2 i) (hi : i < 4) {R : Nat → Int32} (h0 : R 0 = (-1)) (h1 : R 1 = nI 0) : px_C3 w S (cd_sr (cd_sr (cd_al (cd_al S2 (w.1 + 62 + 2 * i) (1, 2)) (w.1 + 63 + 2 * i) (2, 24)) (w.1 + 62 + 2 * i) 2 (w.1 + 63 + 2 * i)) (w.1 + 58) i (w.1 + 62 + 2 * i)) (cd_set (cd_set I2 (w.1 + 62 + 2 * i) R) (w.1 + 63 + 2 * i) (fun _ => nI 0)) (i + 1) := by
  obtain ⟨a1, a2, a3, a4⟩ := H
  refine ⟨by show S2.1 + 1 + 1 = _; omega, a2.cg (fun b b1 b2 => ⟨?_, fun b3 b4 => ?_, ?_⟩), fun a ha => ?_, fun b hb => ?_⟩
  · rw [cd_sr_s, cd_sr_s, cd_al_n (by omega), cd_al_n (by omega)]
  · rw [cd_sr_n b3, cd_sr_n (by omega), cd_al_rn (by omega), cd_al_rn (by omega)]
  · rw [cd_set_ne _ _ (by omega), cd_set_ne _ _ (by omega)]
  · by_cases e : a = i
    · subst e
      have z : w.1 + 62 + 2 * a + 1 = w.1 + 63 + 2 * a := by omega
      refine ⟨⟨cd_sr_e _ _ _ _, ?_, ?_, ?_⟩, ?_, ?_, fun k hk => ?_⟩
      · rw [cd_sr_s, cd_sr_s, cd_al_n (by omega)]; exact cd_al_e _ _ _
      · rw [cd_sr_n (by omega), z]; exact cd_sr_e _ _ _ _
      · rw [cd_sr_s, cd_sr_s, z]; exact cd_al_e _ _ _
      · rw [cd_set_ne _ _ (by omega), cd_set_eq]; exact h0
      · rw [cd_set_ne _ _ (by omega), cd_set_eq]; exact h1
      · rw [z, cd_set_eq]
    · obtain ⟨⟨q1, q2, q3, q4⟩, q5⟩ := a3 a (by omega)
      unfold cd_SH
      rw [cd_sr_o e, cd_sr_n (by omega), cd_al_rn (by omega), cd_al_rn (by omega), cd_sr_s, cd_sr_s, cd_al_n (by omega), cd_al_n (by omega), cd_sr_n (by omega), cd_sr_n (by omega), cd_al_rn (by omega), cd_al_rn (by omega), cd_sr_s, cd_sr_s, cd_al_n (by omega), cd_al_n (by omega), cd_set_ne _ _ (by omega), cd_set_ne _ _ (by omega), cd_set_ne _ _ (by omega), cd_set_ne _ _ (by omega)]
      exact ⟨⟨q1, q2, q3, q4⟩, q5⟩
  · rw [cd_sr_s, cd_sr_s, cd_al_n (by omega), cd_al_n (by omega)]; exact a4 b (by omega)
theorem px_C4.step {w : cd_WT} {S S2 S3 : cd_Sp} {I2 I3 : cd_Mem} {j : Nat} (H : px_C4 w S S2 I2 j) (hj : j < 5) (z1 : S3.1 = S2.1 + 4) (z2 : ∀ b, b < w.1 + 70 + 4 * j ∨ w.1 + 74 + 4 * j ≤ b → S3.2.1 b = S2.2.1 b ∧ S3.2.2 b = S2.2.2 b) (z3 : S3.2.1 (w.1 + 70 + 4 * j) = (1, 3) ∧ S3.2.2 (w.1 + 70 + 4 * j) 2 = some (w.1 + 71 + 4 * j) ∧ S3.2.2 (w.1 + 70 + 4 * j) 3 = some (w.1 + 72 + 4 * j) ∧ S3.2.1 (w.1 + 71 + 4 * j) = (1, 0) ∧ cd_SH S3 (w.1 + 72 + 4 * j)) (z4 : I3 (w.1 + 70 + 4 * j) 0 = nI 0) (z5 : ∀ b, b < w.1 + 70 + 4 * j ∨ w.1 + 74 + 4 * j ≤ b → I3 b = I2 b) : px_C4 w S (cd_sr S3 (w.1 + 59) j (w.1 + 70 + 4 * j)) I3 (j + 1) := by
  obtain ⟨a1, a2, a3, a4, a5⟩ := H
  have sn : ∀ b, b < w.1 + 70 + 4 * j ∨ w.1 + 74 + 4 * j ≤ b → (cd_sr S3 (w.1 + 59) j (w.1 + 70 + 4 * j)).2.1 b = S2.2.1 b := fun b hb => (z2 b hb).1
  have rn : ∀ b, b < w.1 + 70 + 4 * j ∨ w.1 + 74 + 4 * j ≤ b → b ≠ w.1 + 59 → (cd_sr S3 (w.1 + 59) j (w.1 + 70 + 4 * j)).2.2 b = S2.2.2 b := fun b hb h => (cd_sr_n h).trans (z2 b hb).2
  refine ⟨by show S3.1 = _; omega, a2.cg (fun b b1 b2 => ⟨sn b (by omega), fun b3 b4 => rn b (by omega) b4, z5 b (by omega)⟩), fun a ha => ?_, fun a ha => ?_, fun b hb => (sn b (by omega)).trans (a5 b (by omega))⟩
  · obtain ⟨⟨q1, q2, q3, q4⟩, q5⟩ := a3 a ha
    unfold cd_SH
    rw [rn (w.1 + 58) (by omega) (by omega), sn (w.1 + 62 + 2 * a) (by omega), rn (w.1 + 62 + 2 * a) (by omega) (by omega), sn (w.1 + 62 + 2 * a + 1) (by omega), z5 (w.1 + 62 + 2 * a) (by omega), z5 (w.1 + 62 + 2 * a + 1) (by omega)]
    exact ⟨⟨q1, q2, q3, q4⟩, q5⟩
  · by_cases e : a = j
    · subst e
      have z3' := z3
      unfold cd_SH at z3' ⊢
      refine ⟨⟨cd_sr_e _ _ _ _, ?_⟩, z4⟩
      rw [cd_sr_s, cd_sr_s, cd_sr_s, cd_sr_s, cd_sr_n (by omega), cd_sr_n (by omega)]
      exact z3'
    · obtain ⟨⟨q1, q2, q3, q4, q5, q6⟩, q7⟩ := a4 a (by omega)
      unfold cd_SH at q6 ⊢
      rw [cd_sr_o e, (z2 (w.1 + 59) (by omega)).2, sn (w.1 + 70 + 4 * a) (by omega), rn (w.1 + 70 + 4 * a) (by omega) (by omega), sn (w.1 + 71 + 4 * a) (by omega), sn (w.1 + 72 + 4 * a) (by omega), rn (w.1 + 72 + 4 * a) (by omega) (by omega), sn (w.1 + 72 + 4 * a + 1) (by omega), z5 (w.1 + 70 + 4 * a) (by omega)]
      exact ⟨⟨q1, q2, q3, q4, q5, q6⟩, q7⟩
/-- a new object of the component -/
def px_CN (w : cd_WT) (S S2 : cd_Sp) (I2 : cd_Mem) : Prop := S2.1 = 90 ∧ cd_CD w S2 ∧ px_BF w S2 I2 ∧ px_SHi w S2 I2 4 ∧ px_SLj w S2 I2 5 ∧ ∀ b, w.1 + 90 ≤ b → S2.2.1 b = S.2.1 b
theorem px_C4.fin {w : cd_WT} {S S2 : cd_Sp} {I2 : cd_Mem} (H : px_C4 w S S2 I2 5) : px_CN w S S2 I2 := by
  obtain ⟨a1, a2, a3, a4, a5⟩ := H
  obtain ⟨⟨b0, b1, b2, b3, b4, b5, b6, b7, b8⟩, c, ⟨d1, d2, d3, d4⟩, e, f1, f2, f3⟩ := id a2
  exact ⟨a1, ⟨b0, b1, b2, b3, b4, b5, b6, b7, b8, f1.1, f2.1, f3.1, c, d1, d2, d3, d4, fun i hi => (a3 i hi).1, fun j hj => (a4 j hj).1⟩, a2, a3, a4, fun b hb => a5 b (by omega)⟩
