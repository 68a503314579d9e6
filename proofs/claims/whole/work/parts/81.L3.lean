/-- the component answered x; then the reference answers x, and both agree again -/
def px_P (l : Launch) (w : cd_WT) (m c : Nat) (mt : cd_MT) (d : Nat) (av : List Value) : cd_Pt := fun r S1 I1 => ∃ x, r = some (.int x) ∧ S1.2.1 m = (1, 7) ∧ cd_C l w mt d 0 0 av S1 I1 (fun r' S2 I2 => r' = some (.int x) ∧ px_SM w m S2 I2 (c + 1))
theorem px_SM.nowF {w : cd_WT} {m : Nat} {S : cd_Sp} {I I1 I2 : cd_Mem} {c mm' tc : Nat} {N' : Nat → Int32} (H : px_SM w m S I c) (hG : cd_HG w S I1 (w.1 + 1) N' mm' tc) (ho : cd_ofh w (w.1 + 1) I I1) (hB : px_HB N' (c + 1)) (h2 : I2 (m + 1) = N') (h3 : cd_off I1 I2 [m + 1, m + 4, m + 11, m + 12]) : px_SM w m S I2 (c + 1) := by
  have hm := H.1.1
  have q : ∀ b, b ≠ m + 1 → b ≠ m + 4 → b ≠ m + 11 → b ≠ m + 12 → I2 b = I1 b := fun b b1 b2 b3 b4 => h3 b (by simp only [List.mem_cons, List.not_mem_nil, or_false]; omega)
  obtain ⟨hh, rr, a1, a2, a3, a4⟩ := hB
  subst h2
  exact H.now (hG.fr (cd_ss.rf S (w.1 + 19)) (by omega) (by omega) (fun b b1 b2 => q b (by omega) (by omega) (by omega) (by omega)) (fun b b1 b2 => q b (by omega) (by omega) (by omega) (by omega))) a1 a2 a3 a4 (fun b b1 b2 => (h3 b b2).trans (ho b b1))
theorem px_ofm {w : cd_WT} {m : Nat} {h : Nat} {I I1 : cd_Mem} (hm : m = w.1 + 90) (hh : h = w.1 + 1 ∨ h = w.1 + 19) (ho : cd_ofh w h I I1) : ∀ k, k < 22 → I1 (m + k) = I (m + k) := fun k hk => ho _ (by unfold cd_wr; omega)
theorem s_asking {l : Launch} {w : cd_WT} {m : Nat} {S : cd_Sp} {I : cd_Mem} {c : Nat} (H : px_SM w m S I c) (k h b e : Int32) : cd_C l w m_C_asking 1 0 0 [.ref w.1, .int k, .int h, .int b, .int e] S I (px_P l w m c m_M_asking 2 [.ref m, .int k, .int h, .int b, .int e]) := by
  obtain ⟨mm, tc, hh, rr, hG, h2, h9, h10, hr⟩ := H.2.1
  have hB : px_HB (I (m + 1)) c := ⟨hh, rr, h2, h9, h10, hr⟩
  have hm := H.1.1
  refine px_imp (c_C_asking H.1.2.1 hG k h b e) ?_
  rintro r S1 I1 ⟨x, rfl, rfl, rfl, ⟨mm', hG'⟩, ho⟩
  have he := px_ofm hm (Or.inl rfl) ho
  have e1 := he 1 (by decide)
  have hV : cd_V (I1 (m + 1)) mm tc := by rw [e1]; exact hG.2.2.1
  refine ⟨_, rfl, H.1.2.2.1.2.1, px_imp (c_M_asking H.1.2.2.1 mm tc hV k h b e) ?_⟩
  rintro r' S2 I2 ⟨rfl, rfl, rfl⟩
  rw [e1]
  exact ⟨rfl, H.nowF hG' ho (hB.asking mm k h b e) (cd_set_eq _ _ _) (cd_off.set _ _ List.mem_cons_self)⟩
theorem s_told {l : Launch} {w : cd_WT} {m : Nat} {S : cd_Sp} {I : cd_Mem} {c : Nat} (H : px_SM w m S I c) (a z : Int32) : cd_C l w m_C_told 4 0 0 [.ref w.1, .int a, .int z] S I (px_P l w m c m_M_told 3 [.ref m, .int a, .int z]) := by
  obtain ⟨mm, tc, hh, rr, hG, h2, h9, h10, hr⟩ := H.2.1
  have hB : px_HB (I (m + 1)) c := ⟨hh, rr, h2, h9, h10, hr⟩
  have hm := H.1.1
  refine px_imp (c_C_told H.1.2.1 hG a z) ?_
  rintro r S1 I1 ⟨x, rfl, rfl, rfl, ⟨mm', hG'⟩, ho⟩
  have he := px_ofm hm (Or.inl rfl) ho
  have e1 := he 1 (by decide)
  have hV : cd_V (I1 (m + 1)) mm tc := by rw [e1]; exact hG.2.2.1
  refine ⟨_, rfl, H.1.2.2.1.2.1, px_imp (c_M_told H.1.2.2.1 mm tc hV a z) ?_⟩
  rintro r' S2 I2 ⟨x, rfl, rfl, rfl, h3⟩
  rw [e1]
  exact ⟨rfl, H.nowF hG' ho (hB.mo) ((h3 (m + 1) (by simp only [List.mem_cons, List.not_mem_nil, or_false]; omega)).trans e1) (fun b hb => h3 b (by simp only [List.mem_cons, List.not_mem_nil, or_false] at hb ⊢; omega))⟩
theorem s_as {l : Launch} {w : cd_WT} {m : Nat} {S : cd_Sp} {I : cd_Mem} {c : Nat} (H : px_SM w m S I c) (a k : Int32) : cd_C l w m_C_as 1 0 0 [.ref w.1, .int a, .int k] S I (px_P l w m c m_M_as 2 [.ref m, .int a, .int k]) := by
  obtain ⟨mm, tc, hh, rr, hG, h2, h9, h10, hr⟩ := H.2.1
  have hB : px_HB (I (m + 1)) c := ⟨hh, rr, h2, h9, h10, hr⟩
  have hm := H.1.1
  refine px_imp (c_C_as H.1.2.1 hG a k) ?_
  rintro r S1 I1 ⟨x, rfl, rfl, rfl, ⟨mm', hG'⟩, ho⟩
  have he := px_ofm hm (Or.inl rfl) ho
  have e1 := he 1 (by decide)
  have hV : cd_V (I1 (m + 1)) mm tc := by rw [e1]; exact hG.2.2.1
  refine ⟨_, rfl, H.1.2.2.1.2.1, px_imp (c_M_as H.1.2.2.1 mm tc hV a k) ?_⟩
  rintro r' S2 I2 ⟨rfl, rfl, rfl⟩
  rw [e1]
  exact ⟨rfl, H.nowF hG' ho (hB.mo) e1 (cd_off.rf _ _)⟩
theorem s_turns {l : Launch} {w : cd_WT} {m : Nat} {S : cd_Sp} {I : cd_Mem} {c : Nat} (H : px_SM w m S I c) (a k : Int32) : cd_C l w m_C_turns 1 0 0 [.ref w.1, .int a, .int k] S I (px_P l w m c m_M_turns 2 [.ref m, .int a, .int k]) := by
  obtain ⟨mm, tc, hh, rr, hG, h2, h9, h10, hr⟩ := H.2.1
  have hB : px_HB (I (m + 1)) c := ⟨hh, rr, h2, h9, h10, hr⟩
  have hm := H.1.1
  refine px_imp (c_C_turns H.1.2.1 hG a k) ?_
  rintro r S1 I1 ⟨x, rfl, rfl, rfl, ⟨mm', hG'⟩, ho⟩
  have he := px_ofm hm (Or.inl rfl) ho
  have e1 := he 1 (by decide)
  have hV : cd_V (I1 (m + 1)) mm tc := by rw [e1]; exact hG.2.2.1
  refine ⟨_, rfl, H.1.2.2.1.2.1, px_imp (c_M_turns H.1.2.2.1 mm tc hV a k) ?_⟩
  rintro r' S2 I2 ⟨rfl, rfl, rfl⟩
  rw [e1]
  exact ⟨rfl, H.nowF hG' ho (hB.turns a k) (cd_set_eq _ _ _) (cd_off.set _ _ List.mem_cons_self)⟩
theorem s_set {l : Launch} {w : cd_WT} {m : Nat} {S : cd_Sp} {I : cd_Mem} {c : Nat} (H : px_SM w m S I c) (a z v : Int32) : cd_C l w m_C_set 1 0 0 [.ref w.1, .int a, .int z, .int v] S I (px_P l w m c m_M_set 2 [.ref m, .int a, .int z, .int v]) := by
  obtain ⟨mm, tc, hh, rr, hG, h2, h9, h10, hr⟩ := H.2.1
  have hB : px_HB (I (m + 1)) c := ⟨hh, rr, h2, h9, h10, hr⟩
  have hm := H.1.1
  refine px_imp (c_C_set H.1.2.1 hG a z v) ?_
  rintro r S1 I1 ⟨x, rfl, rfl, rfl, ⟨mm', hG'⟩, ho⟩
  have he := px_ofm hm (Or.inl rfl) ho
  have e1 := he 1 (by decide)
  have hV : cd_V (I1 (m + 1)) mm tc := by rw [e1]; exact hG.2.2.1
  refine ⟨_, rfl, H.1.2.2.1.2.1, px_imp (c_M_set H.1.2.2.1 mm tc hV a z v) ?_⟩
  rintro r' S2 I2 ⟨rfl, rfl, rfl⟩
  rw [e1]
  exact ⟨rfl, H.nowF hG' ho (hB.set a z v) (cd_set_eq _ _ _) (cd_off.set _ _ List.mem_cons_self)⟩
theorem s_rule {l : Launch} {w : cd_WT} {m : Nat} {S : cd_Sp} {I : cd_Mem} {c : Nat} (H : px_SM w m S I c) (z v : Int32) : cd_C l w m_C_rule 1 0 0 [.ref w.1, .int z, .int v] S I (px_P l w m c m_M_rule 1 [.ref m, .int z, .int v]) := by
  obtain ⟨mm, tc, hh, rr, hG, h2, h9, h10, hr⟩ := H.2.1
  have hB : px_HB (I (m + 1)) c := ⟨hh, rr, h2, h9, h10, hr⟩
  have hm := H.1.1
  refine px_imp (c_C_rule H.1.2.1 hG z v) ?_
  rintro r S1 I1 ⟨x, rfl, rfl, rfl, ⟨mm', hG'⟩, ho⟩
  have he := px_ofm hm (Or.inl rfl) ho
  have e1 := he 1 (by decide)
  have hV : cd_V (I1 (m + 1)) mm tc := by rw [e1]; exact hG.2.2.1
  refine ⟨_, rfl, H.1.2.2.1.2.1, px_imp (c_M_rule H.1.2.2.1 z v) ?_⟩
  rintro r' S2 I2 ⟨rfl, rfl, rfl⟩
  rw [e1]
  exact ⟨rfl, H.nowF hG' ho (hB.rule z v) (cd_set_eq _ _ _) (cd_off.set _ _ List.mem_cons_self)⟩
theorem s_opens {l : Launch} {w : cd_WT} {m : Nat} {S : cd_Sp} {I : cd_Mem} {c : Nat} (H : px_SM w m S I c) (a : Int32) : cd_C l w m_C_opens 4 0 0 [.ref w.1, .int a] S I (px_P l w m c m_M_opens 4 [.ref m, .int a]) := by
  obtain ⟨mm, tc, hh, rr, hG, h2, h9, h10, hr⟩ := H.2.1
  have hB : px_HB (I (m + 1)) c := ⟨hh, rr, h2, h9, h10, hr⟩
  have hm := H.1.1
  refine px_imp (c_C_opens H.1.2.1 hG a) ?_
  rintro r S1 I1 ⟨x, rfl, rfl, rfl, ⟨mm', hG'⟩, ho⟩
  have he := px_ofm hm (Or.inl rfl) ho
  have e1 := he 1 (by decide)
  have hV : cd_V (I1 (m + 1)) mm tc := by rw [e1]; exact hG.2.2.1
  refine ⟨_, rfl, H.1.2.2.1.2.1, px_imp (c_M_opens H.1.2.2.1 mm tc hV a) ?_⟩
  rintro r' S2 I2 ⟨rfl, rfl, rfl⟩
  rw [e1]
  exact ⟨rfl, H.nowF hG' ho (hB.opens a) (cd_set_eq _ _ _) (cd_off.set _ _ List.mem_cons_self)⟩
theorem s_deal {l : Launch} {w : cd_WT} {m : Nat} {S : cd_Sp} {I : cd_Mem} {c : Nat} (H : px_SM w m S I c) (n : Int32) : cd_C l w m_C_deal 1 0 0 [.ref w.1, .int n] S I (px_P l w m c m_M_deal 2 [.ref m, .int n]) := by
  obtain ⟨mm, tc, hh, rr, hG, h2, h9, h10, hr⟩ := H.2.1
  have hB : px_HB (I (m + 1)) c := ⟨hh, rr, h2, h9, h10, hr⟩
  have hm := H.1.1
  refine px_imp (c_C_deal H.1.2.1 hG n) ?_
  rintro r S1 I1 ⟨x, rfl, rfl, rfl, ⟨mm', hG'⟩, ho⟩
  have he := px_ofm hm (Or.inl rfl) ho
  have e1 := he 1 (by decide)
  have hV : cd_V (I1 (m + 1)) mm tc := by rw [e1]; exact hG.2.2.1
  refine ⟨_, rfl, H.1.2.2.1.2.1, px_imp (c_M_deal H.1.2.2.1 mm tc hV n) ?_⟩
  rintro r' S2 I2 ⟨rfl, rfl, rfl⟩
  rw [e1]
  exact ⟨rfl, H.nowF hG' ho (hB.deal mm n) (cd_set_eq _ _ _) (cd_off.set _ _ List.mem_cons_self)⟩
theorem s_seed {l : Launch} {w : cd_WT} {m : Nat} {S : cd_Sp} {I : cd_Mem} {c : Nat} (H : px_SM w m S I c) (v : Int32) : cd_C l w m_C_seed 0 0 0 [.ref w.1, .int v] S I (px_P l w m c m_M_seed 1 [.ref m, .int v]) := by
  obtain ⟨mm, tc, hh, rr, hG, h2, h9, h10, hr⟩ := H.2.1
  have hB : px_HB (I (m + 1)) c := ⟨hh, rr, h2, h9, h10, hr⟩
  have hm := H.1.1
  refine px_imp (c_C_seed H.1.2.1 hG v) ?_
  rintro r S1 I1 ⟨x, rfl, rfl, rfl, ⟨mm', hG'⟩, ho⟩
  have he := px_ofm hm (Or.inl rfl) ho
  have e1 := he 1 (by decide)
  have hV : cd_V (I1 (m + 1)) mm tc := by rw [e1]; exact hG.2.2.1
  refine ⟨_, rfl, H.1.2.2.1.2.1, px_imp (c_M_seed H.1.2.2.1 v) ?_⟩
  rintro r' S2 I2 ⟨rfl, rfl, rfl⟩
  rw [e1]
  exact ⟨rfl, H.nowF hG' ho (hB.up (by omega) (by omega)) (cd_set_eq _ _ _) (cd_off.set _ _ List.mem_cons_self)⟩
theorem s_hours {l : Launch} {w : cd_WT} {m : Nat} {S : cd_Sp} {I : cd_Mem} {c : Nat} (H : px_SM w m S I c) (n : Int32) : cd_C l w m_C_hours 6 0 0 [.ref w.1, .int n] S I (px_P l w m c m_M_hours 7 [.ref m, .int n]) := by
  obtain ⟨mm, tc, hh, rr, hG, h2, h9, h10, hr⟩ := H.2.1
  have hB : px_HB (I (m + 1)) c := ⟨hh, rr, h2, h9, h10, hr⟩
  have hm := H.1.1
  refine px_imp (c_C_hours H.1.2.1 hG h2 h9 n) ?_
  rintro r S1 I1 ⟨x, rfl, rfl, rfl, ⟨mm', hG'⟩, ho⟩
  have he := px_ofm hm (Or.inl rfl) ho
  have e1 := he 1 (by decide)
  have hV : cd_V (I1 (m + 1)) mm tc := by rw [e1]; exact hG.2.2.1
  refine ⟨_, rfl, H.1.2.2.1.2.1, px_imp (c_M_hours H.1.2.2.1 mm tc hV hh (by rw [e1]; exact h2) h9 n) ?_⟩
  rintro r' S2 I2 ⟨x, rfl, rfl, rfl, h4, h3⟩
  rw [e1] at h4
  rw [e1]
  exact ⟨rfl, H.nowF hG' ho (hB.hours mm tc hG.2.2.1.2.1 h2 h9 n) h4 (fun b hb => h3 b (by simp only [List.mem_cons, List.not_mem_nil, or_false] at hb ⊢; omega))⟩
theorem s_house {l : Launch} {w : cd_WT} {m : Nat} {S : cd_Sp} {I : cd_Mem} {c : Nat} (H : px_SM w m S I c) (z : Int32) : cd_C l w m_C_house 1 0 0 [.ref w.1, .int z] S I (px_P l w m c m_M_house 2 [.ref m, .int z]) := by
  obtain ⟨mm, tc, hh, rr, hG, h2, h9, h10, hr⟩ := H.2.1
  have hB : px_HB (I (m + 1)) c := ⟨hh, rr, h2, h9, h10, hr⟩
  have hm := H.1.1
  refine px_imp (c_C_house H.1.2.1 hG h2 h9 z) ?_
  rintro r S1 I1 ⟨x, rfl, rfl, rfl, ⟨mm', hG'⟩, ho⟩
  have he := px_ofm hm (Or.inl rfl) ho
  have e1 := he 1 (by decide)
  have hV : cd_V (I1 (m + 1)) mm tc := by rw [e1]; exact hG.2.2.1
  refine ⟨_, rfl, H.1.2.2.1.2.1, px_imp (c_M_house H.1.2.2.1 mm tc hV z) ?_⟩
  rintro r' S2 I2 ⟨rfl, rfl, rfl⟩
  rw [e1]
  exact ⟨rfl, H.nowF hG' ho (hB.mo) e1 (cd_off.rf _ _)⟩
theorem s_fee {l : Launch} {w : cd_WT} {m : Nat} {S : cd_Sp} {I : cd_Mem} {c : Nat} (H : px_SM w m S I c) : cd_C l w m_C_fee 2 0 0 [.ref w.1] S I (px_P l w m c m_M_fee 2 [.ref m]) := by
  obtain ⟨mm, tc, hh, rr, hG, h2, h9, h10, hr⟩ := H.2.1
  have hB : px_HB (I (m + 1)) c := ⟨hh, rr, h2, h9, h10, hr⟩
  have hm := H.1.1
  refine px_imp (c_C_fee H.1.2.1 hG ) ?_
  rintro r S1 I1 ⟨x, rfl, rfl, rfl, ⟨mm', hG'⟩, ho⟩
  have he := px_ofm hm (Or.inl rfl) ho
  have e1 := he 1 (by decide)
  have hV : cd_V (I1 (m + 1)) mm tc := by rw [e1]; exact hG.2.2.1
  refine ⟨_, rfl, H.1.2.2.1.2.1, px_imp (c_M_fee H.1.2.2.1 mm tc hV ) ?_⟩
  rintro r' S2 I2 ⟨x, rfl, rfl, rfl, h3⟩
  rw [e1]
  exact ⟨rfl, H.nowF hG' ho (hB.mo) ((h3 (m + 1) (by simp only [List.mem_cons, List.not_mem_nil, or_false]; omega)).trans e1) (fun b hb => h3 b (by simp only [List.mem_cons, List.not_mem_nil, or_false] at hb ⊢; omega))⟩
theorem s_fine {l : Launch} {w : cd_WT} {m : Nat} {S : cd_Sp} {I : cd_Mem} {c : Nat} (H : px_SM w m S I c) (a : Int32) : cd_C l w m_C_fine 2 0 0 [.ref w.1, .int a] S I (px_P l w m c m_M_fine 2 [.ref m, .int a]) := by
  obtain ⟨mm, tc, hh, rr, hG, h2, h9, h10, hr⟩ := H.2.1
  have hB : px_HB (I (m + 1)) c := ⟨hh, rr, h2, h9, h10, hr⟩
  have hm := H.1.1
  refine px_imp (c_C_fine H.1.2.1 hG a) ?_
  rintro r S1 I1 ⟨x, rfl, rfl, rfl, ⟨mm', hG'⟩, ho⟩
  have he := px_ofm hm (Or.inl rfl) ho
  have e1 := he 1 (by decide)
  have hV : cd_V (I1 (m + 1)) mm tc := by rw [e1]; exact hG.2.2.1
  refine ⟨_, rfl, H.1.2.2.1.2.1, px_imp (c_M_fine H.1.2.2.1 mm tc hV a) ?_⟩
  rintro r' S2 I2 ⟨x, rfl, rfl, rfl, h3⟩
  rw [e1]
  exact ⟨rfl, H.nowF hG' ho (hB.mo) ((h3 (m + 1) (by simp only [List.mem_cons, List.not_mem_nil, or_false]; omega)).trans e1) (fun b hb => h3 b (by simp only [List.mem_cons, List.not_mem_nil, or_false] at hb ⊢; omega))⟩
theorem s_textTold {l : Launch} {w : cd_WT} {m : Nat} {S : cd_Sp} {I : cd_Mem} {c : Nat} (H : px_SM w m S I c) (t z : Int32) : cd_C l w m_C_textTold 0 0 0 [.ref w.1, .int t, .int z] S I (px_P l w m c m_M_textTold 1 [.ref m, .int t, .int z]) := by
  obtain ⟨mm, tc, hh, rr, hG, h2, h9, h10, hr⟩ := H.2.1
  have hB : px_HB (I (m + 1)) c := ⟨hh, rr, h2, h9, h10, hr⟩
  have hm := H.1.1
  refine px_imp (c_C_textTold H.1.2.1 hG t z) ?_
  rintro r S1 I1 ⟨x, rfl, rfl, rfl, ⟨mm', hG'⟩, ho⟩
  have he := px_ofm hm (Or.inl rfl) ho
  have e1 := he 1 (by decide)
  have hV : cd_V (I1 (m + 1)) mm tc := by rw [e1]; exact hG.2.2.1
  refine ⟨_, rfl, H.1.2.2.1.2.1, px_imp (c_M_textTold H.1.2.2.1 mm tc hV t z) ?_⟩
  rintro r' S2 I2 ⟨rfl, rfl, rfl⟩
  rw [e1]
  exact ⟨rfl, H.nowF hG' ho (hB.mo) e1 (cd_off.rf _ _)⟩
theorem s_why {l : Launch} {w : cd_WT} {m : Nat} {S : cd_Sp} {I : cd_Mem} {c : Nat} (H : px_SM w m S I c) (k : Int32) : cd_C l w m_C_why 1 0 0 [.ref w.1, .int k] S I (px_P l w m c m_M_why 1 [.ref m, .int k]) := by
  obtain ⟨mm, tc, hh, rr, hG, h2, h9, h10, hr⟩ := H.2.1
  have hB : px_HB (I (m + 1)) c := ⟨hh, rr, h2, h9, h10, hr⟩
  have hm := H.1.1
  refine px_imp (c_C_why H.1.2.1 hG k) ?_
  rintro r S1 I1 ⟨x, rfl, rfl, rfl, ⟨mm', hG'⟩, ho⟩
  have he := px_ofm hm (Or.inl rfl) ho
  have e1 := he 1 (by decide)
  have hV : cd_V (I1 (m + 1)) mm tc := by rw [e1]; exact hG.2.2.1
  refine ⟨_, rfl, H.1.2.2.1.2.1, px_imp (c_M_why H.1.2.2.1 mm tc hV k) ?_⟩
  rintro r' S2 I2 ⟨rfl, rfl, rfl⟩
  rw [e1]
  exact ⟨rfl, H.nowF hG' ho (hB.mo) e1 (cd_off.rf _ _)⟩
theorem s_pour {l : Launch} {w : cd_WT} {m : Nat} {S : cd_Sp} {I : cd_Mem} {c : Nat} (H : px_SM w m S I c) (z : Int32) : cd_C l w m_C_pour 2 0 0 [.ref w.1, .int z] S I (px_P l w m c m_M_pour 2 [.ref m, .int z]) := by
  obtain ⟨mm, tc, hh, rr, hG, h2, h9, h10, hr⟩ := H.2.1
  have hB : px_HB (I (m + 1)) c := ⟨hh, rr, h2, h9, h10, hr⟩
  have hm := H.1.1
  refine px_imp (c_C_pour H.1.2.1 hG H.2.2.2.2.1.1 H.2.2.2.2.1.2.1 z) ?_
  rintro r S1 I1 ⟨x, rfl, rfl, rfl, ⟨mm', hG'⟩, ho⟩
  have he := px_ofm hm (Or.inl rfl) ho
  have e1 := he 1 (by decide)
  have hV : cd_V (I1 (m + 1)) mm tc := by rw [e1]; exact hG.2.2.1
  refine ⟨_, rfl, H.1.2.2.1.2.1, px_imp (c_M_pour H.1.2.2.1 mm tc hV (by rw [he 13 (by decide), he 14 (by decide)]; exact H.2.2.2.2.1.2.1) z) ?_⟩
  rintro r' S2 I2 ⟨rfl, rfl, rfl⟩
  rw [e1, he 13 (by decide), he 14 (by decide), he 15 (by decide)]
  exact ⟨rfl, H.nowF hG' ho (hB.pour _ _ _ mm z) (cd_set_eq _ _ _) (cd_off.set _ _ List.mem_cons_self)⟩
theorem s_reads {l : Launch} {w : cd_WT} {m : Nat} {S : cd_Sp} {I : cd_Mem} {c : Nat} (H : px_SM w m S I c) (z : Int32) : cd_C l w m_C_reads 2 0 0 [.ref w.1, .int z] S I (px_P l w m c m_M_reads 2 [.ref m, .int z]) := by
  obtain ⟨mm, tc, hh, rr, hG, h2, h9, h10, hr⟩ := H.2.1
  have hB : px_HB (I (m + 1)) c := ⟨hh, rr, h2, h9, h10, hr⟩
  have hm := H.1.1
  refine px_imp (c_C_reads H.1.2.1 hG H.2.2.2.2.1.1 H.2.2.2.2.1.2.1 z) ?_
  rintro r S1 I1 ⟨x, rfl, rfl, rfl, ⟨mm', hG'⟩, ho⟩
  have he := px_ofm hm (Or.inl rfl) ho
  have e1 := he 1 (by decide)
  have hV : cd_V (I1 (m + 1)) mm tc := by rw [e1]; exact hG.2.2.1
  refine ⟨_, rfl, H.1.2.2.1.2.1, px_imp (c_M_reads H.1.2.2.1 mm tc hV (by rw [he 13 (by decide), he 14 (by decide)]; exact H.2.2.2.2.1.2.1) z) ?_⟩
  rintro r' S2 I2 ⟨rfl, rfl, rfl⟩
  rw [e1, he 13 (by decide), he 14 (by decide), he 15 (by decide)]
  exact ⟨rfl, H.nowF hG' ho (hB.mo) e1 (cd_off.rf _ _)⟩
theorem s_count {l : Launch} {w : cd_WT} {m : Nat} {S : cd_Sp} {I : cd_Mem} {c : Nat} (H : px_SM w m S I c) (z : Int32) : cd_C l w m_C_count 0 0 0 [.ref w.1, .int z] S I (px_P l w m c m_M_count 1 [.ref m, .int z]) := by
  obtain ⟨mm, tc, hh, rr, hG, h2, h9, h10, hr⟩ := H.2.1
  have hB : px_HB (I (m + 1)) c := ⟨hh, rr, h2, h9, h10, hr⟩
  have hm := H.1.1
  refine px_imp (c_C_count H.1.2.1 hG z) ?_
  rintro r S1 I1 ⟨x, rfl, rfl, rfl, ⟨mm', hG'⟩, ho⟩
  have he := px_ofm hm (Or.inl rfl) ho
  have e1 := he 1 (by decide)
  have hV : cd_V (I1 (m + 1)) mm tc := by rw [e1]; exact hG.2.2.1
  refine ⟨_, rfl, H.1.2.2.1.2.1, px_imp (c_M_count H.1.2.2.1 z) ?_⟩
  rintro r' S2 I2 ⟨rfl, rfl, rfl⟩
  rw [e1, show I2 m = I m from he 0 (by decide)]
  exact ⟨(by obtain ⟨B, L, t1, t2, t3⟩ := H.2.2.2.1; obtain ⟨wt, w1, w2, w3⟩ := H.2.2.2.2.2.2.1; rw [w1, w2, t1, t3.1]), H.nowF hG' ho (hB.mo) e1 (cd_off.rf _ _)⟩
theorem s_behind {l : Launch} {w : cd_WT} {m : Nat} {S : cd_Sp} {I : cd_Mem} {c : Nat} (H : px_SM w m S I c) (n z : Int32) : cd_C l w m_C_behind 6 0 0 [.ref w.1, .int n, .int z] S I (px_P l w m c m_M_behind 7 [.ref m, .int n, .int z]) := by
  obtain ⟨mm, tc, hh, rr, hG, h2, h9, h10, hr⟩ := H.2.1
  have hm := H.1.1
  refine px_imp (c_C_behind H.1.2.1 hG n z) ?_
  rintro r S1 I1 ⟨rfl, hs, ho⟩
  have he := px_ofm hm (Or.inr rfl) ho
  have e1 := he 1 (by decide)
  have hV : cd_V (I1 (m + 1)) mm tc := by rw [e1]; exact hG.2.2.1
  have hM := H.1.2.2.1.ss hs (by omega)
  refine ⟨_, rfl, hM.2.1, px_imp (c_M_behind hM mm tc hV n z) ?_⟩
  rintro r' S2 I2 ⟨x, rfl, rfl, rfl, h3⟩
  rw [e1]
  exact ⟨rfl, H.th hs (fun b hb hb2 => (h3 b (by simp only [List.mem_cons, List.not_mem_nil, or_false] at hb2 ⊢; omega)).trans (ho b hb))⟩
theorem s_quiet {l : Launch} {w : cd_WT} {m : Nat} {S : cd_Sp} {I : cd_Mem} {c : Nat} (H : px_SM w m S I c) : cd_C l w m_C_quiet 6 0 0 [.ref w.1] S I (px_P l w m c m_M_quiet 6 [.ref m]) := by
  obtain ⟨mm, tc, hh, rr, hG, h2, h9, h10, hr⟩ := H.2.1
  have hm := H.1.1
  refine px_imp (c_C_quiet H.1.2.1 hG ) ?_
  rintro r S1 I1 ⟨rfl, hs, ho⟩
  have he := px_ofm hm (Or.inr rfl) ho
  have e1 := he 1 (by decide)
  have hV : cd_V (I1 (m + 1)) mm tc := by rw [e1]; exact hG.2.2.1
  have hM := H.1.2.2.1.ss hs (by omega)
  refine ⟨_, rfl, hM.2.1, px_imp (c_M_quiet hM mm tc hV ) ?_⟩
  rintro r' S2 I2 ⟨x, rfl, rfl, rfl, h3⟩
  rw [e1]
  exact ⟨rfl, H.th hs (fun b hb hb2 => (h3 b (by simp only [List.mem_cons, List.not_mem_nil, or_false] at hb2 ⊢; omega)).trans (ho b hb))⟩
theorem s_firm {l : Launch} {w : cd_WT} {m : Nat} {S : cd_Sp} {I : cd_Mem} {c : Nat} (H : px_SM w m S I c) (n z : Int32) : cd_C l w m_C_firm 6 0 0 [.ref w.1, .int n, .int z] S I (px_P l w m c m_M_firm 8 [.ref m, .int n, .int z]) := by
  obtain ⟨mm, tc, hh, rr, hG, h2, h9, h10, hr⟩ := H.2.1
  have hm := H.1.1
  refine px_imp (c_C_firm H.1.2.1 hG n z) ?_
  rintro r S1 I1 ⟨rfl, hs, ho⟩
  have he := px_ofm hm (Or.inr rfl) ho
  have e1 := he 1 (by decide)
  have hV : cd_V (I1 (m + 1)) mm tc := by rw [e1]; exact hG.2.2.1
  have hM := H.1.2.2.1.ss hs (by omega)
  refine ⟨_, rfl, hM.2.1, px_imp (c_M_firm hM mm tc hV n z) ?_⟩
  rintro r' S2 I2 ⟨x, rfl, rfl, rfl, h3⟩
  rw [e1]
  exact ⟨rfl, H.th hs (fun b hb hb2 => (h3 b (by simp only [List.mem_cons, List.not_mem_nil, or_false] at hb2 ⊢; omega)).trans (ho b hb))⟩
theorem s_givenIn {l : Launch} {w : cd_WT} {m : Nat} {S : cd_Sp} {I : cd_Mem} {c : Nat} (H : px_SM w m S I c) (n a : Int32) : cd_C l w m_C_givenIn 6 0 0 [.ref w.1, .int n, .int a] S I (px_P l w m c m_M_givenIn 8 [.ref m, .int n, .int a]) := by
  obtain ⟨mm, tc, hh, rr, hG, h2, h9, h10, hr⟩ := H.2.1
  have hm := H.1.1
  refine px_imp (c_C_givenIn H.1.2.1 hG n a) ?_
  rintro r S1 I1 ⟨rfl, hs, ho⟩
  have he := px_ofm hm (Or.inr rfl) ho
  have e1 := he 1 (by decide)
  have hV : cd_V (I1 (m + 1)) mm tc := by rw [e1]; exact hG.2.2.1
  have hM := H.1.2.2.1.ss hs (by omega)
  refine ⟨_, rfl, hM.2.1, px_imp (c_M_givenIn hM mm tc hV n a) ?_⟩
  rintro r' S2 I2 ⟨x, rfl, rfl, rfl, h3⟩
  rw [e1]
  exact ⟨rfl, H.th hs (fun b hb hb2 => (h3 b (by simp only [List.mem_cons, List.not_mem_nil, or_false] at hb2 ⊢; omega)).trans (ho b hb))⟩
theorem s_heard {l : Launch} {w : cd_WT} {m : Nat} {S : cd_Sp} {I : cd_Mem} {c : Nat} (H : px_SM w m S I c) (hc : c ≤ 600) (n z : Int32) : cd_C l w m_C_heard 6 0 0 [.ref w.1, .int n, .int z] S I (px_P l w m c m_M_heard 8 [.ref m, .int n, .int z]) := by
  obtain ⟨mm, tc, hh, rr, hG, h2, h9, h10, hr⟩ := H.2.1
  have hm := H.1.1
  have hr30 : rr < 2 ^ 30 := by omega
  refine px_imp (c_C_heard H.1.2.1 hG h10 hr30 n z) ?_
  rintro r S1 I1 ⟨rfl, hs, ho⟩
  have he := px_ofm hm (Or.inr rfl) ho
  have e1 := he 1 (by decide)
  have hV : cd_V (I1 (m + 1)) mm tc := by rw [e1]; exact hG.2.2.1
  have hM := H.1.2.2.1.ss hs (by omega)
  refine ⟨_, rfl, hM.2.1, px_imp (c_M_heard hM mm tc hV n z) ?_⟩
  rintro r' S2 I2 ⟨x, rfl, rfl, rfl, h3⟩
  rw [e1]
  exact ⟨rfl, H.th hs (fun b hb hb2 => (h3 b (by simp only [List.mem_cons, List.not_mem_nil, or_false] at hb2 ⊢; omega)).trans (ho b hb))⟩
theorem s_lamp {l : Launch} {w : cd_WT} {m : Nat} {S : cd_Sp} {I : cd_Mem} {c : Nat} (H : px_SM w m S I c) (n : Int32) : cd_C l w m_C_lamp 6 0 0 [.ref w.1, .int n] S I (px_P l w m c m_M_lamp 6 [.ref m, .int n]) := by
  obtain ⟨mm, tc, hh, rr, hG, h2, h9, h10, hr⟩ := H.2.1
  have hm := H.1.1
  refine px_imp (c_C_lamp H.1.2.1 hG n) ?_
  rintro r S1 I1 ⟨rfl, hs, ho⟩
  have he := px_ofm hm (Or.inr rfl) ho
  have e1 := he 1 (by decide)
  have hV : cd_V (I1 (m + 1)) mm tc := by rw [e1]; exact hG.2.2.1
  have hM := H.1.2.2.1.ss hs (by omega)
  refine ⟨_, rfl, hM.2.1, px_imp (c_M_lamp hM mm tc hV n) ?_⟩
  rintro r' S2 I2 ⟨x, rfl, rfl, rfl, h3⟩
  rw [e1]
  exact ⟨rfl, H.th hs (fun b hb hb2 => (h3 b (by simp only [List.mem_cons, List.not_mem_nil, or_false] at hb2 ⊢; omega)).trans (ho b hb))⟩
theorem s_saved {l : Launch} {w : cd_WT} {m : Nat} {S : cd_Sp} {I : cd_Mem} {c : Nat} (H : px_SM w m S I c) (n : Int32) : cd_C l w m_C_saved 7 0 0 [.ref w.1, .int n] S I (px_P l w m c m_M_saved 8 [.ref m, .int n]) := by
  obtain ⟨mm, tc, hh, rr, hG, h2, h9, h10, hr⟩ := H.2.1
  have hm := H.1.1
  refine px_imp (c_C_saved H.1.2.1 hG n) ?_
  rintro r S1 I1 ⟨rfl, hs, ho⟩
  have he := px_ofm hm (Or.inr rfl) ho
  have e1 := he 1 (by decide)
  have hV : cd_V (I1 (m + 1)) mm tc := by rw [e1]; exact hG.2.2.1
  have hM := H.1.2.2.1.ss hs (by omega)
  refine ⟨_, rfl, hM.2.1, px_imp (c_M_saved hM mm tc hV n) ?_⟩
  rintro r' S2 I2 ⟨x, rfl, rfl, rfl, h3⟩
  rw [e1]
  exact ⟨rfl, H.th hs (fun b hb hb2 => (h3 b (by simp only [List.mem_cons, List.not_mem_nil, or_false] at hb2 ⊢; omega)).trans (ho b hb))⟩
theorem s_taught {l : Launch} {w : cd_WT} {m : Nat} {S : cd_Sp} {I : cd_Mem} {c : Nat} (H : px_SM w m S I c) (z q : Int32) : cd_C l w m_C_taught 7 0 0 [.ref w.1, .int z, .int q] S I (px_P l w m c m_M_taught 8 [.ref m, .int z, .int q]) := by
  obtain ⟨mm, tc, hh, rr, hG, h2, h9, h10, hr⟩ := H.2.1
  have hm := H.1.1
  refine px_imp (c_C_taught H.1.2.1 hG H.2.2.2.2.1.1 H.2.2.2.2.1.2.1 H.2.2.2.2.1.2.2 z q) ?_
  rintro r S1 I1 ⟨rfl, hs, ho⟩
  have he : ∀ k, k < 22 → I1 (m + k) = I (m + k) := fun k hk => ho _ (by unfold cd_wr; omega) (by omega)
  have e1 := he 1 (by decide)
  have hV : cd_V (I1 (m + 1)) mm tc := by rw [e1]; exact hG.2.2.1
  have hM := H.1.2.2.1.ss hs (by omega)
  refine ⟨_, rfl, hM.2.1, px_imp (c_M_taught hM mm tc hV (by rw [he 13 (by decide), he 14 (by decide)]; exact H.2.2.2.2.1.2.1) z q) ?_⟩
  rintro r' S2 I2 ⟨x, rfl, rfl, rfl, h3⟩
  rw [e1, he 13 (by decide), he 14 (by decide), he 15 (by decide)]
  exact ⟨rfl, H.th hs (fun b hb hb2 => (h3 b (by simp only [List.mem_cons, List.not_mem_nil, or_false] at hb2 ⊢; omega)).trans (ho b hb (fun q => hb2 (by rw [q]; exact List.mem_cons_self))))⟩
