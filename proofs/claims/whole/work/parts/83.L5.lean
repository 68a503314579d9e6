theorem s_tell {l : Launch} {w : cd_WT} {m : Nat} {S : cd_Sp} {I : cd_Mem} {c : Nat} (H : px_SM w m S I c) (v : Int32) : cd_C l w m_C_tell 0 0 0 [.ref w.1, .int v] S I (px_P l w m c m_M_tell 0 [.ref m, .int v]) := by
  have hm := H.1.1
  obtain ⟨wt, w1, w2, w3, w4⟩ := H.2.2.2.2.2.2.1
  refine px_imp (c_C_tell H.1.2.1 w1 w3 v) ?_
  rintro r S1 I1 ⟨rfl, rfl, rfl⟩
  by_cases hw : wt < 60
  · rw [if_pos hw]
    refine ⟨_, rfl, H.1.2.2.1.2.1, px_imp (c_M_tell H.1.2.2.1 wt (by rw [if_pos hw, cd_set_ne _ _ (by omega), cd_set_ne _ _ (by omega)]; exact w2) w3 v) ?_⟩
    rintro r' S2 I2 ⟨rfl, rfl, rfl⟩
    rw [if_pos hw, if_neg (by omega), if_neg (by omega)]
    refine ⟨rfl, H.tw (c' := c + 1) (by omega) (H.2.2.2.1.fr ?_ ?_ ?_ ?_) ⟨wt + 1, ?_, ?_, by omega, fun j hj => ?_⟩ ?_ ?_ (fun b hb => ?_)⟩
    · simp (disch := omega) only [cd_set_eq, cd_set_ne]
    · simp (disch := omega) only [cd_set_eq, cd_set_ne]
    · simp (disch := omega) only [cd_set_eq, cd_set_ne]; rfl
    · simp (disch := omega) only [cd_set_eq, cd_set_ne]
    · simp (disch := omega) only [cd_set_eq, cd_set_ne]; rfl
    · simp (disch := omega) only [cd_set_eq, cd_set_ne]; rfl
    · simp (disch := omega) only [cd_set_eq, cd_set_ne]
      show (if j = wt then v else I (w.1 + 60) j) = (if j = wt then v else I (m + 21) j)
      by_cases e : j = wt
      · rw [if_pos e, if_pos e]
      · rw [if_neg e, if_neg e]; exact w4 j (by omega)
    · simp (disch := omega) only [cd_set_eq, cd_set_ne]; rfl
    · simp (disch := omega) only [cd_set_eq, cd_set_ne]; rfl
    · simp only [List.mem_cons, List.not_mem_nil, or_false] at hb
      rw [cd_set_ne _ _ (by omega), cd_set_ne _ _ (by omega), cd_set_ne _ _ (by omega), cd_set_ne _ _ (by omega)]
  · rw [if_neg hw, if_neg hw]
    refine ⟨_, rfl, H.1.2.2.1.2.1, px_imp (c_M_tell H.1.2.2.1 wt w2 w3 v) ?_⟩
    rintro r' S2 I2 ⟨rfl, rfl, rfl⟩
    rw [if_pos (by omega), if_pos (by omega)]
    exact ⟨rfl, H.th (cd_ss.rf _ _) (fun _ _ _ => rfl)⟩
theorem s_trim {l : Launch} {w : cd_WT} {m : Nat} {S : cd_Sp} {I : cd_Mem} {c : Nat} (H : px_SM w m S I c) (n : Int32) : cd_C l w m_C_trim 0 0 0 [.ref w.1, .int n] S I (px_P l w m c m_M_trim 1 [.ref m, .int n]) := by
  have hm := H.1.1
  obtain ⟨B, L, t1, t2, t3⟩ := H.2.2.2.1
  have hk : ∃ L', L' ≤ L ∧ (sp_trim (nI L) n).2 = nI L' := by
    unfold sp_trim
    split
    · rename_i h
      obtain ⟨k, k0, k1, k2⟩ := cd_in_ex (lo := 0) (hi := L) h (by decide) (by have := t2.1; omega)
      exact ⟨k, k1, k2⟩
    · exact ⟨L, by omega, rfl⟩
  obtain ⟨L', hL', hL2⟩ := hk
  refine px_imp (c_C_trim H.1.2.1 n) ?_
  rintro r S1 I1 ⟨rfl, rfl, rfl⟩
  refine ⟨_, rfl, H.1.2.2.1.2.1, px_imp (c_M_trim H.1.2.2.1 n) ?_⟩
  rintro r' S2 I2 ⟨rfl, rfl, rfl⟩
  rw [cd_set_ne (a := w.1 + 55) (b := m) _ _ (by omega), t1, t3.1, hL2]
  refine ⟨rfl, H.tw (c' := c + 1) (by omega) ⟨B, L', ?_, ⟨by have := t2.1; omega, fun j hj => ?_⟩, ?_, by have := t2.1; omega, fun j hj => ?_⟩ (H.2.2.2.2.2.2.1.fr ?_ ?_ ?_ ?_) ?_ ?_ (fun b hb => ?_)⟩
  · rw [cd_set_eq]; rfl
  · rw [cd_set_ne _ _ (by omega), cd_set_ne _ _ (by omega)]; exact t2.2 j (by omega)
  · rw [cd_set_ne _ _ (by omega), cd_set_eq]; rfl
  · rw [cd_set_ne _ _ (by omega), cd_set_ne _ _ (by omega)]; exact t3.2.2 j (by omega)
  · rw [cd_set_ne _ _ (by omega), cd_set_ne _ _ (by omega)]
  · rw [cd_set_eq]; rfl
  · rw [cd_set_ne _ _ (by omega), cd_set_ne _ _ (by omega)]
  · rw [cd_set_ne _ _ (by omega), cd_set_ne _ _ (by omega)]
  · rw [cd_set_ne _ _ (by omega), cd_set_ne _ _ (by omega)]
  · rw [cd_set_eq]; rfl
  · simp only [List.mem_cons, List.not_mem_nil, or_false] at hb
    rw [cd_set_ne _ _ (by omega), cd_set_ne _ _ (by omega)]
theorem px_fr_at (t : Nat → Int32) (L : Nat) (a b c : Int32) (j : Nat) : ∀ n, cd_fr t L a b c n j = if L ≤ j ∧ j < L + n then cd_by a b c (j - L) else t j
  | 0 => by rw [if_neg (by omega)]; rfl
  | n + 1 => by
    show (if j = L + n then cd_by a b c n else cd_fr t L a b c n j) = _
    by_cases e : j = L + n
    · rw [if_pos e, if_pos (by omega), show j - L = n by omega]
    · rw [if_neg e, px_fr_at t L a b c j n]
      by_cases h : L ≤ j ∧ j < L + n
      · rw [if_pos h, if_pos (by omega)]
      · rw [if_neg h, if_neg (by omega)]
theorem px_by_tn (a b c : Int32) (k : Nat) : cd_by a b c k = nI (cd_tn (cd_by a b c k)) ∧ cd_tn (cd_by a b c k) < 256 := by
  unfold cd_by
  obtain ⟨z, z1, z2⟩ := px_m255 ((if 4 ≤ k then (if 8 ≤ k then c else b) else a) >>> (nI (24 - 8 * (k % 4)) &&& 31))
  rw [z2, cd_tn_nI (by omega)]
  exact ⟨rfl, z1⟩
theorem s_feed {l : Launch} {w : cd_WT} {m : Nat} {S : cd_Sp} {I : cd_Mem} {c : Nat} (H : px_SM w m S I c) (a b e : Int32) : cd_C l w m_C_feed 1 0 0 [.ref w.1, .int a, .int b, .int e] S I (px_P l w m c m_M_feed 0 [.ref m, .int a, .int b, .int e]) := by
  have hm := H.1.1
  obtain ⟨B, L, t1, t2, t3⟩ := H.2.2.2.1
  have hL9 := t2.1
  refine px_imp (c_C_feed H.1.2.1 t3.1 hL9 a b e) ?_
  rintro r S1 I1 ⟨x, rfl, rfl, rfl, hA, hN⟩
  by_cases hL : L ≤ 84
  · obtain ⟨x1, x2, x3, x4⟩ := hA hL
    have q : ∀ b, b ≠ w.1 + 55 → b ≠ w.1 + 56 → I1 b = I b := fun b b1 b2 => x4 b (by simp only [List.mem_cons, List.not_mem_nil, or_false]; omega)
    refine ⟨_, rfl, H.1.2.2.1.2.1, px_imp (c_M_feed H.1.2.2.1 L (by rw [q m (by omega) (by omega)]; exact t1) hL9 a b e) ?_⟩
    rintro r' S2 I2 ⟨rfl, rfl, rfl⟩
    rw [if_pos hL, if_pos hL, q m (by omega) (by omega), q (m + 5) (by omega) (by omega)]
    refine ⟨rfl, H.tw (c' := c + 1) (by omega) ⟨fun j => if j < L then B j else cd_tn (cd_by a b e (j - L)), L + 12, ?_, ⟨by omega, fun j hj => ?_⟩, ?_, by omega, fun j hj => ?_⟩ (H.2.2.2.2.2.2.1.fr ?_ ?_ ?_ ?_) ?_ ?_ (fun b hb => ?_)⟩
    · rw [cd_set_eq]; rfl
    · rw [cd_set_ne _ _ (by omega), cd_set_eq, px_fr_at]
      dsimp only
      by_cases h : j < L
      · rw [if_neg (by omega), if_pos h]; exact t2.2 j h
      · rw [if_pos (by omega), if_neg h]; exact px_by_tn a b e (j - L)
    · rw [cd_set_ne _ _ (by omega), cd_set_ne _ _ (by omega)]; exact x1
    · rw [cd_set_ne _ _ (by omega), cd_set_ne _ _ (by omega)]
      dsimp only
      by_cases h : j < L
      · rw [if_pos h, x2 j h]; exact t3.2.2 j h
      · rw [if_neg h]
        refine ⟨(px_by_tn a b e (j - L)).2, ?_⟩
        have y := x3 (j - L) (by omega)
        rw [show L + (j - L) = j by omega] at y
        rw [y]
        unfold px_sx
        rw [← (px_by_tn a b e (j - L)).1]
    · rw [cd_set_ne _ _ (by omega), cd_set_ne _ _ (by omega), q w.1 (by omega) (by omega)]
    · rw [cd_set_eq]; rfl
    · rw [cd_set_ne _ _ (by omega), cd_set_ne _ _ (by omega), q (w.1 + 60) (by omega) (by omega)]
    · rw [cd_set_ne _ _ (by omega), cd_set_ne _ _ (by omega), q (m + 21) (by omega) (by omega)]
    · rw [cd_set_ne _ _ (by omega), cd_set_ne _ _ (by omega), q w.1 (by omega) (by omega)]
    · rw [cd_set_eq]; rfl
    · simp only [List.mem_cons, List.not_mem_nil, or_false] at hb
      rw [cd_set_ne _ _ (by omega), cd_set_ne _ _ (by omega)]
      exact q b (by omega) (by omega)
  · have e1 := hN hL
    subst e1
    refine ⟨_, rfl, H.1.2.2.1.2.1, px_imp (c_M_feed H.1.2.2.1 L t1 hL9 a b e) ?_⟩
    rintro r' S2 I2 ⟨rfl, rfl, rfl⟩
    rw [if_neg hL, if_neg hL]
    exact ⟨rfl, H.th (cd_ss.rf _ _) (fun _ _ _ => rfl)⟩
theorem s_check {l : Launch} {w : cd_WT} {m : Nat} {S : cd_Sp} {I : cd_Mem} {c : Nat} (H : px_SM w m S I c) (n : Int32) : cd_C l w m_C_check 6 0 0 [.ref w.1, .int n] S I (px_P l w m c m_M_check 6 [.ref m, .int n]) := by
  have hm := H.1.1
  obtain ⟨i0, mg, tg, hg, rg, i1, i2, i3, i4, i5, i6⟩ := H.2.2.1
  obtain ⟨wt, w1, w2, w3, w4⟩ := H.2.2.2.2.2.2.1
  have hcp : ∀ j, j < 1448 → cd_cp 1448 (I (m + 2)) (I (m + 1)) j = I (m + 2) j := fun j hj => if_pos hj
  refine px_imp (c_C_check H.1.2.1 (te := I (m + 21)) (G := cd_cp 1448 (I (m + 2)) (I (m + 1))) (mg := mg) (tg := tg) (hg := hg) w1 w3 w4 (fun h => ⟨(i2 h).nn hcp, (hcp 2 (by decide)).trans i3, i4⟩) n) ?_
  rintro r S1 I1 ⟨rfl, hs, ho⟩
  have he : ∀ k, k < 22 → I1 (m + k) = I (m + k) := fun k hk => (ho _ (by unfold cd_wr; omega)).trans (cd_set_ne _ _ (by omega))
  have h0 : I1 m = I m := he 0 (by decide)
  have h1 := he 1 (by decide)
  have h2 := he 2 (by decide)
  have h21 := he 21 (by decide)
  have hM := H.1.2.2.1.ss hs (by omega)
  refine ⟨_, rfl, hM.2.1, px_imp (c_M_check hM mg tg hg wt (by rw [h2]; exact i1) (by rw [h2]; exact i3) i4 (by rw [h0]; exact w2) w3 n) ?_⟩
  rintro r' S2 I2 ⟨x, rfl, rfl, rfl, h3⟩
  rw [h0, h1, h2, h21, ← i0]
  have H1 : px_SM w m S (cd_set (cd_set I w.1 (upd (I w.1) 8 (nI 0))) m (upd (I m) 32 (nI 0))) c := by
    refine H.tw (Nat.le_refl c) (H.2.2.2.1.fr ?_ ?_ ?_ ?_) ⟨0, ?_, ?_, by omega, fun j hj => absurd hj (Nat.not_lt_zero _)⟩ ?_ ?_ (fun b hb => ?_)
    · rw [cd_set_ne _ _ (by omega), cd_set_ne _ _ (by omega)]
    · rw [cd_set_ne _ _ (by omega), cd_set_ne _ _ (by omega)]
    · rw [cd_set_eq]; rfl
    · rw [cd_set_ne _ _ (by omega), cd_set_ne _ _ (by omega)]
    · rw [cd_set_ne _ _ (by omega), cd_set_eq]; rfl
    · rw [cd_set_eq]; rfl
    · rw [cd_set_ne _ _ (by omega), cd_set_eq]; rfl
    · rw [cd_set_eq]; rfl
    · simp only [List.mem_cons, List.not_mem_nil, or_false] at hb
      rw [cd_set_ne _ _ (by omega), cd_set_ne _ _ (by omega)]
  refine ⟨rfl, H1.th hs (fun b b1 b2 => ?_)⟩
  simp only [List.mem_cons, List.not_mem_nil, or_false] at b2
  rw [h3 b (by simp only [List.mem_cons, List.not_mem_nil, or_false]; omega)]
  by_cases e : b = m
  · subst e; rw [cd_set_eq, cd_set_eq, h0]
  · rw [cd_set_ne _ _ e, cd_set_ne _ _ e]; exact ho b b1
theorem s_keep {l : Launch} {w : cd_WT} {m : Nat} {S : cd_Sp} {I : cd_Mem} {c : Nat} (H : px_SM w m S I c) : cd_C l w m_C_keep 2 0 0 [.ref w.1] S I (px_P l w m c m_M_keep 1 [.ref m]) := by
  have hm := H.1.1
  obtain ⟨mm, tc, hh, rr, hG, h2, h9, h10, hr⟩ := H.2.1
  refine px_imp (c_C_keep H.1.2.1 hG) ?_
  rintro r S1 I1 ⟨rfl, hs, hG1, hw, ho⟩
  have he : ∀ k, k < 22 → I1 (m + k) = I (m + k) := fun k hk => ho _ (by omega) (by omega)
  have h0 : I1 m = I m := he 0 (by decide)
  have h1 := he 1 (by decide)
  have hM := H.1.2.2.1.ss hs (by omega)
  refine ⟨_, rfl, hM.2.1, px_imp (c_M_keep hM) ?_⟩
  rintro r' S2 I2 ⟨rfl, rfl, rfl⟩
  rw [h0, h1]
  have hcp : ∀ j, j < 1448 → cd_cp 1448 (I (m + 1)) (I1 (m + 2)) j = I (m + 1) j := fun j hj => if_pos hj
  generalize hGG : cd_cp 1448 (I (m + 1)) (I1 (m + 2)) = G at hcp
  obtain ⟨g, n, i, t, s, sl, wt, k⟩ := H
  have q : ∀ b, b ≠ m → b ≠ m + 2 → b ≠ w.1 → (b < w.1 + 37 ∨ w.1 + 55 ≤ b) → cd_set (cd_set I1 (m + 2) G) m (upd (I m) 3 (nI 1)) b = I b := fun b b1 b2 b3 b4 => by rw [cd_set_ne _ _ b1, cd_set_ne _ _ b2]; exact ho b b3 (by omega)
  have q0 : cd_set (cd_set I1 (m + 2) G) m (upd (I m) 3 (nI 1)) w.1 = upd (I w.1) 3 (nI 1) := by rw [cd_set_ne _ _ (by omega), cd_set_ne _ _ (by omega)]; exact hw
  have q1 : cd_set (cd_set I1 (m + 2) G) m (upd (I m) 3 (nI 1)) m = upd (I m) 3 (nI 1) := cd_set_eq _ _ _
  have q2 : cd_set (cd_set I1 (m + 2) G) m (upd (I m) 3 (nI 1)) (m + 2) = G := by rw [cd_set_ne _ _ (by omega), cd_set_eq]
  have hG3 := (hG1.nn hcp).fr (I' := cd_set (cd_set I1 (m + 2) G) m (upd (I m) 3 (nI 1))) (cd_ss.rf S2 (w.1 + 19)) (by omega) (by omega) (fun b b1 b2 => by rw [cd_set_ne _ _ (by omega), cd_set_ne _ _ (by omega)]) (fun b b1 b2 => by rw [cd_set_ne _ _ (by omega), cd_set_ne _ _ (by omega)])
  generalize cd_set (cd_set I1 (m + 2) G) m (upd (I m) 3 (nI 1)) = J at q q0 q1 q2 hG3
  have qq : ∀ b, b ≠ m → b ≠ m + 2 → b ≠ w.1 → (b < w.1 + 37 ∨ w.1 + 55 ≤ b) → J b = I b := q
  refine ⟨rfl, g.ss hs (Or.inr (Or.inr rfl)) (by omega), n.fr hs (Or.inr rfl) (by omega) (fun b _ _ => q b (by omega) (by omega) (by omega) (by omega)) (fun b _ _ => q b (by omega) (by omega) (by omega) (by omega)) (q _ (by omega) (by omega) (by omega) (by omega)), ?_, t.fr (by rw [q (w.1 + 55) (by omega) (by omega) (by omega) (by omega)]) (q _ (by omega) (by omega) (by omega) (by omega)) (by rw [q1]; rfl) (q _ (by omega) (by omega) (by omega) (by omega)), s.fr (fun b _ _ => q b (by omega) (by omega) (by omega) (by omega)) (q _ (by omega) (by omega) (by omega) (by omega)) (q _ (by omega) (by omega) (by omega) (by omega)) (q _ (by omega) (by omega) (by omega) (by omega)), sl.fr (fun b _ _ => q b (by omega) (by omega) (by omega) (by omega)) (q _ (by omega) (by omega) (by omega) (by omega)) (q _ (by omega) (by omega) (by omega) (by omega)) (q _ (by omega) (by omega) (by omega) (by omega)) (q _ (by omega) (by omega) (by omega) (by omega)), wt.fr (by rw [q0]; rfl) (by rw [q1]; rfl) (q _ (by omega) (by omega) (by omega) (by omega)) (q _ (by omega) (by omega) (by omega) (by omega)), k.fr (q _ (by omega) (by omega) (by omega) (by omega)) (q _ (by omega) (by omega) (by omega) (by omega))⟩
  unfold px_sI
  rw [q0, q1, q2]
  exact ⟨rfl, mm, tc, hh, rr, hG3.2.2.1, fun _ => hG3, (hcp 2 (by decide)).trans h2, h9, (hcp 10 (by decide)).trans h10, by omega⟩
theorem s_back {l : Launch} {w : cd_WT} {m : Nat} {S : cd_Sp} {I : cd_Mem} {c : Nat} (H : px_SM w m S I c) : cd_C l w m_C_back 2 0 0 [.ref w.1] S I (px_P l w m c m_M_back 1 [.ref m]) := by
  have hm := H.1.1
  obtain ⟨mm, tc, hh, rr, hG, h2, h9, h10, hr⟩ := H.2.1
  obtain ⟨i0, mg, tg, hg, rg, i1, i2, i3, i4, i5, i6⟩ := H.2.2.1
  refine px_imp (c_C_back H.1.2.1 hG i2) ?_
  rintro r S1 I1 (⟨hz, rfl, rfl, rfl⟩ | ⟨hz, rfl, hs, hG1, ho⟩)
  · refine ⟨_, rfl, H.1.2.2.1.2.1, px_imp (c_M_back H.1.2.2.1) ?_⟩
    rintro r' S2 I2 ⟨rfl, rfl, rfl⟩
    rw [← i0, if_pos hz, if_pos hz]
    exact ⟨rfl, H.th (cd_ss.rf _ _) (fun _ _ _ => rfl)⟩
  · have he : ∀ k, k < 22 → I1 (m + k) = I (m + k) := fun k hk => ho _ (by omega)
    have h0 : I1 m = I m := he 0 (by decide)
    have h1 := he 1 (by decide)
    have h2' := he 2 (by decide)
    have hM := H.1.2.2.1.ss hs (by omega)
    refine ⟨_, rfl, hM.2.1, px_imp (c_M_back hM) ?_⟩
    rintro r' S2 I2 ⟨rfl, rfl, rfl⟩
    rw [h0, h1, h2', ← i0, if_neg hz, if_neg hz]
    have hcp : ∀ j, j < 1448 → cd_cp 1448 (I (m + 2)) (I (m + 1)) j = I (m + 2) j := fun j hj => if_pos hj
    generalize hGG : cd_cp 1448 (I (m + 2)) (I (m + 1)) = G at hcp
    obtain ⟨g, n, i, t, s, sl, wt, k⟩ := H
    have q : ∀ b, b ≠ m + 1 → (b < w.1 + 1 ∨ w.1 + 19 ≤ b) → cd_set I1 (m + 1) G b = I b := fun b b1 b2 => by rw [cd_set_ne _ _ b1]; exact ho b (by omega)
    have q1 : cd_set I1 (m + 1) G (m + 1) = G := cd_set_eq _ _ _
    have hG3 := (hG1.nn hcp).fr (I' := cd_set I1 (m + 1) G) (cd_ss.rf S2 (w.1 + 19)) (by omega) (by omega) (fun b b1 b2 => by rw [cd_set_ne _ _ (by omega)]) (fun b b1 b2 => by rw [cd_set_ne _ _ (by omega)])
    generalize cd_set I1 (m + 1) G = J at q q1 hG3
    refine ⟨rfl, g.ss hs (Or.inl rfl) (by omega), ?_, i.fr hs (Or.inl rfl) (by omega) (fun b _ _ => q b (by omega) (by omega)) (fun b _ _ => q b (by omega) (by omega)) (q _ (by omega) (by omega)) (by rw [q w.1 (by omega) (by omega)]) (by rw [q m (by omega) (by omega)]), t.fr (by rw [q (w.1 + 55) (by omega) (by omega)]) (q _ (by omega) (by omega)) (by rw [q m (by omega) (by omega)]) (q _ (by omega) (by omega)), s.fr (fun b _ _ => q b (by omega) (by omega)) (q _ (by omega) (by omega)) (q _ (by omega) (by omega)) (q _ (by omega) (by omega)), sl.fr (fun b _ _ => q b (by omega) (by omega)) (q _ (by omega) (by omega)) (q _ (by omega) (by omega)) (q _ (by omega) (by omega)) (q _ (by omega) (by omega)), wt.fr (by rw [q w.1 (by omega) (by omega)]) (by rw [q m (by omega) (by omega)]) (q _ (by omega) (by omega)) (q _ (by omega) (by omega)), k.fr (q _ (by omega) (by omega)) (q _ (by omega) (by omega))⟩
    unfold px_sN
    rw [q1]
    exact ⟨mg, tg, hg, rg, hG3, (hcp 2 (by decide)).trans i3, i4, (hcp 10 (by decide)).trans i5, by omega⟩
