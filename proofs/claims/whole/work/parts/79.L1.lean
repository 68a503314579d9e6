theorem cd_HG.fr {w : cd_WT} {S S' : cd_Sp} {I I' : cd_Mem} {h g mm tc : Nat} {N : Nat → Int32} (H : cd_HG w S I g N mm tc) (hs : cd_ss S S' h) (hd : h + 18 ≤ g ∨ g + 18 ≤ h) (hh : h + 18 ≤ w.1 + 112) (h1 : ∀ b, g ≤ b → b < g + 18 → I' b = I b) (h2 : ∀ b, w.1 + 112 ≤ b → ¬ (b - (w.1 + 112)) % 3 = 2 → I' b = I b) : cd_HG w S' I' g N mm tc := by
  have A := H.ss hs hd hh (cd_ofh.rf w h I)
  exact ⟨A.1, A.2.1, A.2.2.1, A.2.2.2.1, A.2.2.2.2.cg A.2.2.1.2.1 h1 (fun q => ⟨h2 _ (by omega) (by omega), h2 _ (by omega) (by omega)⟩)⟩
theorem cd_TA.nn {w : cd_WT} {S : cd_Sp} {I : cd_Mem} {N N' : Nat → Int32} {t q : Nat} (H : cd_TA w S I N t q) (ht : t < 14) (h : ∀ j, j < 1448 → N' j = N j) : cd_TA w S I N' t q := by
  obtain ⟨n, v, a1, a2, a3, a4, a5, a6, a7, a8, a9, a10⟩ := H
  have e : ∀ k, k < n → cd_dep (-10) (fun k => N' (104 + 96 * t + k)) k = cd_dep (-10) (fun k => N (104 + 96 * t + k)) k := fun k hk => cd_dep_cg (fun j hj => h _ (by omega))
  refine ⟨n, v, a1, a2, a3, by rw [h _ (by omega)]; exact a4, by rw [h _ (by omega)]; exact a5, by rw [h _ (by omega)]; exact a6, a7, fun k hk => by rw [h _ (by omega)]; exact a8 k hk, fun k hk => by rw [h _ (by omega)]; exact a9 k hk, fun k hk => by rw [h _ (by omega), e k hk]; exact a10 k hk⟩
theorem cd_HG.nn {w : cd_WT} {S : cd_Sp} {I : cd_Mem} {g mm tc : Nat} {N N' : Nat → Int32} (H : cd_HG w S I g N mm tc) (h : ∀ j, j < 1448 → N' j = N j) : cd_HG w S I g N' mm tc := by
  obtain ⟨a1, a2, a3, ⟨b1, b2, b3, b4, b5, b6⟩, c1, c2, c3⟩ := H
  have hm := a3.2.1
  have ht := a3.2.2.2.1
  refine ⟨a1, a2, cd_V_cg a3 h, ⟨fun i hi => ?_, ?_, ?_, ?_, ?_, ?_⟩, fun j hj => ?_, fun t htt => ?_, fun k hk => ?_⟩
  · rw [h _ (by omega), h _ (by omega), h _ (by omega), h _ (by omega)]; exact b1 i hi
  · rw [h _ (by omega)]; exact b2
  · rw [h _ (by omega)]; exact b3
  · rw [h _ (by omega)]; exact b4
  · rw [h _ (by omega)]; exact b5
  · rw [h _ (by omega)]; exact b6
  · rw [h _ (by omega)]; exact c1 j hj
  · obtain ⟨q, q1, q2⟩ := c2 t htt
    exact ⟨q, q1, q2.nn (by omega) h⟩
  · rw [c3 k hk]
    unfold cd_cn
    rw [cd_cnt_cg (N' := N') (N := N) (fun t htt => h _ (by omega))]
/-- the shapes of both, as the calls go by -/
def px_sG (w : cd_WT) (m : Nat) (S : cd_Sp) (c : Nat) : Prop := m = w.1 + 90 ∧ cd_CD w S ∧ cd_MO w S m ∧ (∃ Q, S.1 = 112 + 3 * Q ∧ Q ≤ c) ∧ ∀ b, w.1 + S.1 ≤ b → (S.2.1 b).1 = 0
/-- the house of now -/
def px_sN (w : cd_WT) (m : Nat) (S : cd_Sp) (I : cd_Mem) (c : Nat) : Prop := ∃ mm tc hh rr, cd_HG w S I (w.1 + 1) (I (m + 1)) mm tc ∧ I (m + 1) 2 = nI hh ∧ hh ≤ 9999 ∧ I (m + 1) 10 = nI rr ∧ rr ≤ 1300 * c
/-- the image -/
def px_sI (w : cd_WT) (m : Nat) (S : cd_Sp) (I : cd_Mem) (c : Nat) : Prop := I w.1 3 = I m 3 ∧ ∃ mg tg hg rg, cd_V (I (m + 2)) mg tg ∧ (¬ I w.1 3 = 0 → cd_HG w S I (w.1 + 37) (I (m + 2)) mg tg) ∧ I (m + 2) 2 = nI hg ∧ hg ≤ 9999 ∧ I (m + 2) 10 = nI rg ∧ rg ≤ 1300 * c
/-- the tape -/
def px_sT (w : cd_WT) (m : Nat) (I : cd_Mem) : Prop := ∃ B L, I m 6 = nI L ∧ px_TP (I (m + 5)) B L ∧ px_CP I w B L
/-- the sheets -/
def px_sS (w : cd_WT) (m : Nat) (I : cd_Mem) : Prop := cd_SR w I (I (m + 13)) (I (m + 14)) (I (m + 15)) ∧ cd_VS (I (m + 13)) (I (m + 14)) ∧ cd_VC (I (m + 15))
/-- the slots -/
def px_sL (w : cd_WT) (m : Nat) (I : cd_Mem) : Prop := cd_LR w I (I (m + 16)) (I (m + 17)) (I (m + 18)) (I (m + 19)) ∧ cd_VL (I (m + 16)) (I (m + 17))
/-- what waits -/
def px_sW (w : cd_WT) (m : Nat) (I : cd_Mem) : Prop := ∃ wt, I w.1 8 = nI wt ∧ I m 32 = nI wt ∧ wt ≤ 60 ∧ ∀ j, j < wt → I (w.1 + 60) j = I (m + 21) j
def px_sK (m : Nat) (I : cd_Mem) : Prop := (∀ j, j < 12 → I (m + 6) j = nI (px_kc j)) ∧ ∀ j, j < 4 → I (m + 7) j = nI (px_ka j)
/-- both sides agree, c calls done -/
def px_SM (w : cd_WT) (m : Nat) (S : cd_Sp) (I : cd_Mem) (c : Nat) : Prop := px_sG w m S c ∧ px_sN w m S I c ∧ px_sI w m S I c ∧ px_sT w m I ∧ px_sS w m I ∧ px_sL w m I ∧ px_sW w m I ∧ px_sK m I
theorem cd_MO.ss {w : cd_WT} {S S' : cd_Sp} {m h : Nat} (H : cd_MO w S m) (hs : cd_ss S S' h) (hn : h + 4 ≠ m) : cd_MO w S' m := by
  obtain ⟨a1, a2, a3⟩ := H
  refine ⟨a1, by rw [hs.2.1]; exact a2, fun q hq => ?_⟩
  rw [hs.2.1, hs.2.2 m (by omega)]
  exact a3 q hq
theorem px_sG.ss {w : cd_WT} {m : Nat} {S S' : cd_Sp} {c c' : Nat} {h : Nat} (H : px_sG w m S c) (hs : cd_ss S S' h) (hh : h = w.1 + 1 ∨ h = w.1 + 19 ∨ h = w.1 + 37) (hc : c ≤ c') : px_sG w m S' c' := by
  obtain ⟨a0, a1, a2, ⟨Q, a3, a4⟩, a5⟩ := H
  exact ⟨a0, a1.ss hs hh, a2.ss hs (by omega), ⟨Q, by rw [hs.1]; exact a3, by omega⟩, fun b hb => by rw [hs.2.1]; exact a5 b (by rw [hs.1] at hb; exact hb)⟩
theorem px_sN.fr {w : cd_WT} {m : Nat} {S S' : cd_Sp} {I I' : cd_Mem} {c c' : Nat} {h : Nat} (H : px_sN w m S I c) (hs : cd_ss S S' h) (hh : h = w.1 + 19 ∨ h = w.1 + 37) (hc : c ≤ c') (h1 : ∀ b, w.1 + 1 ≤ b → b < w.1 + 19 → I' b = I b) (h2 : ∀ b, w.1 + 112 ≤ b → ¬ (b - (w.1 + 112)) % 3 = 2 → I' b = I b) (h3 : I' (m + 1) = I (m + 1)) : px_sN w m S' I' c' := by
  obtain ⟨mm, tc, hh', rr, a1, a2, a3, a4, a5⟩ := H
  unfold px_sN
  rw [h3]
  exact ⟨mm, tc, hh', rr, a1.fr hs (by omega) (by omega) h1 h2, a2, a3, a4, by omega⟩
theorem px_sI.fr {w : cd_WT} {m : Nat} {S S' : cd_Sp} {I I' : cd_Mem} {c c' : Nat} {h : Nat} (H : px_sI w m S I c) (hs : cd_ss S S' h) (hh : h = w.1 + 1 ∨ h = w.1 + 19) (hc : c ≤ c') (h1 : ∀ b, w.1 + 37 ≤ b → b < w.1 + 55 → I' b = I b) (h2 : ∀ b, w.1 + 112 ≤ b → ¬ (b - (w.1 + 112)) % 3 = 2 → I' b = I b) (h3 : I' (m + 2) = I (m + 2)) (h4 : I' w.1 3 = I w.1 3) (h5 : I' m 3 = I m 3) : px_sI w m S' I' c' := by
  obtain ⟨a0, mm, tc, hh', rr, b1, a1, a2, a3, a4, a5⟩ := H
  unfold px_sI
  rw [h3, h4, h5]
  exact ⟨a0, mm, tc, hh', rr, b1, fun q => (a1 q).fr hs (by omega) (by omega) h1 h2, a2, a3, a4, by omega⟩
theorem px_sT.fr {w : cd_WT} {m : Nat} {I I' : cd_Mem} (H : px_sT w m I) (h1 : I' (w.1 + 55) 0 = I (w.1 + 55) 0) (h2 : I' (w.1 + 56) = I (w.1 + 56)) (h3 : I' m 6 = I m 6) (h4 : I' (m + 5) = I (m + 5)) : px_sT w m I' := by
  obtain ⟨B, L, a1, a2, a3⟩ := H
  unfold px_sT px_CP at *
  rw [h1, h2, h3, h4]
  exact ⟨B, L, a1, a2, a3⟩
theorem cd_SR.fr {w : cd_WT} {I I' : cd_Mem} {so sz ce : Nat → Int32} (H : cd_SR w I so sz ce) (h1 : ∀ b, w.1 + 62 ≤ b → b < w.1 + 70 → I' b = I b) : cd_SR w I' so sz ce := by
  intro s hs
  rw [h1 _ (by omega) (by omega), h1 (w.1 + 62 + 2 * s + 1) (by omega) (by omega)]
  exact H s hs
theorem px_sS.fr {w : cd_WT} {m : Nat} {I I' : cd_Mem} (H : px_sS w m I) (h1 : ∀ b, w.1 + 62 ≤ b → b < w.1 + 70 → I' b = I b) (h2 : I' (m + 13) = I (m + 13)) (h3 : I' (m + 14) = I (m + 14)) (h4 : I' (m + 15) = I (m + 15)) : px_sS w m I' := by
  unfold px_sS at *
  rw [h2, h3, h4]
  exact ⟨H.1.fr h1, H.2⟩
theorem cd_LR.fr {w : cd_WT} {I I' : cd_Mem} {ho hA hB hc : Nat → Int32} (H : cd_LR w I ho hA hB hc) (h1 : ∀ b, w.1 + 70 ≤ b → b < w.1 + 90 → I' b = I b) : cd_LR w I' ho hA hB hc := by
  intro s hs
  rw [h1 (w.1 + 70 + 4 * s) (by omega) (by omega), h1 (w.1 + 71 + 4 * s) (by omega) (by omega), h1 (w.1 + 72 + 4 * s) (by omega) (by omega), h1 (w.1 + 72 + 4 * s + 1) (by omega) (by omega)]
  exact H s hs
theorem px_sL.fr {w : cd_WT} {m : Nat} {I I' : cd_Mem} (H : px_sL w m I) (h1 : ∀ b, w.1 + 70 ≤ b → b < w.1 + 90 → I' b = I b) (h2 : I' (m + 16) = I (m + 16)) (h3 : I' (m + 17) = I (m + 17)) (h4 : I' (m + 18) = I (m + 18)) (h5 : I' (m + 19) = I (m + 19)) : px_sL w m I' := by
  unfold px_sL at *
  rw [h2, h3, h4, h5]
  exact ⟨H.1.fr h1, H.2⟩
theorem px_sW.fr {w : cd_WT} {m : Nat} {I I' : cd_Mem} (H : px_sW w m I) (h1 : I' w.1 8 = I w.1 8) (h2 : I' m 32 = I m 32) (h3 : I' (w.1 + 60) = I (w.1 + 60)) (h4 : I' (m + 21) = I (m + 21)) : px_sW w m I' := by
  unfold px_sW at *
  rw [h1, h2, h3, h4]
  exact H
theorem px_sK.fr {m : Nat} {I I' : cd_Mem} (H : px_sK m I) (h1 : I' (m + 6) = I (m + 6)) (h2 : I' (m + 7) = I (m + 7)) : px_sK m I' := by
  unfold px_sK at *
  rw [h1, h2]
  exact H
/-- a call that reaches the house of now alone -/
theorem px_SM.now {w : cd_WT} {m : Nat} {S : cd_Sp} {I I' : cd_Mem} {c : Nat} {mm tc hh rr : Nat} (H : px_SM w m S I c) (hG : cd_HG w S I' (w.1 + 1) (I' (m + 1)) mm tc) (h2 : I' (m + 1) 2 = nI hh) (h9 : hh ≤ 9999) (h10 : I' (m + 1) 10 = nI rr) (hr : rr ≤ 1300 * (c + 1)) (hch : ∀ b, ¬ cd_wr w (w.1 + 1) b → b ∉ [m + 1, m + 4, m + 11, m + 12] → I' b = I b) : px_SM w m S I' (c + 1) := by
  obtain ⟨g, n, i, t, s, sl, wt, k⟩ := H
  have hm := g.1
  have q : ∀ b, (b < w.1 + 1 ∨ w.1 + 19 ≤ b) → (b < w.1 + 112 ∨ ¬ (b - (w.1 + 112)) % 3 = 2) → b ≠ m + 1 → b ≠ m + 4 → b ≠ m + 11 → b ≠ m + 12 → I' b = I b := fun b b1 b2 b3 b4 b5 b6 => hch b (by unfold cd_wr; omega) (by simp only [List.mem_cons, List.not_mem_nil, or_false]; omega)
  refine ⟨g.ss (cd_ss.rf S (w.1 + 1)) (Or.inl rfl) (by omega), ⟨mm, tc, hh, rr, hG, h2, h9, h10, hr⟩, i.fr (cd_ss.rf S (w.1 + 1)) (Or.inl rfl) (by omega) (fun b _ _ => q b (by omega) (by omega) (by omega) (by omega) (by omega) (by omega)) (fun b _ _ => q b (by omega) (by omega) (by omega) (by omega) (by omega) (by omega)) (q _ (by omega) (by omega) (by omega) (by omega) (by omega) (by omega)) (by rw [q w.1 (by omega) (by omega) (by omega) (by omega) (by omega) (by omega)]) (by rw [q m (by omega) (by omega) (by omega) (by omega) (by omega) (by omega)]), t.fr (by rw [q (w.1 + 55) (by omega) (by omega) (by omega) (by omega) (by omega) (by omega)]) (q _ (by omega) (by omega) (by omega) (by omega) (by omega) (by omega)) (by rw [q m (by omega) (by omega) (by omega) (by omega) (by omega) (by omega)]) (q _ (by omega) (by omega) (by omega) (by omega) (by omega) (by omega)), s.fr (fun b _ _ => q b (by omega) (by omega) (by omega) (by omega) (by omega) (by omega)) (q _ (by omega) (by omega) (by omega) (by omega) (by omega) (by omega)) (q _ (by omega) (by omega) (by omega) (by omega) (by omega) (by omega)) (q _ (by omega) (by omega) (by omega) (by omega) (by omega) (by omega)), sl.fr (fun b _ _ => q b (by omega) (by omega) (by omega) (by omega) (by omega) (by omega)) (q _ (by omega) (by omega) (by omega) (by omega) (by omega) (by omega)) (q _ (by omega) (by omega) (by omega) (by omega) (by omega) (by omega)) (q _ (by omega) (by omega) (by omega) (by omega) (by omega) (by omega)) (q _ (by omega) (by omega) (by omega) (by omega) (by omega) (by omega)), wt.fr (by rw [q w.1 (by omega) (by omega) (by omega) (by omega) (by omega) (by omega)]) (by rw [q m (by omega) (by omega) (by omega) (by omega) (by omega) (by omega)]) (q _ (by omega) (by omega) (by omega) (by omega) (by omega) (by omega)) (q _ (by omega) (by omega) (by omega) (by omega) (by omega) (by omega)), k.fr (q _ (by omega) (by omega) (by omega) (by omega) (by omega) (by omega)) (q _ (by omega) (by omega) (by omega) (by omega) (by omega) (by omega))⟩
/-- a call that reaches the thought alone, or nothing -/
theorem px_SM.th {w : cd_WT} {m : Nat} {S S' : cd_Sp} {I I' : cd_Mem} {c : Nat} (H : px_SM w m S I c) (hs : cd_ss S S' (w.1 + 19)) (hch : ∀ b, ¬ cd_wr w (w.1 + 19) b → b ∉ [w.1 + 61, m + 3, m + 4, m + 11, m + 12] → I' b = I b) : px_SM w m S' I' (c + 1) := by
  obtain ⟨g, n, i, t, s, sl, wt, k⟩ := H
  have hm := g.1
  have q : ∀ b, (b < w.1 + 19 ∨ w.1 + 37 ≤ b) → (b < w.1 + 112 ∨ ¬ (b - (w.1 + 112)) % 3 = 2) → b ≠ w.1 + 61 → b ≠ m + 3 → b ≠ m + 4 → b ≠ m + 11 → b ≠ m + 12 → I' b = I b := fun b b1 b2 b3 b4 b5 b6 b7 => hch b (by unfold cd_wr; omega) (by simp only [List.mem_cons, List.not_mem_nil, or_false]; omega)
  refine ⟨g.ss hs (Or.inr (Or.inl rfl)) (by omega), n.fr hs (Or.inl rfl) (by omega) (fun b _ _ => q b (by omega) (by omega) (by omega) (by omega) (by omega) (by omega) (by omega)) (fun b _ _ => q b (by omega) (by omega) (by omega) (by omega) (by omega) (by omega) (by omega)) (q _ (by omega) (by omega) (by omega) (by omega) (by omega) (by omega) (by omega)), i.fr hs (Or.inr rfl) (by omega) (fun b _ _ => q b (by omega) (by omega) (by omega) (by omega) (by omega) (by omega) (by omega)) (fun b _ _ => q b (by omega) (by omega) (by omega) (by omega) (by omega) (by omega) (by omega)) (q _ (by omega) (by omega) (by omega) (by omega) (by omega) (by omega) (by omega)) (by rw [q w.1 (by omega) (by omega) (by omega) (by omega) (by omega) (by omega) (by omega)]) (by rw [q m (by omega) (by omega) (by omega) (by omega) (by omega) (by omega) (by omega)]), t.fr (by rw [q (w.1 + 55) (by omega) (by omega) (by omega) (by omega) (by omega) (by omega) (by omega)]) (q _ (by omega) (by omega) (by omega) (by omega) (by omega) (by omega) (by omega)) (by rw [q m (by omega) (by omega) (by omega) (by omega) (by omega) (by omega) (by omega)]) (q _ (by omega) (by omega) (by omega) (by omega) (by omega) (by omega) (by omega)), s.fr (fun b _ _ => q b (by omega) (by omega) (by omega) (by omega) (by omega) (by omega) (by omega)) (q _ (by omega) (by omega) (by omega) (by omega) (by omega) (by omega) (by omega)) (q _ (by omega) (by omega) (by omega) (by omega) (by omega) (by omega) (by omega)) (q _ (by omega) (by omega) (by omega) (by omega) (by omega) (by omega) (by omega)), sl.fr (fun b _ _ => q b (by omega) (by omega) (by omega) (by omega) (by omega) (by omega) (by omega)) (q _ (by omega) (by omega) (by omega) (by omega) (by omega) (by omega) (by omega)) (q _ (by omega) (by omega) (by omega) (by omega) (by omega) (by omega) (by omega)) (q _ (by omega) (by omega) (by omega) (by omega) (by omega) (by omega) (by omega)) (q _ (by omega) (by omega) (by omega) (by omega) (by omega) (by omega) (by omega)), wt.fr (by rw [q w.1 (by omega) (by omega) (by omega) (by omega) (by omega) (by omega) (by omega)]) (by rw [q m (by omega) (by omega) (by omega) (by omega) (by omega) (by omega) (by omega)]) (q _ (by omega) (by omega) (by omega) (by omega) (by omega) (by omega) (by omega)) (q _ (by omega) (by omega) (by omega) (by omega) (by omega) (by omega) (by omega)), k.fr (q _ (by omega) (by omega) (by omega) (by omega) (by omega) (by omega) (by omega)) (q _ (by omega) (by omega) (by omega) (by omega) (by omega) (by omega) (by omega))⟩
/-- a call that reaches the sheets alone -/
theorem px_SM.sh {w : cd_WT} {m : Nat} {S : cd_Sp} {I I' : cd_Mem} {c : Nat} (H : px_SM w m S I c) (hS : px_sS w m I') (hch : ∀ b, ¬ (w.1 + 62 ≤ b ∧ b < w.1 + 70) → b ∉ [m + 13, m + 14, m + 15, m + 20] → I' b = I b) : px_SM w m S I' (c + 1) := by
  obtain ⟨g, n, i, t, s, sl, wt, k⟩ := H
  have hm := g.1
  have q : ∀ b, (b < w.1 + 62 ∨ w.1 + 70 ≤ b) → b ≠ m + 13 → b ≠ m + 14 → b ≠ m + 15 → b ≠ m + 20 → I' b = I b := fun b b1 b2 b3 b4 b5 => hch b (by omega) (by simp only [List.mem_cons, List.not_mem_nil, or_false]; omega)
  refine ⟨g.ss (cd_ss.rf S (w.1 + 1)) (Or.inl rfl) (by omega), n.fr (cd_ss.rf S (w.1 + 19)) (Or.inl rfl) (by omega) (fun b _ _ => q b (by omega) (by omega) (by omega) (by omega) (by omega)) (fun b _ _ => q b (by omega) (by omega) (by omega) (by omega) (by omega)) (q _ (by omega) (by omega) (by omega) (by omega) (by omega)), i.fr (cd_ss.rf S (w.1 + 1)) (Or.inl rfl) (by omega) (fun b _ _ => q b (by omega) (by omega) (by omega) (by omega) (by omega)) (fun b _ _ => q b (by omega) (by omega) (by omega) (by omega) (by omega)) (q _ (by omega) (by omega) (by omega) (by omega) (by omega)) (by rw [q w.1 (by omega) (by omega) (by omega) (by omega) (by omega)]) (by rw [q m (by omega) (by omega) (by omega) (by omega) (by omega)]), t.fr (by rw [q (w.1 + 55) (by omega) (by omega) (by omega) (by omega) (by omega)]) (q _ (by omega) (by omega) (by omega) (by omega) (by omega)) (by rw [q m (by omega) (by omega) (by omega) (by omega) (by omega)]) (q _ (by omega) (by omega) (by omega) (by omega) (by omega)), hS, sl.fr (fun b _ _ => q b (by omega) (by omega) (by omega) (by omega) (by omega)) (q _ (by omega) (by omega) (by omega) (by omega) (by omega)) (q _ (by omega) (by omega) (by omega) (by omega) (by omega)) (q _ (by omega) (by omega) (by omega) (by omega) (by omega)) (q _ (by omega) (by omega) (by omega) (by omega) (by omega)), wt.fr (by rw [q w.1 (by omega) (by omega) (by omega) (by omega) (by omega)]) (by rw [q m (by omega) (by omega) (by omega) (by omega) (by omega)]) (q _ (by omega) (by omega) (by omega) (by omega) (by omega)) (q _ (by omega) (by omega) (by omega) (by omega) (by omega)), k.fr (q _ (by omega) (by omega) (by omega) (by omega) (by omega)) (q _ (by omega) (by omega) (by omega) (by omega) (by omega))⟩
/-- a call that reaches the slots alone -/
theorem px_SM.sl {w : cd_WT} {m : Nat} {S : cd_Sp} {I I' : cd_Mem} {c : Nat} (H : px_SM w m S I c) (hL : px_sL w m I') (hch : ∀ b, ¬ (w.1 + 70 ≤ b ∧ b < w.1 + 90) → b ∉ [m + 16, m + 17, m + 18, m + 19] → I' b = I b) : px_SM w m S I' (c + 1) := by
  obtain ⟨g, n, i, t, s, sl, wt, k⟩ := H
  have hm := g.1
  have q : ∀ b, (b < w.1 + 70 ∨ w.1 + 90 ≤ b) → b ≠ m + 16 → b ≠ m + 17 → b ≠ m + 18 → b ≠ m + 19 → I' b = I b := fun b b1 b2 b3 b4 b5 => hch b (by omega) (by simp only [List.mem_cons, List.not_mem_nil, or_false]; omega)
  refine ⟨g.ss (cd_ss.rf S (w.1 + 1)) (Or.inl rfl) (by omega), n.fr (cd_ss.rf S (w.1 + 19)) (Or.inl rfl) (by omega) (fun b _ _ => q b (by omega) (by omega) (by omega) (by omega) (by omega)) (fun b _ _ => q b (by omega) (by omega) (by omega) (by omega) (by omega)) (q _ (by omega) (by omega) (by omega) (by omega) (by omega)), i.fr (cd_ss.rf S (w.1 + 1)) (Or.inl rfl) (by omega) (fun b _ _ => q b (by omega) (by omega) (by omega) (by omega) (by omega)) (fun b _ _ => q b (by omega) (by omega) (by omega) (by omega) (by omega)) (q _ (by omega) (by omega) (by omega) (by omega) (by omega)) (by rw [q w.1 (by omega) (by omega) (by omega) (by omega) (by omega)]) (by rw [q m (by omega) (by omega) (by omega) (by omega) (by omega)]), t.fr (by rw [q (w.1 + 55) (by omega) (by omega) (by omega) (by omega) (by omega)]) (q _ (by omega) (by omega) (by omega) (by omega) (by omega)) (by rw [q m (by omega) (by omega) (by omega) (by omega) (by omega)]) (q _ (by omega) (by omega) (by omega) (by omega) (by omega)), s.fr (fun b _ _ => q b (by omega) (by omega) (by omega) (by omega) (by omega)) (q _ (by omega) (by omega) (by omega) (by omega) (by omega)) (q _ (by omega) (by omega) (by omega) (by omega) (by omega)) (q _ (by omega) (by omega) (by omega) (by omega) (by omega)), hL, wt.fr (by rw [q w.1 (by omega) (by omega) (by omega) (by omega) (by omega)]) (by rw [q m (by omega) (by omega) (by omega) (by omega) (by omega)]) (q _ (by omega) (by omega) (by omega) (by omega) (by omega)) (q _ (by omega) (by omega) (by omega) (by omega) (by omega)), k.fr (q _ (by omega) (by omega) (by omega) (by omega) (by omega)) (q _ (by omega) (by omega) (by omega) (by omega) (by omega))⟩
/-- a call that reaches the tape and what waits alone -/
theorem px_SM.tw {w : cd_WT} {m : Nat} {S : cd_Sp} {I I' : cd_Mem} {c c' : Nat} (H : px_SM w m S I c) (hc : c ≤ c') (hT : px_sT w m I') (hW : px_sW w m I') (h3 : I' w.1 3 = I w.1 3) (h4 : I' m 3 = I m 3) (hch : ∀ b, b ∉ [w.1, w.1 + 55, w.1 + 56, w.1 + 60, m, m + 5, m + 21] → I' b = I b) : px_SM w m S I' c' := by
  obtain ⟨g, n, i, t, s, sl, wt, k⟩ := H
  have hm := g.1
  have q : ∀ b, b ≠ w.1 → b ≠ w.1 + 55 → b ≠ w.1 + 56 → b ≠ w.1 + 60 → b ≠ m → b ≠ m + 5 → b ≠ m + 21 → I' b = I b := fun b b1 b2 b3 b4 b5 b6 b7 => hch b (by simp only [List.mem_cons, List.not_mem_nil, or_false]; omega)
  refine ⟨g.ss (cd_ss.rf S (w.1 + 1)) (Or.inl rfl) (by omega), n.fr (cd_ss.rf S (w.1 + 19)) (Or.inl rfl) (by omega) (fun b _ _ => q b (by omega) (by omega) (by omega) (by omega) (by omega) (by omega) (by omega)) (fun b _ _ => q b (by omega) (by omega) (by omega) (by omega) (by omega) (by omega) (by omega)) (q _ (by omega) (by omega) (by omega) (by omega) (by omega) (by omega) (by omega)), i.fr (cd_ss.rf S (w.1 + 1)) (Or.inl rfl) (by omega) (fun b _ _ => q b (by omega) (by omega) (by omega) (by omega) (by omega) (by omega) (by omega)) (fun b _ _ => q b (by omega) (by omega) (by omega) (by omega) (by omega) (by omega) (by omega)) (q _ (by omega) (by omega) (by omega) (by omega) (by omega) (by omega) (by omega)) h3 h4, hT, s.fr (fun b _ _ => q b (by omega) (by omega) (by omega) (by omega) (by omega) (by omega) (by omega)) (q _ (by omega) (by omega) (by omega) (by omega) (by omega) (by omega) (by omega)) (q _ (by omega) (by omega) (by omega) (by omega) (by omega) (by omega) (by omega)) (q _ (by omega) (by omega) (by omega) (by omega) (by omega) (by omega) (by omega)), sl.fr (fun b _ _ => q b (by omega) (by omega) (by omega) (by omega) (by omega) (by omega) (by omega)) (q _ (by omega) (by omega) (by omega) (by omega) (by omega) (by omega) (by omega)) (q _ (by omega) (by omega) (by omega) (by omega) (by omega) (by omega) (by omega)) (q _ (by omega) (by omega) (by omega) (by omega) (by omega) (by omega) (by omega)) (q _ (by omega) (by omega) (by omega) (by omega) (by omega) (by omega) (by omega)), hW, k.fr (q _ (by omega) (by omega) (by omega) (by omega) (by omega) (by omega) (by omega)) (q _ (by omega) (by omega) (by omega) (by omega) (by omega) (by omega) (by omega))⟩
