def px_vc (x : Int32) : Prop := x = cd_NONE ∨ (-99999 ≤ x.toInt ∧ x.toInt ≤ 99999)
/-- what sheets may hold -/
def px_V3 (T : cd_Th3) : Prop := cd_VS T.1 T.2.1 ∧ cd_VC T.2.2
theorem px_sort3 {t : Int32} (h : (-1) ≤ t ∧ t ≤ nI 1) : t = -1 ∨ t = nI 0 ∨ t = nI 1 := by
  obtain ⟨h1, h2⟩ := h
  rw [Int32.le_iff_toInt_le] at h1 h2
  rw [show (-1 : Int32).toInt = -1 from rfl] at h1
  rw [show (nI 1).toInt = 1 from rfl] at h2
  rcases (show t.toInt = -1 ∨ t.toInt = 0 ∨ t.toInt = 1 by omega) with q | q | q
  · exact Or.inl (Int32.toInt_inj.1 q)
  · exact Or.inr (Or.inl (Int32.toInt_inj.1 q))
  · exact Or.inr (Or.inr (Int32.toInt_inj.1 q))
theorem px_sd3 {T : cd_Th3} (H : px_V3 T) {s : Nat} {t n : Int32} (ht : t = -1 ∨ t = nI 0 ∨ t = nI 1) (hn : ∃ k, k ≤ 24 ∧ n = nI k) : px_V3 (cd_sd3 T s t n) := by
  obtain ⟨a1, a2⟩ := H
  obtain ⟨k, k1, k2⟩ := hn
  refine ⟨fun s' hs' => ?_, fun j hj => ?_⟩
  · show ∃ n', n' ≤ 24 ∧ (if s' = s then n else T.2.1 s') = nI n' ∧ ((if s' = s then t else T.1 s') = -1 ∨ (if s' = s then t else T.1 s') = nI 0 ∨ (if s' = s then t else T.1 s') = nI 1)
    by_cases e : s' = s
    · rw [if_pos e, if_pos e]
      exact ⟨k, k1, k2, ht⟩
    · rw [if_neg e, if_neg e]
      exact a1 s' hs'
  · show px_vc (if 24 * s ≤ j ∧ j < 24 * s + 24 then nI 0 else T.2.2 j)
    split
    · exact Or.inr ⟨by decide, by decide⟩
    · exact a2 j hj
theorem px_V3.sh {T : cd_Th3} (H : px_V3 T) (s t n : Int32) : px_V3 (sp_sh T s t n).2 := by
  unfold sp_sh
  split
  · split
    · rename_i ht
      split
      · exact px_sd3 H (px_sort3 ht) ⟨0, by omega, rfl⟩
      · split
        · split
          · rename_i h1 h0
            obtain ⟨k, k0, k1, k2⟩ := cd_in_ex (lo := 0) (hi := 24) ⟨h0, h1⟩ (by decide) (by decide)
            exact px_sd3 H (px_sort3 ht) ⟨k, k1, k2⟩
          · exact H
        · exact H
    · exact H
  · exact H
theorem px_mt3 {T : cd_Th3} (H : px_V3 T) {s p : Nat} {v : Int32} (hv : T.1 s = 0 ∨ v = cd_NONE ∨ ((-99999) ≤ v ∧ v ≤ 99999)) : px_V3 (cd_mt3 T s p v).2 := by
  obtain ⟨a1, a2⟩ := H
  refine ⟨a1, fun j hj => ?_⟩
  show px_vc (if j = 24 * s + p then (if T.1 s = 0 then v.toInt16.toInt32 else v) else T.2.2 j)
  split
  · split
    · refine Or.inr ?_
      have h1 := Int16.le_toInt v.toInt16
      have h2 := Int16.toInt_lt v.toInt16
      rw [Int16.toInt_toInt32]
      omega
    · rename_i h0
      rcases hv with hv | hv | hv
      · exact absurd hv h0
      · exact Or.inl hv
      · obtain ⟨h1, h2⟩ := hv
        rw [Int32.le_iff_toInt_le] at h1 h2
        rw [show (-99999 : Int32).toInt = -99999 from rfl] at h1
        rw [show (99999 : Int32).toInt = 99999 from rfl] at h2
        exact Or.inr ⟨h1, h2⟩
  · exact a2 j hj
theorem px_V3.mk {T : cd_Th3} (H : px_V3 T) (s p v : Int32) : px_V3 (sp_mk T s p v).2 := by
  have key : ∀ s' p', s' < 4 → ¬ T.1 s' = -1 → px_V3 (cd_m63 T s' p' v).2 := by
    intro s' p' hs' hn
    unfold cd_m63
    split
    · split
      · rename_i e; exact px_mt3 H (Or.inr (Or.inl e))
      · split
        · rename_i e; exact px_mt3 H (Or.inr (Or.inr e))
        · exact H
    · rename_i e1
      obtain ⟨n, -, -, h3⟩ := H.1 s' hs'
      rcases h3 with h3 | h3 | h3
      · exact absurd h3 hn
      · exact px_mt3 H (Or.inl h3)
      · exact absurd h3 e1
  unfold sp_mk
  split
  · rename_i hs
    have hs4 := px_tn_le (k := 3) hs.1 hs.2 (by decide)
    split
    · rename_i h0
      have hne : ¬ T.1 (cd_tn s) = -1 := fun e => by rw [e] at h0; exact absurd h0 (by decide)
      split
      · split
        · split
          · exact H
          · exact key _ _ (by omega) hne
        · exact key _ _ (by omega) hne
      · exact H
    · exact H
  · exact H
theorem px_V3.cp {T : cd_Th3} (H : px_V3 T) (f p t a n : Int32) : px_V3 (sp_cp T f p t a n).2 := by
  refine ⟨H.1, ?_⟩
  show cd_VC (sp_copy T.1 T.2.1 T.2.2 f p t a n).2
  unfold sp_copy
  (repeat' split) <;> first | exact H.2 | skip
  rename_i hf ht h1 h2 h3 h4 h5 h6 h7 h8
  intro j hj
  show px_vc (if 24 * cd_tn t + cd_tn a ≤ j ∧ j < 24 * cd_tn t + cd_tn a + cd_tn n then T.2.2 (24 * cd_tn f + cd_tn p + (j - (24 * cd_tn t + cd_tn a))) else T.2.2 j)
  split
  · rename_i hj2
    have hf4 := px_tn_le (k := 3) hf.1 hf.2 (by decide)
    obtain ⟨z, z1, z2, -⟩ := H.1 (cd_tn f) (by omega)
    have hpn : cd_tn p + cd_tn n ≤ 24 := by
      rw [z2] at h7
      rw [Int32.lt_iff_toInt_lt] at h4 h6 h7
      rw [Int32.toInt_sub, nI_toInt (by omega)] at h7
      rw [show (0 : Int32).toInt = 0 from rfl] at h4 h6
      unfold cd_tn
      rw [← Int32.toNat_toInt, ← Int32.toNat_toInt]
      have q1 := Int32.toInt_lt n
      rw [Int.bmod_eq_of_le (by omega) (by omega)] at h7
      omega
    exact H.2 _ (by omega)
  · exact H.2 j hj
theorem px_VL_ly {N so sz ce : Nat → Int32} {L : cd_Th4} (hVS : cd_VS so sz) (H : cd_VL L.1 L.2.1) (s t k : Int32) : cd_VL (sp_ly N so sz ce L s t k).2.1 (sp_ly N so sz ce L s t k).2.2.1 := by
  unfold sp_ly
  have key : ∀ (s' : Nat) (t a : Int32), (t = nI 2 → ∃ n, n ≤ 24 ∧ a = nI n) → cd_VL (upd L.1 s' t) (upd L.2.1 s' a) := by
    intro s' t a ha j hj
    show (if j = s' then t else L.1 j) = nI 2 → ∃ n, n ≤ 24 ∧ (if j = s' then a else L.2.1 j) = nI n
    by_cases e : j = s'
    · rw [if_pos e, if_pos e]; exact ha
    · rw [if_neg e, if_neg e]; exact H j hj
  split
  · split
    · split
      · split
        · exact key _ _ _ (fun q => by rename_i e _; rw [e] at q; exact absurd q (by decide))
        · exact H
      · split
        · split
          · rename_i hk
            split
            · refine key _ _ _ (fun _ => ?_)
              have hk4 := px_tn_le (k := 3) hk.1 hk.2 (by decide)
              obtain ⟨z, z1, z2, -⟩ := hVS (cd_tn k) (by omega)
              exact ⟨z, z1, z2⟩
            · exact H
          · exact H
        · rename_i e
          exact key _ _ _ (fun q => absurd q e)
    · exact H
  · exact H
theorem px_m3 (I : cd_Mem) (m : Nat) (T : cd_Th3) : cd_m3 I m T (m + 13) = T.1 ∧ cd_m3 I m T (m + 14) = T.2.1 ∧ cd_m3 I m T (m + 15) = T.2.2 := by
  unfold cd_m3
  refine ⟨?_, ?_, cd_set_eq _ _ _⟩
  · rw [cd_set_ne _ _ (by omega), cd_set_ne _ _ (by omega), cd_set_eq]
  · rw [cd_set_ne _ _ (by omega), cd_set_eq]
theorem px_sS3 {w : cd_WT} {m : Nat} {I : cd_Mem} {T : cd_Th3} (hm : m = w.1 + 90) (hR : cd_SR w I T.1 T.2.1 T.2.2) (hV : px_V3 T) : px_sS w m (cd_m3 I m T) := by
  obtain ⟨e1, e2, e3⟩ := px_m3 I m T
  unfold px_sS
  rw [e1, e2, e3]
  refine ⟨hR.fr (fun b b1 b2 => ?_), hV⟩
  unfold cd_m3
  rw [cd_set_ne _ _ (by omega), cd_set_ne _ _ (by omega), cd_set_ne _ _ (by omega)]
theorem s_sheet {l : Launch} {w : cd_WT} {m : Nat} {S : cd_Sp} {I : cd_Mem} {c : Nat} (H : px_SM w m S I c) (z t n : Int32) : cd_C l w m_C_sheet 1 0 0 [.ref w.1, .int z, .int t, .int n] S I (px_P l w m c m_M_sheet 2 [.ref m, .int z, .int t, .int n]) := by
  have hm := H.1.1
  obtain ⟨s1, s2, s3⟩ := H.2.2.2.2.1
  refine px_imp (c_C_sheet (T := cd_g3 I m) H.1.2.1 s1 z t n) ?_
  rintro r S1 I1 ⟨x, rfl, rfl, rfl, hR, ho⟩
  have he : ∀ k, k < 22 → I1 (m + k) = I (m + k) := fun k hk => ho _ (by omega)
  have h13 := he 13 (by decide)
  have h14 := he 14 (by decide)
  have h15 := he 15 (by decide)
  have hg : cd_g3 I1 m = cd_g3 I m := by unfold cd_g3; rw [h13, h14, h15]
  have hV3 : px_V3 (sp_sh (cd_g3 I m) z t n).2 := px_V3.sh ⟨s2, s3⟩ _ _ _
  refine ⟨_, rfl, H.1.2.2.1.2.1, px_imp (c_M_sheet H.1.2.2.1 z t n) ?_⟩
  rintro r' S2 I2 ⟨rfl, rfl, rfl⟩
  rw [sp_sheet_3, hg]
  dsimp only
  refine ⟨rfl, H.sh (px_sS3 hm hR hV3) (fun b b1 b2 => ?_)⟩
  simp only [List.mem_cons, List.not_mem_nil, or_false] at b2
  unfold cd_m3
  rw [cd_set_ne _ _ (by omega), cd_set_ne _ _ (by omega), cd_set_ne _ _ (by omega)]
  exact ho b b1
theorem s_mark {l : Launch} {w : cd_WT} {m : Nat} {S : cd_Sp} {I : cd_Mem} {c : Nat} (H : px_SM w m S I c) (z p v : Int32) : cd_C l w m_C_mark 1 0 0 [.ref w.1, .int z, .int p, .int v] S I (px_P l w m c m_M_mark 2 [.ref m, .int z, .int p, .int v]) := by
  have hm := H.1.1
  obtain ⟨s1, s2, s3⟩ := H.2.2.2.2.1
  refine px_imp (c_C_mark (T := cd_g3 I m) H.1.2.1 s1 s2 z p v) ?_
  rintro r S1 I1 ⟨x, rfl, rfl, rfl, hR, ho⟩
  have he : ∀ k, k < 22 → I1 (m + k) = I (m + k) := fun k hk => ho _ (by omega)
  have h13 := he 13 (by decide)
  have h14 := he 14 (by decide)
  have h15 := he 15 (by decide)
  have hg : cd_g3 I1 m = cd_g3 I m := by unfold cd_g3; rw [h13, h14, h15]
  have hV3 : px_V3 (sp_mk (cd_g3 I m) z p v).2 := px_V3.mk ⟨s2, s3⟩ _ _ _
  refine ⟨_, rfl, H.1.2.2.1.2.1, px_imp (c_M_mark H.1.2.2.1 (by rw [h13, h14]; exact s2) z p v) ?_⟩
  rintro r' S2 I2 ⟨rfl, rfl, rfl⟩
  rw [sp_mark_3, hg]
  dsimp only
  refine ⟨rfl, H.sh (px_sS3 hm hR hV3) (fun b b1 b2 => ?_)⟩
  simp only [List.mem_cons, List.not_mem_nil, or_false] at b2
  unfold cd_m3
  rw [cd_set_ne _ _ (by omega), cd_set_ne _ _ (by omega), cd_set_ne _ _ (by omega)]
  exact ho b b1
theorem s_copy {l : Launch} {w : cd_WT} {m : Nat} {S : cd_Sp} {I : cd_Mem} {c : Nat} (H : px_SM w m S I c) (z p y a n : Int32) : cd_C l w m_C_copy 1 0 0 [.ref w.1, .int z, .int p, .int y, .int a, .int n] S I (px_P l w m c m_M_copy 2 [.ref m, .int z, .int p, .int y, .int a, .int n]) := by
  have hm := H.1.1
  obtain ⟨s1, s2, s3⟩ := H.2.2.2.2.1
  refine px_imp (c_C_copy (T := cd_g3 I m) H.1.2.1 s1 s2 z p y a n) ?_
  rintro r S1 I1 ⟨x, rfl, rfl, rfl, hR, ho⟩
  have he : ∀ k, k < 22 → I1 (m + k) = I (m + k) := fun k hk => ho _ (by omega)
  have h13 := he 13 (by decide)
  have h14 := he 14 (by decide)
  have h15 := he 15 (by decide)
  have hg : cd_g3 I1 m = cd_g3 I m := by unfold cd_g3; rw [h13, h14, h15]
  have hV3 : px_V3 (sp_cp (cd_g3 I m) z p y a n).2 := px_V3.cp ⟨s2, s3⟩ _ _ _ _ _
  refine ⟨_, rfl, H.1.2.2.1.2.1, px_imp (c_M_copy H.1.2.2.1 (by rw [h13, h14]; exact s2) z p y a n) ?_⟩
  rintro r' S2 I2 ⟨x, rfl, rfl, rfl, h4, h3⟩
  rw [h13, h14, h15] at h4
  rw [h13, h14, h15]
  have q : ∀ b, b ≠ m + 15 → b ≠ m + 20 → I2 b = I1 b := fun b b1 b2 => h3 b (by simp only [List.mem_cons, List.not_mem_nil, or_false]; omega)
  refine ⟨rfl, H.sh ?_ (fun b b1 b2 => ?_)⟩
  · unfold px_sS
    rw [q (m + 13) (by omega) (by omega), q (m + 14) (by omega) (by omega), h4, h13, h14]
    exact ⟨hR.fr (fun b b1 b2 => q b (by omega) (by omega)), hV3⟩
  · simp only [List.mem_cons, List.not_mem_nil, or_false] at b2
    exact (q b (by omega) (by omega)).trans (ho b b1)
theorem s_lay {l : Launch} {w : cd_WT} {m : Nat} {S : cd_Sp} {I : cd_Mem} {c : Nat} (H : px_SM w m S I c) (z y k : Int32) : cd_C l w m_C_lay 2 0 0 [.ref w.1, .int z, .int y, .int k] S I (px_P l w m c m_M_lay 2 [.ref m, .int z, .int y, .int k]) := by
  have hm := H.1.1
  obtain ⟨s1, s2, s3⟩ := H.2.2.2.2.1
  obtain ⟨l1, l2⟩ := H.2.2.2.2.2.1
  obtain ⟨mm, tc, hh, rr, hG, h2, h9, h10, hr⟩ := H.2.1
  refine px_imp (c_C_lay H.1.2.1 hG (T := cd_g3 I m) s1 s2 (L := cd_g4 I m) l1 z y k) ?_
  rintro r S1 I1 ⟨x, rfl, rfl, rfl, hR, ho⟩
  have he : ∀ k, k < 22 → I1 (m + k) = I (m + k) := fun k hk => ho _ (by omega)
  have h1 := he 1 (by decide)
  have h13 := he 13 (by decide)
  have h14 := he 14 (by decide)
  have h15 := he 15 (by decide)
  have hg : cd_g4 I1 m = cd_g4 I m := by unfold cd_g4; rw [he 16 (by decide), he 17 (by decide), he 18 (by decide), he 19 (by decide)]
  have hVL := px_VL_ly (N := I (m + 1)) (ce := I (m + 15)) (L := cd_g4 I m) s2 l2 z y k
  refine ⟨_, rfl, H.1.2.2.1.2.1, px_imp (c_M_lay H.1.2.2.1 mm tc (by rw [h1]; exact hG.2.2.1) z y k) ?_⟩
  rintro r' S2 I2 ⟨rfl, rfl, rfl⟩
  rw [sp_lay_4, hg, h1, h13, h14, h15]
  dsimp only
  have e : ∀ L : cd_Th4, cd_m4 I1 m L (m + 16) = L.1 ∧ cd_m4 I1 m L (m + 17) = L.2.1 ∧ cd_m4 I1 m L (m + 18) = L.2.2.1 ∧ cd_m4 I1 m L (m + 19) = L.2.2.2 := fun L => by
    unfold cd_m4
    refine ⟨?_, ?_, ?_, cd_set_eq _ _ _⟩
    · rw [cd_set_ne _ _ (by omega), cd_set_ne _ _ (by omega), cd_set_ne _ _ (by omega), cd_set_eq]
    · rw [cd_set_ne _ _ (by omega), cd_set_ne _ _ (by omega), cd_set_eq]
    · rw [cd_set_ne _ _ (by omega), cd_set_eq]
  have q : ∀ (L : cd_Th4) b, b ≠ m + 16 → b ≠ m + 17 → b ≠ m + 18 → b ≠ m + 19 → cd_m4 I1 m L b = I1 b := fun L b b1 b2 b3 b4 => by
    unfold cd_m4
    rw [cd_set_ne _ _ b4, cd_set_ne _ _ b3, cd_set_ne _ _ b2, cd_set_ne _ _ b1]
  refine ⟨rfl, H.sl ?_ (fun b b1 b2 => ?_)⟩
  · unfold px_sL
    rw [(e _).1, (e _).2.1, (e _).2.2.1, (e _).2.2.2]
    exact ⟨hR.fr (fun b b1 b2 => q _ b (by omega) (by omega) (by omega) (by omega)), hVL⟩
  · simp only [List.mem_cons, List.not_mem_nil, or_false] at b2
    exact (q _ b (by omega) (by omega) (by omega) (by omega)).trans (ho b b1)
theorem s_ask {l : Launch} {w : cd_WT} {m : Nat} {S : cd_Sp} {I : cd_Mem} {c : Nat} (H : px_SM w m S I c) (z k : Int32) : cd_C l w m_C_ask 1 0 0 [.ref w.1, .int z, .int k] S I (px_P l w m c m_M_ask 2 [.ref m, .int z, .int k]) := by
  obtain ⟨l1, l2⟩ := H.2.2.2.2.2.1
  refine px_imp (c_C_ask H.1.2.1 l1 z k) ?_
  rintro r S1 I1 ⟨rfl, rfl, rfl⟩
  refine ⟨_, rfl, H.1.2.2.1.2.1, px_imp (c_M_ask H.1.2.2.1  z k) ?_⟩
  rintro r' S2 I2 ⟨rfl, rfl, rfl⟩
  exact ⟨rfl, H.th (cd_ss.rf _ _) (fun _ _ _ => rfl)⟩
theorem s_item {l : Launch} {w : cd_WT} {m : Nat} {S : cd_Sp} {I : cd_Mem} {c : Nat} (H : px_SM w m S I c) (z p : Int32) : cd_C l w m_C_item 2 0 0 [.ref w.1, .int z, .int p] S I (px_P l w m c m_M_item 2 [.ref m, .int z, .int p]) := by
  obtain ⟨l1, l2⟩ := H.2.2.2.2.2.1
  refine px_imp (c_C_item H.1.2.1 l1 l2 z p) ?_
  rintro r S1 I1 ⟨rfl, rfl, rfl⟩
  refine ⟨_, rfl, H.1.2.2.1.2.1, px_imp (c_M_item H.1.2.2.1 l2 z p) ?_⟩
  rintro r' S2 I2 ⟨rfl, rfl, rfl⟩
  exact ⟨rfl, H.th (cd_ss.rf _ _) (fun _ _ _ => rfl)⟩
theorem s_rest {l : Launch} {w : cd_WT} {m : Nat} {S : cd_Sp} {I : cd_Mem} {c : Nat} (H : px_SM w m S I c) (z n : Int32) : cd_C l w m_C_rest 1 0 0 [.ref w.1, .int z, .int n] S I (px_P l w m c m_M_rest 2 [.ref m, .int z, .int n]) := by
  obtain ⟨l1, l2⟩ := H.2.2.2.2.2.1
  refine px_imp (c_C_rest H.1.2.1 l1 z n) ?_
  rintro r S1 I1 ⟨rfl, rfl, rfl⟩
  refine ⟨_, rfl, H.1.2.2.1.2.1, px_imp (c_M_rest H.1.2.2.1  z n) ?_⟩
  rintro r' S2 I2 ⟨rfl, rfl, rfl⟩
  exact ⟨rfl, H.th (cd_ss.rf _ _) (fun _ _ _ => rfl)⟩
