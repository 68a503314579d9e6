theorem px_nv_lt (ky b : Nat) : px_nv ky b < 0 ↔ ¬ px_npl ky b < 9 := by
  unfold px_nv
  by_cases h : px_npl ky b < 9
  · rw [if_pos h]
    exact ⟨fun q => absurd q (nI_pos (by omega)), fun q => absurd h q⟩
  · rw [if_neg h]
    exact ⟨fun _ => h, fun _ => by decide⟩
theorem px_n10_m {k x : Nat} (h : x ∈ px_n10 k) : x = 10 := (List.mem_replicate.mp h).2
theorem px_n10_c (k : Nat) : (px_n10 k).map px_sc = List.replicate k (px_sc 10) := by simp [px_n10]
theorem px_h10_s {S0 : List Nat} (h : px_h10 S0) (hs : ∀ x ∈ S0, 1 ≤ x ∧ x ≤ 11) : ∀ x S1, S0 = x :: S1 → x = 11 ∨ (1 ≤ x ∧ x ≤ 10 ∧ px_rk x < 6) := by
  intro x S1 e
  obtain ⟨h1, h2⟩ := hs x (by rw [e]; exact List.mem_cons_self)
  have h3 := h x S1 e
  by_cases h4 : x = 11
  · exact Or.inl h4
  · exact Or.inr ⟨h1, by omega, Nat.lt_of_le_of_lt (px_rk_b (show x ≤ 9 by omega)) (by decide)⟩
theorem d_M_takesPart_0 : cd_D_aload b_M_takesPart 0 0 1 := Or.inr ⟨0, ⟨by decide +kernel, rfl⟩, rfl⟩
theorem d_M_takesPart_1 : cd_D 3 b_M_takesPart 1 (.getfield 204) 4 := ⟨by decide +kernel, rfl⟩
theorem d_M_takesPart_4 : cd_Dk b_M_takesPart 4 (nI 1) 5 := Or.inl ⟨1, ⟨by decide +kernel, rfl⟩, by decide +kernel⟩
theorem d_M_takesPart_5 : cd_D_icmp_ne b_M_takesPart 5 36 8 := ⟨31, by decide +kernel, by decide, rfl⟩
theorem d_M_takesPart_8 : cd_D_aload b_M_takesPart 8 0 9 := Or.inr ⟨0, ⟨by decide +kernel, rfl⟩, rfl⟩
theorem d_M_takesPart_9 : cd_D 3 b_M_takesPart 9 (.getfield 195) 12 := ⟨by decide +kernel, rfl⟩
theorem d_M_takesPart_12 : cd_D_aload b_M_takesPart 12 0 13 := Or.inr ⟨0, ⟨by decide +kernel, rfl⟩, rfl⟩
theorem d_M_takesPart_13 : cd_D 3 b_M_takesPart 13 (.getfield 198) 16 := ⟨by decide +kernel, rfl⟩
theorem d_M_takesPart_16 : cd_D 1 b_M_takesPart 16 .isub 17 := ⟨by decide +kernel, rfl⟩
theorem d_M_takesPart_17 : cd_Dk b_M_takesPart 17 (nI 1) 18 := Or.inl ⟨1, ⟨by decide +kernel, rfl⟩, by decide +kernel⟩
theorem d_M_takesPart_18 : cd_D_icmp_ne b_M_takesPart 18 36 21 := ⟨18, by decide +kernel, by decide, rfl⟩
theorem d_M_takesPart_21 : cd_D_aload b_M_takesPart 21 0 22 := Or.inr ⟨0, ⟨by decide +kernel, rfl⟩, rfl⟩
theorem d_M_takesPart_22 : cd_D_aload b_M_takesPart 22 0 23 := Or.inr ⟨0, ⟨by decide +kernel, rfl⟩, rfl⟩
theorem d_M_takesPart_23 : cd_D 3 b_M_takesPart 23 (.getfield 210) 26 := ⟨by decide +kernel, rfl⟩
theorem d_M_takesPart_26 : cd_D 3 b_M_takesPart 26 (.invokevirtual 231) 29 := ⟨by decide +kernel, rfl⟩
theorem d_M_takesPart_29 : cd_D_if_lt b_M_takesPart 29 36 32 := ⟨7, by decide +kernel, by decide, rfl⟩
theorem d_M_takesPart_32 : cd_Dk b_M_takesPart 32 (nI 1) 33 := Or.inl ⟨1, ⟨by decide +kernel, rfl⟩, by decide +kernel⟩
theorem d_M_takesPart_33 : cd_D_goto b_M_takesPart 33 37 := ⟨4, by decide +kernel, by decide⟩
theorem d_M_takesPart_36 : cd_Dk b_M_takesPart 36 (nI 0) 37 := Or.inl ⟨0, ⟨by decide +kernel, rfl⟩, by decide +kernel⟩
theorem d_M_takesPart_37 : cd_D_istore b_M_takesPart 37 1 38 := Or.inr ⟨1, ⟨by decide +kernel, rfl⟩, rfl⟩
theorem d_M_takesPart_38 : cd_D_aload b_M_takesPart 38 0 39 := Or.inr ⟨0, ⟨by decide +kernel, rfl⟩, rfl⟩
theorem d_M_takesPart_39 : cd_D 3 b_M_takesPart 39 (.getfield 204) 42 := ⟨by decide +kernel, rfl⟩
theorem d_M_takesPart_42 : cd_Dk b_M_takesPart 42 (nI 2) 43 := Or.inl ⟨2, ⟨by decide +kernel, rfl⟩, by decide +kernel⟩
theorem d_M_takesPart_43 : cd_D_icmp_eq b_M_takesPart 43 52 46 := ⟨9, by decide +kernel, by decide, rfl⟩
theorem d_M_takesPart_46 : cd_D_iload b_M_takesPart 46 1 47 := Or.inr ⟨1, ⟨by decide +kernel, rfl⟩, rfl⟩
theorem d_M_takesPart_47 : cd_D_if_ne b_M_takesPart 47 52 50 := ⟨5, by decide +kernel, by decide, rfl⟩
theorem d_M_takesPart_50 : cd_Dk b_M_takesPart 50 (nI 0) 51 := Or.inl ⟨0, ⟨by decide +kernel, rfl⟩, by decide +kernel⟩
theorem d_M_takesPart_51 : cd_D 1 b_M_takesPart 51 .ireturn 52 := ⟨by decide +kernel, rfl⟩
theorem d_M_takesPart_52 : cd_D_aload b_M_takesPart 52 0 53 := Or.inr ⟨0, ⟨by decide +kernel, rfl⟩, rfl⟩
theorem d_M_takesPart_53 : cd_D 3 b_M_takesPart 53 (.getfield 32) 56 := ⟨by decide +kernel, rfl⟩
theorem d_M_takesPart_56 : cd_D_aload b_M_takesPart 56 0 57 := Or.inr ⟨0, ⟨by decide +kernel, rfl⟩, rfl⟩
theorem d_M_takesPart_57 : cd_D 3 b_M_takesPart 57 (.getfield 228) 60 := ⟨by decide +kernel, rfl⟩
theorem d_M_takesPart_60 : cd_D_aload b_M_takesPart 60 0 61 := Or.inr ⟨0, ⟨by decide +kernel, rfl⟩, rfl⟩
theorem d_M_takesPart_61 : cd_D 3 b_M_takesPart 61 (.getfield 204) 64 := ⟨by decide +kernel, rfl⟩
theorem d_M_takesPart_64 : cd_Dk b_M_takesPart 64 (nI 2) 65 := Or.inl ⟨2, ⟨by decide +kernel, rfl⟩, by decide +kernel⟩
theorem d_M_takesPart_65 : cd_D_icmp_ne b_M_takesPart 65 75 68 := ⟨10, by decide +kernel, by decide, rfl⟩
theorem d_M_takesPart_68 : cd_D_aload b_M_takesPart 68 0 69 := Or.inr ⟨0, ⟨by decide +kernel, rfl⟩, rfl⟩
theorem d_M_takesPart_69 : cd_D 3 b_M_takesPart 69 (.getfield 210) 72 := ⟨by decide +kernel, rfl⟩
theorem d_M_takesPart_72 : cd_D_goto b_M_takesPart 72 87 := ⟨15, by decide +kernel, by decide⟩
theorem d_M_takesPart_75 : cd_Dk b_M_takesPart 75 (nI 10000) 78 := Or.inr (Or.inr ⟨10000, ⟨by decide +kernel, rfl⟩, by decide +kernel⟩)
theorem d_M_takesPart_78 : cd_D_aload b_M_takesPart 78 0 79 := Or.inr ⟨0, ⟨by decide +kernel, rfl⟩, rfl⟩
theorem d_M_takesPart_79 : cd_D_aload b_M_takesPart 79 0 80 := Or.inr ⟨0, ⟨by decide +kernel, rfl⟩, rfl⟩
theorem d_M_takesPart_80 : cd_D 3 b_M_takesPart 80 (.getfield 210) 83 := ⟨by decide +kernel, rfl⟩
theorem d_M_takesPart_83 : cd_D 3 b_M_takesPart 83 (.invokevirtual 231) 86 := ⟨by decide +kernel, rfl⟩
theorem d_M_takesPart_86 : cd_D 1 b_M_takesPart 86 .iadd 87 := ⟨by decide +kernel, rfl⟩
theorem d_M_takesPart_87 : cd_D 1 b_M_takesPart 87 .iastore 88 := ⟨by decide +kernel, rfl⟩
theorem d_M_takesPart_88 : cd_D_aload b_M_takesPart 88 0 89 := Or.inr ⟨0, ⟨by decide +kernel, rfl⟩, rfl⟩
theorem d_M_takesPart_89 : cd_D 1 b_M_takesPart 89 .dup 90 := ⟨by decide +kernel, rfl⟩
theorem d_M_takesPart_90 : cd_D 3 b_M_takesPart 90 (.getfield 228) 93 := ⟨by decide +kernel, rfl⟩
theorem d_M_takesPart_93 : cd_Dk b_M_takesPart 93 (nI 1) 94 := Or.inl ⟨1, ⟨by decide +kernel, rfl⟩, by decide +kernel⟩
theorem d_M_takesPart_94 : cd_D 1 b_M_takesPart 94 .iadd 95 := ⟨by decide +kernel, rfl⟩
theorem d_M_takesPart_95 : cd_D 3 b_M_takesPart 95 (.putfield 228) 98 := ⟨by decide +kernel, rfl⟩
theorem d_M_takesPart_98 : cd_D_aload b_M_takesPart 98 0 99 := Or.inr ⟨0, ⟨by decide +kernel, rfl⟩, rfl⟩
theorem d_M_takesPart_99 : cd_D 1 b_M_takesPart 99 .dup 100 := ⟨by decide +kernel, rfl⟩
theorem d_M_takesPart_100 : cd_D 3 b_M_takesPart 100 (.getfield 234) 103 := ⟨by decide +kernel, rfl⟩
theorem d_M_takesPart_103 : cd_Dk b_M_takesPart 103 (nI 1) 104 := Or.inl ⟨1, ⟨by decide +kernel, rfl⟩, by decide +kernel⟩
theorem d_M_takesPart_104 : cd_D 1 b_M_takesPart 104 .iadd 105 := ⟨by decide +kernel, rfl⟩
theorem d_M_takesPart_105 : cd_D 3 b_M_takesPart 105 (.putfield 234) 108 := ⟨by decide +kernel, rfl⟩
theorem d_M_takesPart_108 : cd_D_aload b_M_takesPart 108 0 109 := Or.inr ⟨0, ⟨by decide +kernel, rfl⟩, rfl⟩
theorem d_M_takesPart_109 : cd_Dk b_M_takesPart 109 (nI 6) 111 := Or.inr (Or.inl ⟨6, ⟨by decide +kernel, rfl⟩, by decide +kernel⟩)
theorem d_M_takesPart_111 : cd_D 3 b_M_takesPart 111 (.invokevirtual 237) 114 := ⟨by decide +kernel, rfl⟩
theorem d_M_takesPart_114 : cd_D_aload b_M_takesPart 114 0 115 := Or.inr ⟨0, ⟨by decide +kernel, rfl⟩, rfl⟩
theorem d_M_takesPart_115 : cd_D 3 b_M_takesPart 115 (.invokevirtual 219) 118 := ⟨by decide +kernel, rfl⟩
theorem d_M_takesPart_118 : cd_Dk b_M_takesPart 118 (nI 1) 119 := Or.inl ⟨1, ⟨by decide +kernel, rfl⟩, by decide +kernel⟩
theorem d_M_takesPart_119 : cd_D 1 b_M_takesPart 119 .ireturn 120 := ⟨by decide +kernel, rfl⟩
theorem c_M_takesPart {l : Launch} {w : cd_WT} {S : cd_Sp} {I : cd_Mem} {m : Nat} (hM : cd_MO w S m) {B : Nat → Nat} {L ky : Nat} {t : px_Tok} {c : List Int32} {k : Nat} {S0 : List Nat} (hP : px_RP I m B L ky t c (px_n10 k ++ S0) t.1) (h10 : px_h10 S0) : cd_C l w m_M_takesPart 2 0 0 [.ref m] S I (cd_Pi S (fun y I' => (px_lfo B ky t = none ∧ y = nI 0 ∧ I' = I) ∨ ∃ x, px_lfo B ky t = some x ∧ y = nI 1 ∧ px_RP I' m B L ky (px_adv B L t) (c ++ x :: List.replicate k (px_sc 10)) S0 (px_adv B L t).1 ∧ px_fm I I' m ∧ I' (m + 10) = I (m + 10))) := by
  refine cd_intro (by decide) (by simp [Value.category]) (Nat.le_of_ble_eq_true rfl) ?_
  intro X hO hE
  show cd_J w X 0 0 S I 0 [some (.ref m), none] []
  obtain ⟨a1, a2, ⟨a3, a3b⟩, a4, a5, a6, a7, a8, a9, a10, a11, a12⟩ := id hP
  have hT1 := a2.1
  have hkd := a5.2.2.2.2.1
  have hlt := a5.2.2.1
  have htL := a5.1
  have hnL := a5.2.1
  have hlen : (px_n10 k ++ S0).length = k + S0.length := by simp [px_n10]
  rw [hlen] at a9 a12
  have hv1 : t.2.1 = 1 → I m 10 = nI (B t.1) ∧ B t.1 < 256 := fun q => ⟨a4.2.2.2.1 (Or.inl q), by have := a5.2.2.2.2.2.1 q; omega⟩
  have hv2 := a4.2.2.2.2.1
  have tail : ∀ (x : Int32) (x1 : Option Value), px_lfo B ky t = some x → ¬ x < 0 → (t.2.1 = 1 ∨ t.2.1 = 2 ∨ t.2.1 = 3) → cd_J w X 0 0 S (cd_set I (m + 8) (upd (I (m + 8)) c.length x)) 88 [some (.ref m), x1] [] := by
    intro x x1 hx hx0 hkk
    have hlt := hlt (by omega)
    have hlb := px_lv_b c
    refine r_aload hO d_M_takesPart_88 rfl ?_
    refine r_dup hO d_M_takesPart_89 rfl ?_
    refine r_getI hO f_M_228 rfl hM.2.1 d_M_takesPart_90 ?_
    try simp (disch := omega) only [cd_set_eq, cd_set_ne, cd_set_set]
    refine r_tops (show _ = nI c.length from a6) ?_
    refine r_k hO d_M_takesPart_93 ?_
    refine r_iaddN hO d_M_takesPart_94 ?_
    refine r_putI hO f_M_228 rfl hM.2.1 hM.1 d_M_takesPart_95 ?_
    try simp (disch := omega) only [cd_set_eq, cd_set_ne, cd_set_set]
    refine r_aload hO d_M_takesPart_98 rfl ?_
    refine r_dup hO d_M_takesPart_99 rfl ?_
    refine r_getI hO f_M_234 rfl hM.2.1 d_M_takesPart_100 ?_
    try simp (disch := omega) only [cd_set_eq, cd_set_ne, cd_set_set]
    refine r_tops (show _ = nI (px_lv c) from a8) ?_
    refine r_k hO d_M_takesPart_103 ?_
    refine r_iaddN hO d_M_takesPart_104 ?_
    refine r_putI hO f_M_234 rfl hM.2.1 hM.1 d_M_takesPart_105 ?_
    try simp (disch := omega) only [cd_set_eq, cd_set_ne, cd_set_set]
    refine r_gen (fun I2 hI2 => ?_)
    have f8 : I2 (m + 8) = upd (I (m + 8)) c.length x := by rw [hI2]; simp (disch := omega) only [cd_set_eq, cd_set_ne]
    have f9 : ∀ b, b ≠ m → b ≠ m + 8 → I2 b = I b := fun b b1 b2 => by rw [hI2, cd_set_ne _ _ b1, cd_set_ne _ _ b2]
    have fm : I2 m = upd (upd (I m) 16 (nI (c.length + 1))) 17 (nI (px_lv c + 1)) := by rw [hI2]; simp (disch := omega) only [cd_set_eq]
    have fk : ∀ k, k ≠ 16 → k ≠ 17 → I2 m k = I m k := fun k k1 k2 => by rw [fm]; simp only [upd, k1, k2, if_false]
    have ffm : px_fm I I2 m := ⟨fun b hb => f9 b (by simp at hb; omega) (by simp at hb; omega), fun k hk => fk k (by omega) (by omega)⟩
    clear hI2
    refine r_aload hO d_M_takesPart_108 rfl ?_
    refine r_k hO d_M_takesPart_109 ?_
    refine r_cV1v hO hE (c_M_settle hM (D0 := px_n10 k) (S0 := S0) (c0 := c ++ [x]) (r := 6) (by decide) (by rw [f9 _ (by omega) (by omega)]; exact a10) (fun y hy => by rw [px_n10_m hy]; decide) (px_h10_s h10 (fun y hy => a11 y (List.mem_append_right _ hy))) (by simp [px_n10]; omega) (by simp [px_n10]; omega) (by rw [f8]; exact px_cl_app a7 x) (by rw [fm]; simp [upd]) (by rw [fk _ (by decide) (by decide), a9]; simp [px_n10])) mf_M_settle lk_M_237 hM.2.1 rfl (by decide) rfl (Nat.le_of_ble_eq_true rfl) d_M_takesPart_111 (Nat.zero_le _) (Nat.zero_le _) ?_
    rintro I3 ⟨Q3, C3, rfl, g1, g2, g3, g4⟩
    have hP3 : px_RP (cd_set (cd_set I2 (m + 8) C3) m Q3) m B L ky t (c ++ x :: List.replicate k (px_sc 10)) S0 (t.1 + 1) := by
      have q8 : cd_set (cd_set I2 (m + 8) C3) m Q3 (m + 8) = C3 := by simp (disch := omega) only [cd_set_eq, cd_set_ne]
      have qo : ∀ b, b ≠ m → b ≠ m + 8 → cd_set (cd_set I2 (m + 8) C3) m Q3 b = I b := fun b b1 b2 => by rw [cd_set_ne _ _ b1, cd_set_ne _ _ b2]; exact f9 b b1 b2
      have qk : ∀ k, k ≠ 16 → k ≠ 17 → k ≠ 19 → Q3 k = I m k := fun k k1 k2 k3 => by
        rw [g1 k k1 k3]; exact fk k k1 k2
      have el : c ++ x :: List.replicate k (px_sc 10) = c ++ [x] ++ (px_n10 k).map px_sc := by rw [px_n10_c]; simp
      unfold px_RP px_TF
      rw [q8, qo (m + 5) (by omega) (by omega), qo (m + 9) (by omega) (by omega), cd_set_eq, qk 6 (by decide) (by decide) (by decide), qk 12 (by decide) (by decide) (by decide), qk 7 (by decide) (by decide) (by decide), qk 8 (by decide) (by decide) (by decide), qk 9 (by decide) (by decide) (by decide), qk 10 (by decide) (by decide) (by decide), qk 11 (by decide) (by decide) (by decide)]
      refine ⟨a1, a2, ⟨a3, a3b⟩, a4, a5, ?_, ?_, ?_, g2, px_wl_r a10, fun y hy => a11 y (List.mem_append_right _ hy), ?_⟩
      · rw [g3]; congr 1; simp [px_n10]; omega
      · rw [el]; exact g4
      · rw [g1 17 (by decide) (by decide), fm, el, px_lv_app, px_lv_app, px_lv_s _ (fun y hy => by rw [px_n10_m hy]; decide)]
        show nI (px_lv c + 1) = nI (px_lv c + ((if x < 0 then 0 else 1) + 0) + 0)
        rw [if_neg hx0]
      · simp; omega
    have hf3 : px_fm I (cd_set (cd_set I2 (m + 8) C3) m Q3) m := (ffm.setr (Or.inl rfl)).setm (fun k hk => g1 k (by omega) (by omega) |>.trans (by rw [cd_set_ne _ _ (by omega)]))
    have ht3 : cd_set (cd_set I2 (m + 8) C3) m Q3 (m + 10) = I (m + 10) := by rw [cd_set_ne _ _ (by omega), cd_set_ne _ _ (by omega)]; exact f9 _ (by omega) (by omega)
    try simp (disch := omega) only [cd_set_eq, cd_set_ne, cd_set_set]
    refine r_aload hO d_M_takesPart_114 rfl ?_
    refine r_cV0v hO hE (c_M_go_r hM hP3 (by omega) hkk) mf_M_go lk_M_219 hM.2.1 rfl (by decide) rfl (Nat.le_of_ble_eq_true rfl) d_M_takesPart_115 (Nat.zero_le _) (Nat.zero_le _) ?_
    rintro I4 ⟨j1, j2, j3⟩
    try simp (disch := omega) only [cd_set_eq, cd_set_ne, cd_set_set]
    refine r_k hO d_M_takesPart_118 ?_
    refine r_zret hO hE (by first | exact Or.inl rfl | exact Or.inr rfl) (Nat.zero_le _) (Nat.zero_le _) d_M_takesPart_119 ?_
    exact ⟨_, rfl, rfl, Or.inr ⟨x, hx, rfl, j1, hf3.tr j2, j3.trans ht3⟩⟩
  refine r_aload hO d_M_takesPart_0 rfl ?_
  refine r_getI hO f_M_204 rfl hM.2.1 d_M_takesPart_1 ?_
  refine r_tops (show _ = nI t.2.1 from a4.2.1) ?_
  refine r_k hO d_M_takesPart_4 ?_
  refine r_jn2 (pcJ := 37) (fun v => v = cd_bI (t.2.1 = 1 ∧ t.2.2 - t.1 = 1 ∧ px_npl ky (B t.1) < 9)) (fun v_5 hv_5 => ?_) (fun hj_5 => ?_)
  · subst hv_5
    refine r_sI1 hO d_M_takesPart_37 rfl ?_
    refine r_aload hO d_M_takesPart_38 rfl ?_
    refine r_getI hO f_M_204 rfl hM.2.1 d_M_takesPart_39 ?_
    refine r_tops (show _ = nI t.2.1 from a4.2.1) ?_
    refine r_k hO d_M_takesPart_42 ?_
    refine r_icmp_eq hO d_M_takesPart_43 (fun c_43 => ?_) (fun c_43 => ?_)
    · rw [nI_eq (by omega) (by omega)] at c_43
      refine r_aload hO d_M_takesPart_52 rfl ?_
      refine r_getR hO f_M_32 rfl hM.2.1 (mo_r8 hM) d_M_takesPart_53 ?_
      refine r_aload hO d_M_takesPart_56 rfl ?_
      refine r_getI hO f_M_228 rfl hM.2.1 d_M_takesPart_57 ?_
      refine r_tops (show _ = nI c.length from a6) ?_
      refine r_aload hO d_M_takesPart_60 rfl ?_
      refine r_getI hO f_M_204 rfl hM.2.1 d_M_takesPart_61 ?_
      refine r_tops (show _ = nI t.2.1 from a4.2.1) ?_
      refine r_k hO d_M_takesPart_64 ?_
      refine r_icmp_ne hO d_M_takesPart_65 (fun c_65 => ?_) (fun c_65 => ?_)
      · exact absurd (by rw [c_43]) c_65
      · refine r_aload hO d_M_takesPart_68 rfl ?_
        refine r_getI hO f_M_210 rfl hM.2.1 d_M_takesPart_69 ?_
        refine r_tops (show _ = nI (px_nm B t.1 (t.2.2 - t.1)) from hv2 c_43) ?_
        refine r_goto hO d_M_takesPart_72 ?_
        refine r_iast hO (mo_s8 hM) (mo_l8 hM) (by omega) (by decide) d_M_takesPart_87 ?_
        exact tail _ _ (by unfold px_lfo; rw [if_pos c_43]) (px_lfo_k (ky := ky) a5 (by unfold px_lfo; rw [if_pos c_43])).2.1 (by omega)
    · rw [nI_eq (by omega) (by omega)] at c_43
      refine r_iload hO d_M_takesPart_46 rfl ?_
      refine r_if_neB hO d_M_takesPart_47 (fun c_47 => ?_) (fun c_47 => ?_)
      · obtain ⟨hv, hvb⟩ := hv1 c_47.1
        refine r_aload hO d_M_takesPart_52 rfl ?_
        refine r_getR hO f_M_32 rfl hM.2.1 (mo_r8 hM) d_M_takesPart_53 ?_
        refine r_aload hO d_M_takesPart_56 rfl ?_
        refine r_getI hO f_M_228 rfl hM.2.1 d_M_takesPart_57 ?_
        refine r_tops (show _ = nI c.length from a6) ?_
        refine r_aload hO d_M_takesPart_60 rfl ?_
        refine r_getI hO f_M_204 rfl hM.2.1 d_M_takesPart_61 ?_
        refine r_tops (show _ = nI t.2.1 from a4.2.1) ?_
        refine r_k hO d_M_takesPart_64 ?_
        refine r_icmp_ne hO d_M_takesPart_65 (fun c_65 => ?_) (fun c_65 => ?_)
        · refine r_k hO d_M_takesPart_75 ?_
          refine r_aload hO d_M_takesPart_78 rfl ?_
          refine r_aload hO d_M_takesPart_79 rfl ?_
          refine r_getI hO f_M_210 rfl hM.2.1 d_M_takesPart_80 ?_
          refine r_tops (show _ = nI (B t.1) from hv) ?_
          refine r_cV1fi hO hE (px_imp (c_M_nameOf hM a3 (nI (B t.1))) (fun r S2 I2 q => by rw [px_nvI_e ky (by omega) _ hvb] at q; exact q)) mf_M_nameOf lk_M_231 hM.2.1 rfl (by decide) rfl (Nat.le_of_ble_eq_true rfl) d_M_takesPart_83 (Nat.zero_le _) (Nat.zero_le _) ?_
          refine r_tops (show px_nv ky (B t.1) = nI (px_npl ky (B t.1)) from if_pos c_47.2.2) ?_
          try simp (disch := omega) only [cd_set_eq, cd_set_ne, cd_set_set]
          refine r_iaddN hO d_M_takesPart_86 ?_
          refine r_iast hO (mo_s8 hM) (mo_l8 hM) (by omega) (by decide) d_M_takesPart_87 ?_
          try simp (disch := omega) only [cd_set_eq, cd_set_ne, cd_set_set]
          exact tail _ _ (by unfold px_lfo; rw [if_neg c_43, if_pos c_47]) (nI_pos (by have := c_47.2.2; omega)) (by omega)
        · exact absurd ((nI_eq (by omega) (by omega)).mp c_65) c_43
      · refine r_k hO d_M_takesPart_50 ?_
        refine r_zret hO hE (by first | exact Or.inl rfl | exact Or.inr rfl) (Nat.zero_le _) (Nat.zero_le _) d_M_takesPart_51 ?_
        exact ⟨_, rfl, rfl, Or.inl ⟨by unfold px_lfo; rw [if_neg c_43, if_neg c_47], rfl, rfl⟩⟩
  · refine r_icmp_ne hO d_M_takesPart_5 (fun c_5 => ?_) (fun c_5 => ?_)
    · rw [nI_eq (by omega) (by omega)] at c_5
      refine r_k hO d_M_takesPart_36 ?_
      exact hj_5 _ (by rw [cd_bI, if_neg (fun q => c_5 q.1)]; rfl)
    · rw [nI_eq (by omega) (by omega)] at c_5
      have hlt := hlt (by omega)
      obtain ⟨hv, hvb⟩ := hv1 c_5
      refine r_aload hO d_M_takesPart_8 rfl ?_
      refine r_getI hO f_M_195 rfl hM.2.1 d_M_takesPart_9 ?_
      refine r_tops (show _ = nI t.2.2 from a4.2.2.1) ?_
      refine r_aload hO d_M_takesPart_12 rfl ?_
      refine r_getI hO f_M_198 rfl hM.2.1 d_M_takesPart_13 ?_
      refine r_tops (show _ = nI t.1 from a4.1) ?_
      refine r_isubN hO d_M_takesPart_16 (by omega) ?_
      refine r_k hO d_M_takesPart_17 ?_
      refine r_icmp_ne hO d_M_takesPart_18 (fun c_18 => ?_) (fun c_18 => ?_)
      · rw [nI_eq (by omega) (by omega)] at c_18
        refine r_k hO d_M_takesPart_36 ?_
        exact hj_5 _ (by rw [cd_bI, if_neg (fun q => c_18 q.2.1)]; rfl)
      · rw [nI_eq (by omega) (by omega)] at c_18
        refine r_aload hO d_M_takesPart_21 rfl ?_
        refine r_aload hO d_M_takesPart_22 rfl ?_
        refine r_getI hO f_M_210 rfl hM.2.1 d_M_takesPart_23 ?_
        refine r_tops (show _ = nI (B t.1) from hv) ?_
        refine r_cV1fi hO hE (px_imp (c_M_nameOf hM a3 (nI (B t.1))) (fun r S2 I2 q => by rw [px_nvI_e ky (by omega) _ hvb] at q; exact q)) mf_M_nameOf lk_M_231 hM.2.1 rfl (by decide) rfl (Nat.le_of_ble_eq_true rfl) d_M_takesPart_26 (Nat.zero_le _) (Nat.zero_le _) ?_
        try simp (disch := omega) only [cd_set_eq, cd_set_ne, cd_set_set]
        refine r_if_lt hO d_M_takesPart_29 (fun c_29 => ?_) (fun c_29 => ?_)
        · refine r_k hO d_M_takesPart_36 ?_
          exact hj_5 _ (by rw [cd_bI, if_neg (fun q => (px_nv_lt _ _).mp c_29 q.2.2)]; rfl)
        · refine r_k hO d_M_takesPart_32 ?_
          refine r_goto hO d_M_takesPart_33 ?_
          exact hj_5 _ (by rw [cd_bI, if_pos ⟨c_5, c_18, Decidable.not_not.mp (fun q => c_29 ((px_nv_lt _ _).mpr q))⟩]; rfl)
