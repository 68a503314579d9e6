theorem cd_IV_ask {N : Nat → Int32} {mm : Nat} (h : cd_IV N mm) (i q : Nat) {v : Int32} (hq : q < 4) (hv : ∃ k, k ≤ (if q = 0 then 5 else if q = 1 then 23 else if q = 2 then 99 else 100) ∧ v = nI k) : cd_IV (upd N (16 + 5 * i + q) v) mm := by
  have e : ∀ k, k ≠ 16 + 5 * i + q → upd N (16 + 5 * i + q) v k = N k := fun k hk => if_neg hk
  have e1 : upd N (16 + 5 * i + q) v (16 + 5 * i + q) = v := if_pos rfl
  obtain ⟨h1, h2, h3, h4, h5, h6⟩ := h
  refine ⟨fun i' hi => ?_, by rw [e 3 (by omega)]; exact h2, by rw [e 6 (by omega)]; exact h3, by rw [e 7 (by omega)]; exact h4, by rw [e 8 (by omega)]; exact h5, by rw [e 9 (by omega)]; exact h6⟩
  obtain ⟨a1, a2, a3, a4⟩ := h1 i' hi
  by_cases hii : i' = i
  · subst hii
    rcases (show q = 0 ∨ q = 1 ∨ q = 2 ∨ q = 3 by omega) with rfl | rfl | rfl | rfl
    · exact ⟨by rw [e1]; exact hv, by rw [e _ (by omega)]; exact a2, by rw [e _ (by omega)]; exact a3, by rw [e _ (by omega)]; exact a4⟩
    · exact ⟨by rw [e _ (by omega)]; exact a1, by rw [e1]; exact hv, by rw [e _ (by omega)]; exact a3, by rw [e _ (by omega)]; exact a4⟩
    · exact ⟨by rw [e _ (by omega)]; exact a1, by rw [e _ (by omega)]; exact a2, by rw [e1]; exact hv, by rw [e _ (by omega)]; exact a4⟩
    · exact ⟨by rw [e _ (by omega)]; exact a1, by rw [e _ (by omega)]; exact a2, by rw [e _ (by omega)]; exact a3, by rw [e1]; exact hv⟩
  · exact ⟨by rw [e _ (by omega)]; exact a1, by rw [e _ (by omega)]; exact a2, by rw [e _ (by omega)]; exact a3, by rw [e _ (by omega)]; exact a4⟩
theorem cd_HG_ask {w : cd_WT} {S : cd_Sp} {I : cd_Mem} {h mm tc : Nat} {N : Nat → Int32} (hG : cd_HG w S I h N mm tc) {i : Nat} (hi : i < mm) (q : Nat) (hq : q < 4) (v : Int32) (hv : ∃ k, k ≤ (if q = 0 then 5 else if q = 1 then 23 else if q = 2 then 99 else 100) ∧ v = nI k) : cd_HG w S (cd_set I (h + 6 + i) (upd (I (h + 6 + i)) q v)) h (upd N (16 + 5 * i + q) v) mm tc := by
  have hmm := hG.2.2.1.2.1
  exact cd_HG_w hG (16 + 5 * i + q) (by omega) (by omega) (by omega) (cd_lx_a (by omega)).symm (cd_lk_a (by omega)).symm v (cd_IV_ask hG.2.2.2.1 i q hq hv)
theorem cd_IV_rule {N : Nat → Int32} {mm : Nat} (h : cd_IV N mm) {q : Nat} (hq : q ≤ 6) {v : Int32} (hv : nI 0 ≤ v ∧ v ≤ cd_mo (nI q)) : cd_IV (upd N (3 + q) v) mm := by
  rcases (show q = 0 ∨ q = 1 ∨ q = 2 ∨ (3 ≤ q ∧ q ≤ 6) by omega) with rfl | rfl | rfl | h3
  · obtain ⟨k, -, hk, rfl⟩ := cd_in_ex (hi := 99) hv (by decide) (by decide)
    have e : ∀ j, j ≠ 3 → upd N (3 + 0) (nI k) j = N j := fun j hj => if_neg hj
    obtain ⟨h1, h2, h3, h4, h5, h6⟩ := h
    refine ⟨fun i hi => ?_, ⟨k, hk, if_pos rfl⟩, by rw [e 6 (by omega)]; exact h3, by rw [e 7 (by omega)]; exact h4, by rw [e 8 (by omega)]; exact h5, by rw [e 9 (by omega)]; exact h6⟩
    obtain ⟨a1, a2, a3, a4⟩ := h1 i hi
    exact ⟨by rw [e _ (by omega)]; exact a1, by rw [e _ (by omega)]; exact a2, by rw [e _ (by omega)]; exact a3, by rw [e _ (by omega)]; exact a4⟩
  · exact cd_IV_upd h (by omega)
  · exact cd_IV_upd h (by omega)
  · have e : cd_mo (nI q) = nI 1 := by
      rcases (show q = 3 ∨ q = 4 ∨ q = 5 ∨ q = 6 by omega) with rfl | rfl | rfl | rfl <;> rfl
    rw [e] at hv
    obtain ⟨k, -, hk, rfl⟩ := cd_in_ex hv (by decide) (by decide)
    exact cd_IV_bit h (by omega) (by rcases (show k = 0 ∨ k = 1 by omega) with rfl | rfl; exact Or.inl rfl; exact Or.inr rfl)
theorem cd_mo_sv {q : Nat} (h : q ≤ 6) : (cd_sv 4).getD q 0 = cd_mo (nI q) := by
  rcases (show q = 0 ∨ q = 1 ∨ q = 2 ∨ q = 3 ∨ q = 4 ∨ q = 5 ∨ q = 6 by omega) with rfl | rfl | rfl | rfl | rfl | rfl | rfl <;> rfl
theorem cd_ri_01 (N : Nat → Int32) (i : Nat) : (cd_ri N i).1 = nI 0 ∨ (cd_ri N i).1 = nI 1 := by
  unfold cd_ri cd_gm
  split
  · exact Or.inl rfl
  · exact Or.inr rfl
theorem cd_pr2 {p : Int32 × (Nat → Int32)} {v : Int32} (h : p.1 = v) : p = (v, p.2) := by
  cases p
  cases h
  rfl
theorem cd_mn_nI {a b : Nat} (ha : a < 2 ^ 31) (hb : b < 2 ^ 31) : cd_mn (nI a) (nI b) = nI (min b a) := by
  unfold cd_mn
  rcases Nat.lt_or_ge b a with h | h
  · rw [if_pos (nI_lt h ha), Nat.min_eq_left (by omega)]
  · rw [if_neg (nI_nlt h hb), Nat.min_eq_right h]
theorem d_C_turns_0 : cd_D_aload b_C_turns 0 0 1 := Or.inr ⟨0, ⟨by decide +kernel, rfl⟩, rfl⟩
theorem d_C_turns_1 : cd_D_iload b_C_turns 1 1 2 := Or.inr ⟨1, ⟨by decide +kernel, rfl⟩, rfl⟩
theorem d_C_turns_2 : cd_D 3 b_C_turns 2 (.invokevirtual 71) 5 := ⟨by decide +kernel, rfl⟩
theorem d_C_turns_5 : cd_D_if_eq b_C_turns 5 16 8 := ⟨11, by decide +kernel, by decide, rfl⟩
theorem d_C_turns_8 : cd_D_iload b_C_turns 8 2 9 := Or.inr ⟨2, ⟨by decide +kernel, rfl⟩, rfl⟩
theorem d_C_turns_9 : cd_Dk b_C_turns 9 (nI 5) 10 := Or.inl ⟨5, ⟨by decide +kernel, rfl⟩, by decide +kernel⟩
theorem d_C_turns_10 : cd_D 3 b_C_turns 10 (.invokestatic 58) 13 := ⟨by decide +kernel, rfl⟩
theorem d_C_turns_13 : cd_D_if_ne b_C_turns 13 19 16 := ⟨6, by decide +kernel, by decide, rfl⟩
theorem d_C_turns_16 : cd_D 2 b_C_turns 16 (.ldc 62) 18 := ⟨by decide +kernel, rfl⟩
theorem d_C_turns_18 : cd_D 1 b_C_turns 18 .ireturn 19 := ⟨by decide +kernel, rfl⟩
theorem d_C_turns_19 : cd_D_aload b_C_turns 19 0 20 := Or.inr ⟨0, ⟨by decide +kernel, rfl⟩, rfl⟩
theorem d_C_turns_20 : cd_D 3 b_C_turns 20 (.getfield 10) 23 := ⟨by decide +kernel, rfl⟩
theorem d_C_turns_23 : cd_D 3 b_C_turns 23 (.getfield 75) 26 := ⟨by decide +kernel, rfl⟩
theorem d_C_turns_26 : cd_D_iload b_C_turns 26 1 27 := Or.inr ⟨1, ⟨by decide +kernel, rfl⟩, rfl⟩
theorem d_C_turns_27 : cd_D 1 b_C_turns 27 .aaload 28 := ⟨by decide +kernel, rfl⟩
theorem d_C_turns_28 : cd_D_astore b_C_turns 28 3 29 := Or.inr ⟨3, ⟨by decide +kernel, rfl⟩, rfl⟩
theorem d_C_turns_29 : cd_D_aload b_C_turns 29 3 30 := Or.inr ⟨3, ⟨by decide +kernel, rfl⟩, rfl⟩
theorem d_C_turns_30 : cd_D 3 b_C_turns 30 (.getfield 79) 33 := ⟨by decide +kernel, rfl⟩
theorem d_C_turns_33 : cd_D_istore b_C_turns 33 4 35 := Or.inl ⟨by decide +kernel, rfl⟩
theorem d_C_turns_35 : cd_D_aload b_C_turns 35 3 36 := Or.inr ⟨3, ⟨by decide +kernel, rfl⟩, rfl⟩
theorem d_C_turns_36 : cd_D_iload b_C_turns 36 2 37 := Or.inr ⟨2, ⟨by decide +kernel, rfl⟩, rfl⟩
theorem d_C_turns_37 : cd_D 3 b_C_turns 37 (.putfield 79) 40 := ⟨by decide +kernel, rfl⟩
theorem d_C_turns_40 : cd_D_iload b_C_turns 40 4 42 := Or.inl ⟨by decide +kernel, rfl⟩
theorem d_C_turns_42 : cd_D 1 b_C_turns 42 .ireturn 43 := ⟨by decide +kernel, rfl⟩
theorem c_C_turns {l : Launch} {w : cd_WT} {S : cd_Sp} {I : cd_Mem} (hC : cd_CD w S) {mm tc : Nat} {N : Nat → Int32} (hG : cd_HG w S I (w.1 + 1) N mm tc) (a k : Int32) : cd_C l w m_C_turns 1 0 0 [.ref w.1, .int a, .int k] S I (cd_Pn w S I (sp_turns N a k) tc) := by
  refine cd_intro (by decide) (by simp [Value.category]) (Nat.le_of_ble_eq_true rfl) ?_
  intro X hO hE
  show cd_J w X 0 0 S I 0 [some (.ref w.1), some (.int a), some (.int k), none, none] []
  obtain ⟨hH, hhd, hV, hIV, hR⟩ := id hG
  have hmm := hV.2.1
  have hm1 : I (w.1 + 1) 3 = nI mm := (hR.at 1 (by omega) rfl rfl).trans hV.1
  refine r_aload hO d_C_turns_0 rfl ?_
  refine r_iload hO d_C_turns_1 rfl ?_
  refine r_cV1fi hO hE (c_C_isAsking hC hG _) mf_C_isAsking lk_C_71 hC.1 rfl (by decide) rfl (Nat.le_of_ble_eq_true rfl) d_C_turns_2 (Nat.zero_le _) (Nat.zero_le _) ?_
  refine r_if_eqB hO d_C_turns_5 (fun c_5 => ?_) (fun c_5 => ?_)
  · refine r_ldc hO k_C_62 d_C_turns_16 ?_
    refine r_iret hO hE (Nat.zero_le _) (Nat.zero_le _) d_C_turns_18 ?_
    exact cd_pn (by unfold sp_turns; rw [if_neg c_5]) hG (cd_ofh.rf _ _ _)
  · obtain ⟨i, hi, rfl⟩ := cd_isA_ex hV.1 hV.2.1 c_5
    refine r_iload hO d_C_turns_8 rfl ?_
    refine r_k hO d_C_turns_9 ?_
    refine r_cS2fi hO hE (c_C_isWithin _ _) mf_C_isWithin lk_C_58 (by decide) rfl (Nat.le_of_ble_eq_true rfl) d_C_turns_10 (Nat.zero_le _) (Nat.zero_le _) ?_
    refine r_if_neB hO d_C_turns_13 (fun c_13 => ?_) (fun c_13 => ?_)
    · refine r_aload hO d_C_turns_19 rfl ?_
      refine r_getR hO f_C_10 rfl hC.1 hC.2.1 d_C_turns_20 ?_
      refine r_getR hO f_C_75 rfl hH.2.1 hH.2.2.2.2.1.1 d_C_turns_23 ?_
      refine r_iload hO d_C_turns_26 rfl ?_
      refine r_aald (t := 4) hO hH.2.2.2.2.1.2 (by decide) (by decide) (by omega) (by decide) (hH.2.2.2.2.2.2.2 _ (by omega)).1 d_C_turns_27 ?_
      refine r_sA3 hO d_C_turns_28 rfl ?_
      refine r_aload hO d_C_turns_29 rfl ?_
      refine r_getI hO f_C_79 rfl (hH.2.2.2.2.2.2.2 _ (by omega)).2 d_C_turns_30 ?_
      rw [hR.ask hi 0 (by decide)]
      refine r_sI4 hO d_C_turns_33 rfl ?_
      refine r_aload hO d_C_turns_35 rfl ?_
      refine r_iload hO d_C_turns_36 rfl ?_
      refine r_putI hO f_C_79 rfl (hH.2.2.2.2.2.2.2 _ (by omega)).2 (Nat.le_trans hH.1 (Nat.le_trans (Nat.le_add_right _ 6) (Nat.le_add_right _ _))) d_C_turns_37 ?_
      refine r_iload hO d_C_turns_40 rfl ?_
      refine r_iret hO hE (Nat.zero_le _) (Nat.zero_le _) d_C_turns_42 ?_
      exact cd_pn (by unfold sp_turns; rw [if_pos c_5, if_pos c_13, cd_tn_nI (show _ < 2 ^ 31 by omega)]; rfl) (cd_HG_ask hG hi 0 (by decide) k (by obtain ⟨q, -, q1, q2⟩ := cd_in_ex (lo := 0) (hi := 5) c_13 (by decide) (by decide); exact ⟨q, q1, q2⟩)) (cd_ofh.set _ _ (cd_wr_in (by omega) (by omega)))
    · refine r_ldc hO k_C_62 d_C_turns_16 ?_
      refine r_iret hO hE (Nat.zero_le _) (Nat.zero_le _) d_C_turns_18 ?_
      exact cd_pn (by unfold sp_turns; rw [if_pos c_5, if_neg c_13]) hG (cd_ofh.rf _ _ _)
theorem d_C_rule_0 : cd_D_iload b_C_rule 0 1 1 := Or.inr ⟨1, ⟨by decide +kernel, rfl⟩, rfl⟩
theorem d_C_rule_1 : cd_Dk b_C_rule 1 (nI 6) 3 := Or.inr (Or.inl ⟨6, ⟨by decide +kernel, rfl⟩, by decide +kernel⟩)
theorem d_C_rule_3 : cd_D 3 b_C_rule 3 (.invokestatic 58) 6 := ⟨by decide +kernel, rfl⟩
theorem d_C_rule_6 : cd_D_if_eq b_C_rule 6 21 9 := ⟨15, by decide +kernel, by decide, rfl⟩
theorem d_C_rule_9 : cd_D_iload b_C_rule 9 2 10 := Or.inr ⟨2, ⟨by decide +kernel, rfl⟩, rfl⟩
theorem d_C_rule_10 : cd_D 3 b_C_rule 10 (.getstatic 120) 13 := ⟨by decide +kernel, rfl⟩
theorem d_C_rule_13 : cd_D_iload b_C_rule 13 1 14 := Or.inr ⟨1, ⟨by decide +kernel, rfl⟩, rfl⟩
theorem d_C_rule_14 : cd_D 1 b_C_rule 14 .iaload 15 := ⟨by decide +kernel, rfl⟩
theorem d_C_rule_15 : cd_D 3 b_C_rule 15 (.invokestatic 58) 18 := ⟨by decide +kernel, rfl⟩
theorem d_C_rule_18 : cd_D_if_ne b_C_rule 18 24 21 := ⟨6, by decide +kernel, by decide, rfl⟩
theorem d_C_rule_21 : cd_D 2 b_C_rule 21 (.ldc 62) 23 := ⟨by decide +kernel, rfl⟩
theorem d_C_rule_23 : cd_D 1 b_C_rule 23 .ireturn 24 := ⟨by decide +kernel, rfl⟩
theorem d_C_rule_24 : cd_D_aload b_C_rule 24 0 25 := Or.inr ⟨0, ⟨by decide +kernel, rfl⟩, rfl⟩
theorem d_C_rule_25 : cd_D 3 b_C_rule 25 (.getfield 10) 28 := ⟨by decide +kernel, rfl⟩
theorem d_C_rule_28 : cd_D 3 b_C_rule 28 (.getfield 123) 31 := ⟨by decide +kernel, rfl⟩
theorem d_C_rule_31 : cd_D_iload b_C_rule 31 1 32 := Or.inr ⟨1, ⟨by decide +kernel, rfl⟩, rfl⟩
theorem d_C_rule_32 : cd_D 1 b_C_rule 32 .iaload 33 := ⟨by decide +kernel, rfl⟩
theorem d_C_rule_33 : cd_D_istore b_C_rule 33 3 34 := Or.inr ⟨3, ⟨by decide +kernel, rfl⟩, rfl⟩
theorem d_C_rule_34 : cd_D_aload b_C_rule 34 0 35 := Or.inr ⟨0, ⟨by decide +kernel, rfl⟩, rfl⟩
theorem d_C_rule_35 : cd_D 3 b_C_rule 35 (.getfield 10) 38 := ⟨by decide +kernel, rfl⟩
theorem d_C_rule_38 : cd_D 3 b_C_rule 38 (.getfield 123) 41 := ⟨by decide +kernel, rfl⟩
theorem d_C_rule_41 : cd_D_iload b_C_rule 41 1 42 := Or.inr ⟨1, ⟨by decide +kernel, rfl⟩, rfl⟩
theorem d_C_rule_42 : cd_D_iload b_C_rule 42 2 43 := Or.inr ⟨2, ⟨by decide +kernel, rfl⟩, rfl⟩
theorem d_C_rule_43 : cd_D 1 b_C_rule 43 .iastore 44 := ⟨by decide +kernel, rfl⟩
theorem d_C_rule_44 : cd_D_iload b_C_rule 44 3 45 := Or.inr ⟨3, ⟨by decide +kernel, rfl⟩, rfl⟩
theorem d_C_rule_45 : cd_D 1 b_C_rule 45 .ireturn 46 := ⟨by decide +kernel, rfl⟩
theorem c_C_rule {l : Launch} {w : cd_WT} {S : cd_Sp} {I : cd_Mem} (hC : cd_CD w S) {mm tc : Nat} {N : Nat → Int32} (hG : cd_HG w S I (w.1 + 1) N mm tc) (z v : Int32) : cd_C l w m_C_rule 1 0 0 [.ref w.1, .int z, .int v] S I (cd_Pn w S I (sp_rule N z v) tc) := by
  refine cd_intro (by decide) (by simp [Value.category]) (Nat.le_of_ble_eq_true rfl) ?_
  intro X hO hE
  show cd_J w X 0 0 S I 0 [some (.ref w.1), some (.int z), some (.int v), none] []
  obtain ⟨hH, hhd, hV, hIV, hR⟩ := id hG
  have hmm := hV.2.1
  have hm1 : I (w.1 + 1) 3 = nI mm := (hR.at 1 (by omega) rfl rfl).trans hV.1
  refine r_iload hO d_C_rule_0 rfl ?_
  refine r_k hO d_C_rule_1 ?_
  refine r_cS2fi hO hE (c_C_isWithin _ _) mf_C_isWithin lk_C_58 (by decide) rfl (Nat.le_of_ble_eq_true rfl) d_C_rule_3 (Nat.zero_le _) (Nat.zero_le _) ?_
  refine r_if_eqB hO d_C_rule_6 (fun c_6 => ?_) (fun c_6 => ?_)
  · refine r_ldc hO k_C_62 d_C_rule_21 ?_
    refine r_iret hO hE (Nat.zero_le _) (Nat.zero_le _) d_C_rule_23 ?_
    exact cd_pn (by unfold sp_rule; rw [if_neg c_6]) hG (cd_ofh.rf _ _ _)
  · obtain ⟨q, -, hq, rfl⟩ := cd_in_ex c_6 (by decide) (by decide)
    refine r_iload hO d_C_rule_9 rfl ?_
    refine r_gets hO 4 (by decide) gs_120 d_C_rule_10 ?_
    refine r_iload hO d_C_rule_13 rfl ?_
    refine r_stald hO (i := 4) (by decide) (show _ < 7 by omega) d_C_rule_14 ?_
    rw [cd_mo_sv hq]
    refine r_cS2fi hO hE (c_C_isWithin _ _) mf_C_isWithin lk_C_58 (by decide) rfl (Nat.le_of_ble_eq_true rfl) d_C_rule_15 (Nat.zero_le _) (Nat.zero_le _) ?_
    refine r_if_neB hO d_C_rule_18 (fun c_18 => ?_) (fun c_18 => ?_)
    · refine r_aload hO d_C_rule_24 rfl ?_
      refine r_getR hO f_C_10 rfl hC.1 hC.2.1 d_C_rule_25 ?_
      refine r_getR hO f_C_123 rfl hH.2.1 hH.2.2.1.1 d_C_rule_28 ?_
      refine r_iload hO d_C_rule_31 rfl ?_
      refine r_iald hO hH.2.2.1.2 (by omega) (by decide) d_C_rule_32 ?_
      rw [hR.at (3 + q) (by omega) (show w.1 + 1 + 1 = cd_lx (w.1 + 1) (3 + q) by unfold cd_lx; rw [if_neg (by omega), if_pos (by omega)]) (show q = cd_lk (3 + q) by unfold cd_lk; rw [if_neg (by omega), if_neg (by omega), if_pos (by omega)]; omega)]
      refine r_sI3 hO d_C_rule_33 rfl ?_
      refine r_aload hO d_C_rule_34 rfl ?_
      refine r_getR hO f_C_10 rfl hC.1 hC.2.1 d_C_rule_35 ?_
      refine r_getR hO f_C_123 rfl hH.2.1 hH.2.2.1.1 d_C_rule_38 ?_
      refine r_iload hO d_C_rule_41 rfl ?_
      refine r_iload hO d_C_rule_42 rfl ?_
      refine r_iast hO hH.2.2.1.2 (Nat.le_trans hH.1 (Nat.le_add_right _ _)) (by omega) (by decide) d_C_rule_43 ?_
      refine r_iload hO d_C_rule_44 rfl ?_
      refine r_iret hO hE (Nat.zero_le _) (Nat.zero_le _) d_C_rule_45 ?_
      exact cd_pn (by unfold sp_rule; rw [if_pos c_6, if_pos c_18, cd_tn_nI (show _ < 2 ^ 31 by omega)]) (cd_HG_w hG (3 + q) (by omega) (by omega) (by omega) (a := w.1 + 1 + 1) (k := q) (by unfold cd_lx; rw [if_neg (by omega), if_pos (by omega)]) (by unfold cd_lk; rw [if_neg (by omega), if_neg (by omega), if_pos (by omega)]; omega) v (cd_IV_rule hIV hq c_18)) (cd_ofh.set _ _ (cd_wr_in (by omega) (by omega)))
    · refine r_ldc hO k_C_62 d_C_rule_21 ?_
      refine r_iret hO hE (Nat.zero_le _) (Nat.zero_le _) d_C_rule_23 ?_
      exact cd_pn (by unfold sp_rule; rw [if_pos c_6, if_neg c_18]) hG (cd_ofh.rf _ _ _)
theorem d_C_opens_0 : cd_D_aload b_C_opens 0 0 1 := Or.inr ⟨0, ⟨by decide +kernel, rfl⟩, rfl⟩
theorem d_C_opens_1 : cd_D_iload b_C_opens 1 1 2 := Or.inr ⟨1, ⟨by decide +kernel, rfl⟩, rfl⟩
theorem d_C_opens_2 : cd_D 3 b_C_opens 2 (.invokevirtual 71) 5 := ⟨by decide +kernel, rfl⟩
theorem d_C_opens_5 : cd_D_if_ne b_C_opens 5 11 8 := ⟨6, by decide +kernel, by decide, rfl⟩
theorem d_C_opens_8 : cd_D 2 b_C_opens 8 (.ldc 62) 10 := ⟨by decide +kernel, rfl⟩
theorem d_C_opens_10 : cd_D 1 b_C_opens 10 .ireturn 11 := ⟨by decide +kernel, rfl⟩
theorem d_C_opens_11 : cd_D_aload b_C_opens 11 0 12 := Or.inr ⟨0, ⟨by decide +kernel, rfl⟩, rfl⟩
theorem d_C_opens_12 : cd_D 3 b_C_opens 12 (.getfield 10) 15 := ⟨by decide +kernel, rfl⟩
theorem d_C_opens_15 : cd_D_aload b_C_opens 15 0 16 := Or.inr ⟨0, ⟨by decide +kernel, rfl⟩, rfl⟩
theorem d_C_opens_16 : cd_D 3 b_C_opens 16 (.getfield 10) 19 := ⟨by decide +kernel, rfl⟩
theorem d_C_opens_19 : cd_D 3 b_C_opens 19 (.getfield 75) 22 := ⟨by decide +kernel, rfl⟩
theorem d_C_opens_22 : cd_D_iload b_C_opens 22 1 23 := Or.inr ⟨1, ⟨by decide +kernel, rfl⟩, rfl⟩
theorem d_C_opens_23 : cd_D 1 b_C_opens 23 .aaload 24 := ⟨by decide +kernel, rfl⟩
theorem d_C_opens_24 : cd_D 3 b_C_opens 24 (.invokevirtual 126) 27 := ⟨by decide +kernel, rfl⟩
theorem d_C_opens_27 : cd_D_if_eq b_C_opens 27 34 30 := ⟨7, by decide +kernel, by decide, rfl⟩
theorem d_C_opens_30 : cd_Dk b_C_opens 30 (nI 1) 31 := Or.inl ⟨1, ⟨by decide +kernel, rfl⟩, by decide +kernel⟩
theorem d_C_opens_31 : cd_D_goto b_C_opens 31 35 := ⟨4, by decide +kernel, by decide⟩
theorem d_C_opens_34 : cd_Dk b_C_opens 34 (nI 0) 35 := Or.inl ⟨0, ⟨by decide +kernel, rfl⟩, by decide +kernel⟩
theorem d_C_opens_35 : cd_D 1 b_C_opens 35 .ireturn 36 := ⟨by decide +kernel, rfl⟩
theorem c_C_opens {l : Launch} {w : cd_WT} {S : cd_Sp} {I : cd_Mem} (hC : cd_CD w S) {mm tc : Nat} {N : Nat → Int32} (hG : cd_HG w S I (w.1 + 1) N mm tc) (a : Int32) : cd_C l w m_C_opens 4 0 0 [.ref w.1, .int a] S I (cd_Pn w S I (sp_opens N a) tc) := by
  refine cd_intro (by decide) (by simp [Value.category]) (Nat.le_of_ble_eq_true rfl) ?_
  intro X hO hE
  show cd_J w X 0 0 S I 0 [some (.ref w.1), some (.int a)] []
  obtain ⟨hH, hhd, hV, hIV, hR⟩ := id hG
  have hmm := hV.2.1
  have hm1 : I (w.1 + 1) 3 = nI mm := (hR.at 1 (by omega) rfl rfl).trans hV.1
  refine r_aload hO d_C_opens_0 rfl ?_
  refine r_iload hO d_C_opens_1 rfl ?_
  refine r_cV1fi hO hE (c_C_isAsking hC hG _) mf_C_isAsking lk_C_71 hC.1 rfl (by decide) rfl (Nat.le_of_ble_eq_true rfl) d_C_opens_2 (Nat.zero_le _) (Nat.zero_le _) ?_
  refine r_if_neB hO d_C_opens_5 (fun c_5 => ?_) (fun c_5 => ?_)
  · obtain ⟨i, hi, rfl⟩ := cd_isA_ex hV.1 hV.2.1 c_5
    refine r_aload hO d_C_opens_11 rfl ?_
    refine r_getR hO f_C_10 rfl hC.1 hC.2.1 d_C_opens_12 ?_
    refine r_aload hO d_C_opens_15 rfl ?_
    refine r_getR hO f_C_10 rfl hC.1 hC.2.1 d_C_opens_16 ?_
    refine r_getR hO f_C_75 rfl hH.2.1 hH.2.2.2.2.1.1 d_C_opens_19 ?_
    refine r_iload hO d_C_opens_22 rfl ?_
    refine r_aald (t := 4) hO hH.2.2.2.2.1.2 (by decide) (by decide) (by omega) (by decide) (hH.2.2.2.2.2.2.2 _ (by omega)).1 d_C_opens_23 ?_
    refine r_cV1i hO hE (c_H_getsUp hG hi) mf_H_getsUp lk_C_126 hH.2.1 rfl (by decide) rfl (Nat.le_of_ble_eq_true rfl) d_C_opens_24 (Nat.zero_le _) (Nat.zero_le _) ?_
    rintro x I2 ⟨hx, hG2, ho2⟩
    refine r_if_eq hO d_C_opens_27 (fun c_27 => ?_) (fun c_27 => ?_)
    · refine r_k hO d_C_opens_34 ?_
      refine r_iret hO hE (Nat.zero_le _) (Nat.zero_le _) d_C_opens_35 ?_
      exact cd_pn (by unfold sp_opens; rw [if_pos c_5, cd_tn_nI (show _ < 2 ^ 31 by omega)]; exact cd_pr2 ((hx.symm.trans c_27).trans nI_0.symm)) hG2 ho2
    · refine r_k hO d_C_opens_30 ?_
      refine r_goto hO d_C_opens_31 ?_
      refine r_iret hO hE (Nat.zero_le _) (Nat.zero_le _) d_C_opens_35 ?_
      exact cd_pn (by unfold sp_opens; rw [if_pos c_5, cd_tn_nI (show _ < 2 ^ 31 by omega)]; exact cd_pr2 ((cd_ri_01 N i).resolve_left (fun q => c_27 (hx.trans (q.trans nI_0))))) hG2 ho2
  · refine r_ldc hO k_C_62 d_C_opens_8 ?_
    refine r_iret hO hE (Nat.zero_le _) (Nat.zero_le _) d_C_opens_10 ?_
    exact cd_pn (by unfold sp_opens; rw [if_neg c_5]) hG (cd_ofh.rf _ _ _)
theorem d_C_seed_0 : cd_D_aload b_C_seed 0 0 1 := Or.inr ⟨0, ⟨by decide +kernel, rfl⟩, rfl⟩
theorem d_C_seed_1 : cd_D 3 b_C_seed 1 (.getfield 10) 4 := ⟨by decide +kernel, rfl⟩
theorem d_C_seed_4 : cd_D 3 b_C_seed 4 (.getfield 139) 7 := ⟨by decide +kernel, rfl⟩
theorem d_C_seed_7 : cd_D_istore b_C_seed 7 2 8 := Or.inr ⟨2, ⟨by decide +kernel, rfl⟩, rfl⟩
theorem d_C_seed_8 : cd_D_aload b_C_seed 8 0 9 := Or.inr ⟨0, ⟨by decide +kernel, rfl⟩, rfl⟩
theorem d_C_seed_9 : cd_D 3 b_C_seed 9 (.getfield 10) 12 := ⟨by decide +kernel, rfl⟩
theorem d_C_seed_12 : cd_D_iload b_C_seed 12 1 13 := Or.inr ⟨1, ⟨by decide +kernel, rfl⟩, rfl⟩
theorem d_C_seed_13 : cd_D 3 b_C_seed 13 (.putfield 139) 16 := ⟨by decide +kernel, rfl⟩
theorem d_C_seed_16 : cd_D_iload b_C_seed 16 2 17 := Or.inr ⟨2, ⟨by decide +kernel, rfl⟩, rfl⟩
theorem d_C_seed_17 : cd_D 1 b_C_seed 17 .ireturn 18 := ⟨by decide +kernel, rfl⟩
theorem c_C_seed {l : Launch} {w : cd_WT} {S : cd_Sp} {I : cd_Mem} (hC : cd_CD w S) {mm tc : Nat} {N : Nat → Int32} (hG : cd_HG w S I (w.1 + 1) N mm tc) (v : Int32) : cd_C l w m_C_seed 0 0 0 [.ref w.1, .int v] S I (cd_Pn w S I (N 0, upd N 0 v) tc) := by
  refine cd_intro (by decide) (by simp [Value.category]) (Nat.le_of_ble_eq_true rfl) ?_
  intro X hO hE
  show cd_J w X 0 0 S I 0 [some (.ref w.1), some (.int v), none] []
  obtain ⟨hH, hhd, hV, hIV, hR⟩ := id hG
  have hmm := hV.2.1
  have hm1 : I (w.1 + 1) 3 = nI mm := (hR.at 1 (by omega) rfl rfl).trans hV.1
  refine r_aload hO d_C_seed_0 rfl ?_
  refine r_getR hO f_C_10 rfl hC.1 hC.2.1 d_C_seed_1 ?_
  refine r_getI hO f_C_139 rfl hH.2.1 d_C_seed_4 ?_
  refine r_tops (hR.at 0 (by omega) rfl rfl) ?_
  refine r_sI2 hO d_C_seed_7 rfl ?_
  refine r_aload hO d_C_seed_8 rfl ?_
  refine r_getR hO f_C_10 rfl hC.1 hC.2.1 d_C_seed_9 ?_
  refine r_iload hO d_C_seed_12 rfl ?_
  refine r_putI hO f_C_139 rfl hH.2.1 hH.1 d_C_seed_13 ?_
  refine r_iload hO d_C_seed_16 rfl ?_
  refine r_iret hO hE (Nat.zero_le _) (Nat.zero_le _) d_C_seed_17 ?_
  exact cd_pn rfl (cd_HG_w hG 0 (by decide) (by decide) (by decide) rfl rfl v (cd_IV_upd hIV (by omega))) (cd_ofh.set _ _ (cd_wr_in (by omega) (by omega)))
theorem d_C_hours_0 : cd_D_iload b_C_hours 0 1 1 := Or.inr ⟨1, ⟨by decide +kernel, rfl⟩, rfl⟩
theorem d_C_hours_1 : cd_Dk b_C_hours 1 (nI 1) 2 := Or.inl ⟨1, ⟨by decide +kernel, rfl⟩, by decide +kernel⟩
theorem d_C_hours_2 : cd_D_icmp_lt b_C_hours 2 11 5 := ⟨9, by decide +kernel, by decide, rfl⟩
theorem d_C_hours_5 : cd_D_iload b_C_hours 5 1 6 := Or.inr ⟨1, ⟨by decide +kernel, rfl⟩, rfl⟩
theorem d_C_hours_6 : cd_Dk b_C_hours 6 (nI 100) 8 := Or.inr (Or.inl ⟨100, ⟨by decide +kernel, rfl⟩, by decide +kernel⟩)
theorem d_C_hours_8 : cd_D_icmp_le b_C_hours 8 14 11 := ⟨6, by decide +kernel, by decide, rfl⟩
theorem d_C_hours_11 : cd_D 2 b_C_hours 11 (.ldc 62) 13 := ⟨by decide +kernel, rfl⟩
theorem d_C_hours_13 : cd_D 1 b_C_hours 13 .ireturn 14 := ⟨by decide +kernel, rfl⟩
theorem d_C_hours_14 : cd_D_aload b_C_hours 14 0 15 := Or.inr ⟨0, ⟨by decide +kernel, rfl⟩, rfl⟩
theorem d_C_hours_15 : cd_D 3 b_C_hours 15 (.getfield 10) 18 := ⟨by decide +kernel, rfl⟩
theorem d_C_hours_18 : cd_D 3 b_C_hours 18 (.getfield 142) 21 := ⟨by decide +kernel, rfl⟩
theorem d_C_hours_21 : cd_Dk b_C_hours 21 (nI 0) 22 := Or.inl ⟨0, ⟨by decide +kernel, rfl⟩, by decide +kernel⟩
theorem d_C_hours_22 : cd_D 1 b_C_hours 22 .iaload 23 := ⟨by decide +kernel, rfl⟩
theorem d_C_hours_23 : cd_D_istore b_C_hours 23 2 24 := Or.inr ⟨2, ⟨by decide +kernel, rfl⟩, rfl⟩
theorem d_C_hours_24 : cd_D_aload b_C_hours 24 0 25 := Or.inr ⟨0, ⟨by decide +kernel, rfl⟩, rfl⟩
theorem d_C_hours_25 : cd_D 3 b_C_hours 25 (.getfield 10) 28 := ⟨by decide +kernel, rfl⟩
theorem d_C_hours_28 : cd_D_iload b_C_hours 28 1 29 := Or.inr ⟨1, ⟨by decide +kernel, rfl⟩, rfl⟩
theorem d_C_hours_29 : cd_Dk b_C_hours 29 (nI 9999) 32 := Or.inr (Or.inr ⟨9999, ⟨by decide +kernel, rfl⟩, by decide +kernel⟩)
theorem d_C_hours_32 : cd_D_aload b_C_hours 32 0 33 := Or.inr ⟨0, ⟨by decide +kernel, rfl⟩, rfl⟩
theorem d_C_hours_33 : cd_D 3 b_C_hours 33 (.getfield 10) 36 := ⟨by decide +kernel, rfl⟩
theorem d_C_hours_36 : cd_D 3 b_C_hours 36 (.getfield 145) 39 := ⟨by decide +kernel, rfl⟩
theorem d_C_hours_39 : cd_D 1 b_C_hours 39 .isub 40 := ⟨by decide +kernel, rfl⟩
theorem d_C_hours_40 : cd_D 3 b_C_hours 40 (.invokestatic 130) 43 := ⟨by decide +kernel, rfl⟩
theorem d_C_hours_43 : cd_D 3 b_C_hours 43 (.invokevirtual 146) 46 := ⟨by decide +kernel, rfl⟩
theorem d_C_hours_46 : cd_D_aload b_C_hours 46 0 47 := Or.inr ⟨0, ⟨by decide +kernel, rfl⟩, rfl⟩
theorem d_C_hours_47 : cd_D 3 b_C_hours 47 (.getfield 10) 50 := ⟨by decide +kernel, rfl⟩
theorem d_C_hours_50 : cd_D 3 b_C_hours 50 (.getfield 142) 53 := ⟨by decide +kernel, rfl⟩
theorem d_C_hours_53 : cd_Dk b_C_hours 53 (nI 0) 54 := Or.inl ⟨0, ⟨by decide +kernel, rfl⟩, by decide +kernel⟩
theorem d_C_hours_54 : cd_D 1 b_C_hours 54 .iaload 55 := ⟨by decide +kernel, rfl⟩
theorem d_C_hours_55 : cd_D_iload b_C_hours 55 2 56 := Or.inr ⟨2, ⟨by decide +kernel, rfl⟩, rfl⟩
theorem d_C_hours_56 : cd_D 1 b_C_hours 56 .isub 57 := ⟨by decide +kernel, rfl⟩
theorem d_C_hours_57 : cd_D 1 b_C_hours 57 .ireturn 58 := ⟨by decide +kernel, rfl⟩
theorem c_C_hours {l : Launch} {w : cd_WT} {S : cd_Sp} {I : cd_Mem} (hC : cd_CD w S) {mm tc : Nat} {N : Nat → Int32} (hG : cd_HG w S I (w.1 + 1) N mm tc) {hh : Nat} (hN2 : N 2 = nI hh) (h9 : hh ≤ 9999) (n : Int32) : cd_C l w m_C_hours 6 0 0 [.ref w.1, .int n] S I (cd_Pn w S I (sp_hours N mm tc hh n) tc) := by
  refine cd_intro (by decide) (by simp [Value.category]) (Nat.le_of_ble_eq_true rfl) ?_
  intro X hO hE
  show cd_J w X 0 0 S I 0 [some (.ref w.1), some (.int n), none] []
  obtain ⟨hH, hhd, hV, hIV, hR⟩ := id hG
  have hmm := hV.2.1
  have hm1 : I (w.1 + 1) 3 = nI mm := (hR.at 1 (by omega) rfl rfl).trans hV.1
  refine r_iload hO d_C_hours_0 rfl ?_
  refine r_k hO d_C_hours_1 ?_
  refine r_icmp_lt hO d_C_hours_2 (fun c_2 => ?_) (fun c_2 => ?_)
  · refine r_ldc hO k_C_62 d_C_hours_11 ?_
    refine r_iret hO hE (Nat.zero_le _) (Nat.zero_le _) d_C_hours_13 ?_
    exact cd_pn (by unfold sp_hours; rw [if_neg (by rintro ⟨q1, q2⟩; simp only [Int32.lt_iff_toInt_lt, Int32.le_iff_toInt_le] at *; omega)]) hG (cd_ofh.rf _ _ _)
  · refine r_iload hO d_C_hours_5 rfl ?_
    refine r_k hO d_C_hours_6 ?_
    refine r_icmp_le hO d_C_hours_8 (fun c_8 => ?_) (fun c_8 => ?_)
    · have c2 : nI 1 ≤ n := (by simp only [Int32.lt_iff_toInt_lt, Int32.le_iff_toInt_le] at *; omega)
      obtain ⟨q, hq1, hq, rfl⟩ := cd_in_ex ⟨c2, c_8⟩ (by decide) (by decide)
      refine r_aload hO d_C_hours_14 rfl ?_
      refine r_getR hO f_C_10 rfl hC.1 hC.2.1 d_C_hours_15 ?_
      refine r_getR hO f_C_142 rfl hH.2.1 hH.2.2.2.1.1 d_C_hours_18 ?_
      refine r_k hO d_C_hours_21 ?_
      refine r_iald hO hH.2.2.2.1.2 (by omega) (by decide) d_C_hours_22 ?_
      refine r_tops (hR.at 10 (by omega) rfl rfl) ?_
      refine r_sI2 hO d_C_hours_23 rfl ?_
      refine r_aload hO d_C_hours_24 rfl ?_
      refine r_getR hO f_C_10 rfl hC.1 hC.2.1 d_C_hours_25 ?_
      refine r_iload hO d_C_hours_28 rfl ?_
      refine r_k hO d_C_hours_29 ?_
      refine r_aload hO d_C_hours_32 rfl ?_
      refine r_getR hO f_C_10 rfl hC.1 hC.2.1 d_C_hours_33 ?_
      refine r_getI hO f_C_145 rfl hH.2.1 d_C_hours_36 ?_
      refine r_tops ((hR.at 2 (by omega) rfl rfl).trans hN2) ?_
      refine r_isubN hO d_C_hours_39 (by omega) ?_
      refine r_mmin hO hE lk_C_130 cd_mmin (by omega) rfl (Nat.le_of_ble_eq_true rfl) (Nat.zero_le _) (Nat.zero_le _) d_C_hours_40 ?_
      refine r_tops (show _ = nI (min (9999 - hh) q) from cd_mn_nI (by omega) (by omega)) ?_
      refine r_cV1v hO hE (c_H_passHours hG _ (by omega)) mf_H_passHours lk_C_146 hH.2.1 rfl (by decide) rfl (Nat.le_of_ble_eq_true rfl) d_C_hours_43 (Nat.zero_le _) (Nat.zero_le _) ?_
      rintro I2 ⟨hG2, ho2⟩
      refine r_aload hO d_C_hours_46 rfl ?_
      refine r_getR hO f_C_10 rfl hC.1 hC.2.1 d_C_hours_47 ?_
      refine r_getR hO f_C_142 rfl hH.2.1 hH.2.2.2.1.1 d_C_hours_50 ?_
      refine r_k hO d_C_hours_53 ?_
      refine r_iald hO hH.2.2.2.1.2 (by omega) (by decide) d_C_hours_54 ?_
      refine r_tops (hG2.2.2.2.2.at 10 (by omega) rfl rfl) ?_
      refine r_iload hO d_C_hours_55 rfl ?_
      refine r_isub hO d_C_hours_56 ?_
      refine r_iret hO hE (Nat.zero_le _) (Nat.zero_le _) d_C_hours_57 ?_
      exact cd_pn (by unfold sp_hours; rw [if_pos ⟨c2, c_8⟩, cd_tn_nI (show _ < 2 ^ 31 by omega)]) hG2 ho2
    · refine r_ldc hO k_C_62 d_C_hours_11 ?_
      refine r_iret hO hE (Nat.zero_le _) (Nat.zero_le _) d_C_hours_13 ?_
      exact cd_pn (by unfold sp_hours; rw [if_neg (by rintro ⟨q1, q2⟩; simp only [Int32.lt_iff_toInt_lt, Int32.le_iff_toInt_le] at *; omega)]) hG (cd_ofh.rf _ _ _)
