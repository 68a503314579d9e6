theorem d_H_lawOf_0 : cd_D_aload b_H_lawOf 0 0 1 := Or.inr ⟨0, ⟨by decide +kernel, rfl⟩, rfl⟩
theorem d_H_lawOf_1 : cd_D 3 b_H_lawOf 1 (.getfield 44) 4 := ⟨by decide +kernel, rfl⟩
theorem d_H_lawOf_4 : cd_D_iload b_H_lawOf 4 1 5 := Or.inr ⟨1, ⟨by decide +kernel, rfl⟩, rfl⟩
theorem d_H_lawOf_5 : cd_D 1 b_H_lawOf 5 .iaload 6 := ⟨by decide +kernel, rfl⟩
theorem d_H_lawOf_6 : cd_D_istore b_H_lawOf 6 2 7 := Or.inr ⟨2, ⟨by decide +kernel, rfl⟩, rfl⟩
theorem d_H_lawOf_7 : cd_D_iload b_H_lawOf 7 2 8 := Or.inr ⟨2, ⟨by decide +kernel, rfl⟩, rfl⟩
theorem d_H_lawOf_8 : cd_D_if_lt b_H_lawOf 8 28 11 := ⟨20, by decide +kernel, by decide, rfl⟩
theorem d_H_lawOf_11 : cd_D_iload b_H_lawOf 11 2 12 := Or.inr ⟨2, ⟨by decide +kernel, rfl⟩, rfl⟩
theorem d_H_lawOf_12 : cd_D_aload b_H_lawOf 12 0 13 := Or.inr ⟨0, ⟨by decide +kernel, rfl⟩, rfl⟩
theorem d_H_lawOf_13 : cd_D 3 b_H_lawOf 13 (.getfield 40) 16 := ⟨by decide +kernel, rfl⟩
theorem d_H_lawOf_16 : cd_D_icmp_ge b_H_lawOf 16 28 19 := ⟨12, by decide +kernel, by decide, rfl⟩
theorem d_H_lawOf_19 : cd_D_aload b_H_lawOf 19 0 20 := Or.inr ⟨0, ⟨by decide +kernel, rfl⟩, rfl⟩
theorem d_H_lawOf_20 : cd_D 3 b_H_lawOf 20 (.getfield 36) 23 := ⟨by decide +kernel, rfl⟩
theorem d_H_lawOf_23 : cd_D_iload b_H_lawOf 23 2 24 := Or.inr ⟨2, ⟨by decide +kernel, rfl⟩, rfl⟩
theorem d_H_lawOf_24 : cd_D 1 b_H_lawOf 24 .aaload 25 := ⟨by decide +kernel, rfl⟩
theorem d_H_lawOf_25 : cd_D_goto b_H_lawOf 25 29 := ⟨4, by decide +kernel, by decide⟩
theorem d_H_lawOf_28 : cd_D 1 b_H_lawOf 28 .aconst_null 29 := ⟨by decide +kernel, rfl⟩
theorem d_H_lawOf_29 : cd_D 1 b_H_lawOf 29 .areturn 30 := ⟨by decide +kernel, rfl⟩
theorem c_H_lawOf_r {l : Launch} {w : cd_WT} {S : cd_Sp} {I : cd_Mem} {h mm tc : Nat} {N : Nat → Int32} (hG : cd_HG w S I h N mm tc) {k : Nat} (hk : k < 3) {t x : Nat} (ht : t < tc) (hc : cd_cnt N (nI k) tc = nI t) (hx : S.2.2 (h + 4) t = some x) : cd_C l w m_H_lawOf 0 0 0 [.ref h, .int (nI k)] S I (cd_Fr S (.ref x) I) := by
  refine cd_intro (by decide) (by simp [Value.category]) (Nat.le_of_ble_eq_true rfl) ?_
  intro X hO hE
  show cd_J w X 0 0 S I 0 [some (.ref h), some (.int (nI k)), none] []
  obtain ⟨hH, hhd, hV, hIV, hR⟩ := id hG
  have hmm := hV.2.1
  have e7 : I h 7 = nI tc := (hR.at 15 (by omega) rfl rfl).trans hV.2.2.1
  have htc := hV.2.2.2.1
  have ec := hR.2.2 k hk
  unfold cd_cn at ec
  rw [hc, if_pos (show (0 : Int32) ≤ nI t from nI_le (a := 0) (by omega) (by omega))] at ec
  refine r_aload hO d_H_lawOf_0 rfl ?_
  refine r_getR hO f_H_44 rfl hH.2.1 hH.2.2.2.2.2.2.1.1 d_H_lawOf_1 ?_
  refine r_iload hO d_H_lawOf_4 rfl ?_
  refine r_iald hO hH.2.2.2.2.2.2.1.2 (by omega) (by decide) d_H_lawOf_5 ?_
  refine r_tops ec ?_
  refine r_sI2 hO d_H_lawOf_6 rfl ?_
  refine r_iload hO d_H_lawOf_7 rfl ?_
  refine r_if_lt hO d_H_lawOf_8 (fun c_8 => ?_) (fun c_8 => ?_)
  · exact absurd c_8 (nI_pos (by omega))
  · refine r_iload hO d_H_lawOf_11 rfl ?_
    refine r_aload hO d_H_lawOf_12 rfl ?_
    refine r_getI hO f_H_40 rfl hH.2.1 d_H_lawOf_13 ?_
    refine r_tops e7 ?_
    refine r_icmp_ge hO d_H_lawOf_16 (fun c_16 => ?_) (fun c_16 => ?_)
    · exact absurd c_16 (nI_ge (by omega) (by omega))
    · refine r_aload hO d_H_lawOf_19 rfl ?_
      refine r_getR hO f_H_36 rfl hH.2.1 hH.2.2.2.2.2.1.1 d_H_lawOf_20 ?_
      refine r_iload hO d_H_lawOf_23 rfl ?_
      refine r_aald (t := 5) hO hH.2.2.2.2.2.1.2 (by decide) (by decide) (by omega) (by decide) hx d_H_lawOf_24 ?_
      refine r_goto hO d_H_lawOf_25 ?_
      refine r_aret hO hE (Nat.zero_le _) (Nat.zero_le _) d_H_lawOf_29 ?_
      exact ⟨rfl, rfl, rfl⟩
theorem c_H_lawOf_n {l : Launch} {w : cd_WT} {S : cd_Sp} {I : cd_Mem} {h mm tc : Nat} {N : Nat → Int32} (hG : cd_HG w S I h N mm tc) {k : Nat} (hk : k < 3) (hc : ¬ 0 ≤ cd_cnt N (nI k) tc) : cd_C l w m_H_lawOf 0 0 0 [.ref h, .int (nI k)] S I (cd_Fr S .null I) := by
  refine cd_intro (by decide) (by simp [Value.category]) (Nat.le_of_ble_eq_true rfl) ?_
  intro X hO hE
  show cd_J w X 0 0 S I 0 [some (.ref h), some (.int (nI k)), none] []
  obtain ⟨hH, hhd, hV, hIV, hR⟩ := id hG
  have hmm := hV.2.1
  have e7 : I h 7 = nI tc := (hR.at 15 (by omega) rfl rfl).trans hV.2.2.1
  have htc := hV.2.2.2.1
  have ec := hR.2.2 k hk
  unfold cd_cn at ec
  rw [if_neg hc] at ec
  refine r_aload hO d_H_lawOf_0 rfl ?_
  refine r_getR hO f_H_44 rfl hH.2.1 hH.2.2.2.2.2.2.1.1 d_H_lawOf_1 ?_
  refine r_iload hO d_H_lawOf_4 rfl ?_
  refine r_iald hO hH.2.2.2.2.2.2.1.2 (by omega) (by decide) d_H_lawOf_5 ?_
  refine r_tops ec ?_
  refine r_sI2 hO d_H_lawOf_6 rfl ?_
  refine r_iload hO d_H_lawOf_7 rfl ?_
  refine r_if_lt hO d_H_lawOf_8 (fun c_8 => ?_) (fun c_8 => ?_)
  · refine r_null hO d_H_lawOf_28 ?_
    refine r_aretN hO hE (Nat.zero_le _) (Nat.zero_le _) d_H_lawOf_29 ?_
    exact ⟨rfl, rfl, rfl⟩
  · exact absurd (by decide) c_8
theorem d_H_plainPress_0 : cd_D_aload b_H_plainPress 0 0 1 := Or.inr ⟨0, ⟨by decide +kernel, rfl⟩, rfl⟩
theorem d_H_plainPress_1 : cd_Dk b_H_plainPress 1 (nI 0) 2 := Or.inl ⟨0, ⟨by decide +kernel, rfl⟩, by decide +kernel⟩
theorem d_H_plainPress_2 : cd_D 3 b_H_plainPress 2 (.invokevirtual 74) 5 := ⟨by decide +kernel, rfl⟩
theorem d_H_plainPress_5 : cd_D_astore b_H_plainPress 5 2 6 := Or.inr ⟨2, ⟨by decide +kernel, rfl⟩, rfl⟩
theorem d_H_plainPress_6 : cd_D_aload b_H_plainPress 6 2 7 := Or.inr ⟨2, ⟨by decide +kernel, rfl⟩, rfl⟩
theorem d_H_plainPress_7 : cd_D_ifnn b_H_plainPress 7 17 10 := ⟨10, by decide +kernel, by decide, rfl⟩
theorem d_H_plainPress_10 : cd_D_aload b_H_plainPress 10 1 11 := Or.inr ⟨1, ⟨by decide +kernel, rfl⟩, rfl⟩
theorem d_H_plainPress_11 : cd_D 3 b_H_plainPress 11 (.getfield 62) 14 := ⟨by decide +kernel, rfl⟩
theorem d_H_plainPress_14 : cd_D_goto b_H_plainPress 14 33 := ⟨19, by decide +kernel, by decide⟩
theorem d_H_plainPress_17 : cd_D_aload b_H_plainPress 17 2 18 := Or.inr ⟨2, ⟨by decide +kernel, rfl⟩, rfl⟩
theorem d_H_plainPress_18 : cd_D_aload b_H_plainPress 18 1 19 := Or.inr ⟨1, ⟨by decide +kernel, rfl⟩, rfl⟩
theorem d_H_plainPress_19 : cd_D 3 b_H_plainPress 19 (.getfield 62) 22 := ⟨by decide +kernel, rfl⟩
theorem d_H_plainPress_22 : cd_D_aload b_H_plainPress 22 1 23 := Or.inr ⟨1, ⟨by decide +kernel, rfl⟩, rfl⟩
theorem d_H_plainPress_23 : cd_D 3 b_H_plainPress 23 (.getfield 65) 26 := ⟨by decide +kernel, rfl⟩
theorem d_H_plainPress_26 : cd_D_aload b_H_plainPress 26 1 27 := Or.inr ⟨1, ⟨by decide +kernel, rfl⟩, rfl⟩
theorem d_H_plainPress_27 : cd_D 3 b_H_plainPress 27 (.getfield 68) 30 := ⟨by decide +kernel, rfl⟩
theorem d_H_plainPress_30 : cd_D 3 b_H_plainPress 30 (.invokevirtual 78) 33 := ⟨by decide +kernel, rfl⟩
theorem d_H_plainPress_33 : cd_D_istore b_H_plainPress 33 3 34 := Or.inr ⟨3, ⟨by decide +kernel, rfl⟩, rfl⟩
theorem d_H_plainPress_34 : cd_D_iload b_H_plainPress 34 3 35 := Or.inr ⟨3, ⟨by decide +kernel, rfl⟩, rfl⟩
theorem d_H_plainPress_35 : cd_Dk b_H_plainPress 35 (nI 199) 38 := Or.inr (Or.inr ⟨199, ⟨by decide +kernel, rfl⟩, by decide +kernel⟩)
theorem d_H_plainPress_38 : cd_D 3 b_H_plainPress 38 (.invokestatic 82) 41 := ⟨by decide +kernel, rfl⟩
theorem d_H_plainPress_41 : cd_D 1 b_H_plainPress 41 .ireturn 42 := ⟨by decide +kernel, rfl⟩
theorem c_H_plainPress {l : Launch} {w : cd_WT} {S : cd_Sp} {I : cd_Mem} {h mm tc : Nat} {N : Nat → Int32} (hG : cd_HG w S I h N mm tc) {i : Nat} (hi : i < mm) : cd_C l w m_H_plainPress 2 0 0 [.ref h, .ref (h + 6 + i)] S I (cd_Pi S (fun x I' => x = cd_pl N i tc ∧ cd_HG w S I' h N mm tc ∧ cd_ofh w h I I')) := by
  refine cd_intro (by decide) (by simp [Value.category]) (Nat.le_of_ble_eq_true rfl) ?_
  intro X hO hE
  show cd_J w X 0 0 S I 0 [some (.ref h), some (.ref (h + 6 + i)), none, none] []
  obtain ⟨hH, hhd, hV, hIV, hR⟩ := id hG
  have hmm := hV.2.1
  have htc := hV.2.2.2.1
  have b2 : I (h + 6 + i) 2 = N (16 + 5 * i + 2) := hR.ask hi 2 (by decide)
  have b3 : I (h + 6 + i) 3 = N (16 + 5 * i + 3) := hR.ask hi 3 (by decide)
  have b4 : I (h + 6 + i) 4 = N (16 + 5 * i + 4) := hR.ask hi 4 (by decide)
  obtain ⟨b, hb9, hb⟩ := (hIV.1 i hi).2.2.1
  by_cases hc : 0 ≤ cd_cnt N (nI 0) tc
  · obtain ⟨t, ht, hct, hky⟩ := cd_cnt_pos hc
    obtain ⟨q, hq, hT⟩ := hR.2.1 t ht
    obtain ⟨n, v, hX, hn9, hv9, hn, hv, -, -, htr, hsg, hlv⟩ := hT
    obtain ⟨n', hn', -, hn'9, hwf, hd1⟩ := hV.2.2.2.2.at ht (Nat.zero_le 2) hky
    have hnn : n' = n := (nI_eq (by omega) (by omega)).mp (hn'.symm.trans hn)
    subst hnn
    refine r_aload hO d_H_plainPress_0 rfl ?_
    refine r_k hO d_H_plainPress_1 ?_
    refine r_cV1fr hO hE (c_H_lawOf_r hG (by decide) ht hct hq) mf_H_lawOf lk_H_74 hH.2.1 rfl (by decide) rfl (Nat.le_of_ble_eq_true rfl) d_H_plainPress_2 (Nat.zero_le _) (Nat.zero_le _) ?_
    refine r_sA2 hO d_H_plainPress_5 rfl ?_
    refine r_aload hO d_H_plainPress_6 rfl ?_
    refine r_ifnn hO d_H_plainPress_7 ?_
    refine r_aload hO d_H_plainPress_17 rfl ?_
    refine r_aload hO d_H_plainPress_18 rfl ?_
    refine r_getI hO f_H_62 rfl (hH.2.2.2.2.2.2.2 _ (by omega)).2 d_H_plainPress_19 ?_
    rw [b2]
    refine r_aload hO d_H_plainPress_22 rfl ?_
    refine r_getI hO f_H_65 rfl (hH.2.2.2.2.2.2.2 _ (by omega)).2 d_H_plainPress_23 ?_
    rw [b3]
    refine r_aload hO d_H_plainPress_26 rfl ?_
    refine r_getI hO f_H_68 rfl (hH.2.2.2.2.2.2.2 _ (by omega)).2 d_H_plainPress_27 ?_
    rw [b4]
    refine r_cV3i hO hE (c_X_gives hX hn9 hv9 (show 3 ≤ 3 from Nat.le_refl _) _ htr hwf hsg hlv (by omega) _ _ _) mf_X_gives lk_H_78 hX.1 rfl (by decide) rfl (Nat.le_of_ble_eq_true rfl) d_H_plainPress_30 (Nat.zero_le _) (Nat.zero_le _) ?_
    rintro x I2 ⟨hx, ho⟩
    have hG2 : cd_HG w S I2 h N mm tc := ⟨hH, hhd, hV, hIV, hR.cg hmm (fun b h1 h2 => ho b (by simp only [List.mem_singleton]; omega)) (fun q' => ⟨ho _ (by simp only [List.mem_singleton]; omega), ho _ (by simp only [List.mem_singleton]; omega)⟩)⟩
    have ho2 : cd_ofh w h I I2 := fun b hb => ho b (by simp only [List.mem_singleton]; exact fun e => hb (Or.inr (by omega)))
    refine r_sI3 hO d_H_plainPress_33 rfl ?_
    refine r_iload hO d_H_plainPress_34 rfl ?_
    refine r_k hO d_H_plainPress_35 ?_
    refine r_cN2fi hO hE (c_C_heldWithin _ _) mf_C_heldWithin "CatDoors" (by decide +kernel) (by decide) rfl (Nat.le_of_ble_eq_true rfl) d_H_plainPress_38 (Nat.zero_le _) (Nat.zero_le _) ?_
    refine r_iret hO hE (Nat.zero_le _) (Nat.zero_le _) d_H_plainPress_41 ?_
    exact ⟨_, rfl, rfl, by unfold cd_pl; rw [if_pos hc, cd_hw_wi _ (by decide), hx, hct, cd_tn_nI (by omega), cd_wo_eq hn hn9], hG2, ho2⟩
  · skip
    refine r_aload hO d_H_plainPress_0 rfl ?_
    refine r_k hO d_H_plainPress_1 ?_
    refine r_cV1fr hO hE (c_H_lawOf_n hG (by decide) hc) mf_H_lawOf lk_H_74 hH.2.1 rfl (by decide) rfl (Nat.le_of_ble_eq_true rfl) d_H_plainPress_2 (Nat.zero_le _) (Nat.zero_le _) ?_
    refine r_sAN2 hO d_H_plainPress_5 rfl ?_
    refine r_aloadN hO d_H_plainPress_6 rfl ?_
    refine r_ifnnN hO d_H_plainPress_7 ?_
    refine r_aload hO d_H_plainPress_10 rfl ?_
    refine r_getI hO f_H_62 rfl (hH.2.2.2.2.2.2.2 _ (by omega)).2 d_H_plainPress_11 ?_
    rw [b2]
    refine r_goto hO d_H_plainPress_14 ?_
    refine r_sI3 hO d_H_plainPress_33 rfl ?_
    refine r_iload hO d_H_plainPress_34 rfl ?_
    refine r_k hO d_H_plainPress_35 ?_
    refine r_cN2fi hO hE (c_C_heldWithin _ _) mf_C_heldWithin "CatDoors" (by decide +kernel) (by decide) rfl (Nat.le_of_ble_eq_true rfl) d_H_plainPress_38 (Nat.zero_le _) (Nat.zero_le _) ?_
    refine r_iret hO hE (Nat.zero_le _) (Nat.zero_le _) d_H_plainPress_41 ?_
    exact ⟨_, rfl, rfl, by unfold cd_pl; rw [if_neg hc, cd_hw_wi _ (by decide), hb, cd_wi_nI (by omega) (by decide), Nat.min_eq_left (by omega)], hG, cd_ofh.rf _ _ _⟩
theorem cd_pl_ex {N : Nat → Int32} {mm tc : Nat} (hIV : cd_IV N mm) {i : Nat} (hi : i < mm) : ∃ p, p ≤ 199 ∧ cd_pl N i tc = nI p := by
  unfold cd_pl
  split
  · exact cd_wi_ex _ (by decide)
  · obtain ⟨b, hb, e⟩ := (hIV.1 i hi).2.2.1
    exact ⟨b, by omega, e⟩
theorem cd_mx_20 {p : Nat} (hp : p ≤ 199) : cd_mx (nI 0) (nI p - nI 20) = cd_wi (nI p - nI 20) (nI 0) (nI 199) := by
  have e0 : (nI 0).toInt = 0 := rfl
  have e2 : (nI 199).toInt = 199 := rfl
  have ep : (nI p - nI 20).toInt = (p : Int) - 20 := by
    rw [Int32.toInt_sub, nI_toInt (by omega), nI_toInt (by omega)]
    apply Int.bmod_eq_of_le <;> omega
  unfold cd_mx cd_wi
  simp only [Int32.lt_iff_toInt_lt]
  (repeat' split) <;> first | rfl | (exfalso; omega) | (apply Int32.toInt_inj.mp; omega)
theorem d_A_presses_0 : cd_D_aload b_A_presses 0 1 1 := Or.inr ⟨1, ⟨by decide +kernel, rfl⟩, rfl⟩
theorem d_A_presses_1 : cd_D_aload b_A_presses 1 0 2 := Or.inr ⟨0, ⟨by decide +kernel, rfl⟩, rfl⟩
theorem d_A_presses_2 : cd_D 3 b_A_presses 2 (.invokevirtual 31) 5 := ⟨by decide +kernel, rfl⟩
theorem d_A_presses_5 : cd_D_istore b_A_presses 5 2 6 := Or.inr ⟨2, ⟨by decide +kernel, rfl⟩, rfl⟩
theorem d_A_presses_6 : cd_D_aload b_A_presses 6 1 7 := Or.inr ⟨1, ⟨by decide +kernel, rfl⟩, rfl⟩
theorem d_A_presses_7 : cd_D 3 b_A_presses 7 (.getfield 37) 10 := ⟨by decide +kernel, rfl⟩
theorem d_A_presses_10 : cd_Dk b_A_presses 10 (nI 5) 11 := Or.inl ⟨5, ⟨by decide +kernel, rfl⟩, by decide +kernel⟩
theorem d_A_presses_11 : cd_D 1 b_A_presses 11 .iaload 12 := ⟨by decide +kernel, rfl⟩
theorem d_A_presses_12 : cd_Dk b_A_presses 12 (nI 1) 13 := Or.inl ⟨1, ⟨by decide +kernel, rfl⟩, by decide +kernel⟩
theorem d_A_presses_13 : cd_D_icmp_ne b_A_presses 13 27 16 := ⟨14, by decide +kernel, by decide, rfl⟩
theorem d_A_presses_16 : cd_Dk b_A_presses 16 (nI 0) 17 := Or.inl ⟨0, ⟨by decide +kernel, rfl⟩, by decide +kernel⟩
theorem d_A_presses_17 : cd_D_iload b_A_presses 17 2 18 := Or.inr ⟨2, ⟨by decide +kernel, rfl⟩, rfl⟩
theorem d_A_presses_18 : cd_Dk b_A_presses 18 (nI 20) 20 := Or.inr (Or.inl ⟨20, ⟨by decide +kernel, rfl⟩, by decide +kernel⟩)
theorem d_A_presses_20 : cd_D 1 b_A_presses 20 .isub 21 := ⟨by decide +kernel, rfl⟩
theorem d_A_presses_21 : cd_D 3 b_A_presses 21 (.invokestatic 40) 24 := ⟨by decide +kernel, rfl⟩
theorem d_A_presses_24 : cd_D_goto b_A_presses 24 28 := ⟨4, by decide +kernel, by decide⟩
theorem d_A_presses_27 : cd_D_iload b_A_presses 27 2 28 := Or.inr ⟨2, ⟨by decide +kernel, rfl⟩, rfl⟩
theorem d_A_presses_28 : cd_D_istore b_A_presses 28 3 29 := Or.inr ⟨3, ⟨by decide +kernel, rfl⟩, rfl⟩
theorem d_A_presses_29 : cd_D_aload b_A_presses 29 0 30 := Or.inr ⟨0, ⟨by decide +kernel, rfl⟩, rfl⟩
theorem d_A_presses_30 : cd_D 3 b_A_presses 30 (.getfield 9) 33 := ⟨by decide +kernel, rfl⟩
theorem d_A_presses_33 : decode b_A_presses 33 = .ok (.tableswitch (74) (1) (5) #[35, 63, 39, 65, 70], 35) := by decide +kernel
theorem d_A_presses_68 : cd_D_iload b_A_presses 68 2 69 := Or.inr ⟨2, ⟨by decide +kernel, rfl⟩, rfl⟩
theorem d_A_presses_69 : cd_Dk b_A_presses 69 (nI 2) 70 := Or.inl ⟨2, ⟨by decide +kernel, rfl⟩, by decide +kernel⟩
theorem d_A_presses_70 : cd_D 1 b_A_presses 70 .idiv 71 := ⟨by decide +kernel, rfl⟩
theorem d_A_presses_71 : cd_D 1 b_A_presses 71 .ireturn 72 := ⟨by decide +kernel, rfl⟩
theorem d_A_presses_72 : cd_D_aload b_A_presses 72 1 73 := Or.inr ⟨1, ⟨by decide +kernel, rfl⟩, rfl⟩
theorem d_A_presses_73 : cd_D 3 b_A_presses 73 (.getfield 37) 76 := ⟨by decide +kernel, rfl⟩
theorem d_A_presses_76 : cd_Dk b_A_presses 76 (nI 6) 78 := Or.inr (Or.inl ⟨6, ⟨by decide +kernel, rfl⟩, by decide +kernel⟩)
theorem d_A_presses_78 : cd_D 1 b_A_presses 78 .iaload 79 := ⟨by decide +kernel, rfl⟩
theorem d_A_presses_79 : cd_Dk b_A_presses 79 (nI 1) 80 := Or.inl ⟨1, ⟨by decide +kernel, rfl⟩, by decide +kernel⟩
theorem d_A_presses_80 : cd_D_icmp_ne b_A_presses 80 92 83 := ⟨12, by decide +kernel, by decide, rfl⟩
theorem d_A_presses_83 : cd_D_iload b_A_presses 83 2 84 := Or.inr ⟨2, ⟨by decide +kernel, rfl⟩, rfl⟩
theorem d_A_presses_84 : cd_Dk b_A_presses 84 (nI 2) 85 := Or.inl ⟨2, ⟨by decide +kernel, rfl⟩, by decide +kernel⟩
theorem d_A_presses_85 : cd_D 1 b_A_presses 85 .idiv 86 := ⟨by decide +kernel, rfl⟩
theorem d_A_presses_86 : cd_Dk b_A_presses 86 (nI 60) 88 := Or.inr (Or.inl ⟨60, ⟨by decide +kernel, rfl⟩, by decide +kernel⟩)
theorem d_A_presses_88 : cd_D 1 b_A_presses 88 .iadd 89 := ⟨by decide +kernel, rfl⟩
theorem d_A_presses_89 : cd_D_goto b_A_presses 89 95 := ⟨6, by decide +kernel, by decide⟩
theorem d_A_presses_92 : cd_D_iload b_A_presses 92 2 93 := Or.inr ⟨2, ⟨by decide +kernel, rfl⟩, rfl⟩
theorem d_A_presses_93 : cd_Dk b_A_presses 93 (nI 2) 94 := Or.inl ⟨2, ⟨by decide +kernel, rfl⟩, by decide +kernel⟩
theorem d_A_presses_94 : cd_D 1 b_A_presses 94 .idiv 95 := ⟨by decide +kernel, rfl⟩
theorem d_A_presses_95 : cd_D 1 b_A_presses 95 .ireturn 96 := ⟨by decide +kernel, rfl⟩
theorem d_A_presses_96 : cd_D_iload b_A_presses 96 3 97 := Or.inr ⟨3, ⟨by decide +kernel, rfl⟩, rfl⟩
theorem d_A_presses_97 : cd_D 1 b_A_presses 97 .ireturn 98 := ⟨by decide +kernel, rfl⟩
theorem d_A_presses_98 : cd_D_iload b_A_presses 98 3 99 := Or.inr ⟨3, ⟨by decide +kernel, rfl⟩, rfl⟩
theorem d_A_presses_99 : cd_Dk b_A_presses 99 (nI 30) 101 := Or.inr (Or.inl ⟨30, ⟨by decide +kernel, rfl⟩, by decide +kernel⟩)
theorem d_A_presses_101 : cd_D 1 b_A_presses 101 .iadd 102 := ⟨by decide +kernel, rfl⟩
theorem d_A_presses_102 : cd_D 1 b_A_presses 102 .ireturn 103 := ⟨by decide +kernel, rfl⟩
theorem d_A_presses_103 : cd_D_iload b_A_presses 103 2 104 := Or.inr ⟨2, ⟨by decide +kernel, rfl⟩, rfl⟩
theorem d_A_presses_104 : cd_Dk b_A_presses 104 (nI 5) 105 := Or.inl ⟨5, ⟨by decide +kernel, rfl⟩, by decide +kernel⟩
theorem d_A_presses_105 : cd_D 1 b_A_presses 105 .iadd 106 := ⟨by decide +kernel, rfl⟩
theorem d_A_presses_106 : cd_D 1 b_A_presses 106 .ireturn 107 := ⟨by decide +kernel, rfl⟩
theorem d_A_presses_107 : cd_D_iload b_A_presses 107 2 108 := Or.inr ⟨2, ⟨by decide +kernel, rfl⟩, rfl⟩
theorem d_A_presses_108 : cd_D 1 b_A_presses 108 .ireturn 109 := ⟨by decide +kernel, rfl⟩
theorem c_A_presses {l : Launch} {w : cd_WT} {S : cd_Sp} {I : cd_Mem} {h mm tc : Nat} {N : Nat → Int32} (hG : cd_HG w S I h N mm tc) {i : Nat} (hi : i < mm) : cd_C l w m_A_presses 3 0 0 [.ref (h + 6 + i), .ref h] S I (cd_Pi S (fun x I' => x = cd_pr N i tc ∧ cd_HG w S I' h N mm tc ∧ cd_ofh w h I I')) := by
  refine cd_intro (by decide) (by simp [Value.category]) (Nat.le_of_ble_eq_true rfl) ?_
  intro X hO hE
  show cd_J w X 0 0 S I 0 [some (.ref (h + 6 + i)), some (.ref h), none, none] []
  obtain ⟨hH, hhd, hV, hIV, hR⟩ := id hG
  have hmm := hV.2.1
  have h9 := hIV.2.2.2.2.2
  refine r_aload hO d_A_presses_0 rfl ?_
  refine r_aload hO d_A_presses_1 rfl ?_
  refine r_cV1i hO hE (c_H_plainPress hG hi) mf_H_plainPress lk_A_31 hH.2.1 rfl (by decide) rfl (Nat.le_of_ble_eq_true rfl) d_A_presses_2 (Nat.zero_le _) (Nat.zero_le _) ?_
  rintro x I2 ⟨hx, hG2, ho2⟩
  have hR2 := hG2.2.2.2.2
  have w8 : I2 (h + 1) 5 = N 8 := hR2.at 8 (by omega) rfl rfl
  have w9 : I2 (h + 1) 6 = N 9 := hR2.at 9 (by omega) rfl rfl
  have k0 : I2 (h + 6 + i) 0 = N (16 + 5 * i + 0) := hR2.ask hi 0 (by decide)
  obtain ⟨p, hp, ep⟩ := cd_pl_ex (tc := tc) hIV hi
  subst hx
  refine r_sI2 hO d_A_presses_5 rfl ?_
  refine r_aload hO d_A_presses_6 rfl ?_
  refine r_getR hO f_A_37 rfl hH.2.1 hH.2.2.1.1 d_A_presses_7 ?_
  refine r_k hO d_A_presses_10 ?_
  refine r_iald hO hH.2.2.1.2 (by omega) (by decide) d_A_presses_11 ?_
  rw [w8]
  refine r_k hO d_A_presses_12 ?_
  refine r_jn2 (pcJ := 28) (fun v => v = cd_pw N (cd_pl N i tc)) (fun v_13 hv_13 => ?_) (fun hj_13 => ?_)
  · subst hv_13
    refine r_sI3 hO d_A_presses_28 rfl ?_
    refine r_aload hO d_A_presses_29 rfl ?_
    refine r_getI hO f_A_9 rfl (hH.2.2.2.2.2.2.2 _ (by omega)).2 d_A_presses_30 ?_
    rw [k0]
    by_cases c_33_1 : N (16 + 5 * i + 0) = nI 1
    · refine r_tabE hO d_A_presses_33 c_33_1 (off := 35) (by decide) (by decide) (by decide) (tgt := 68) (by decide) ?_
      refine r_iload hO d_A_presses_68 rfl ?_
      refine r_k hO d_A_presses_69 ?_
      refine r_idiv hO d_A_presses_70 (by decide) ?_
      refine r_iret hO hE (Nat.zero_le _) (Nat.zero_le _) d_A_presses_71 ?_
      exact ⟨_, rfl, rfl, by unfold cd_pr; rw [if_pos c_33_1], hG2, ho2⟩
    by_cases c_33_2 : N (16 + 5 * i + 0) = nI 2
    · refine r_tabE hO d_A_presses_33 c_33_2 (off := 63) (by decide) (by decide) (by decide) (tgt := 96) (by decide) ?_
      refine r_iload hO d_A_presses_96 rfl ?_
      refine r_iret hO hE (Nat.zero_le _) (Nat.zero_le _) d_A_presses_97 ?_
      exact ⟨_, rfl, rfl, by unfold cd_pr; rw [if_neg c_33_1, if_pos c_33_2], hG2, ho2⟩
    by_cases c_33_3 : N (16 + 5 * i + 0) = nI 3
    · refine r_tabE hO d_A_presses_33 c_33_3 (off := 39) (by decide) (by decide) (by decide) (tgt := 72) (by decide) ?_
      refine r_aload hO d_A_presses_72 rfl ?_
      refine r_getR hO f_A_37 rfl hH.2.1 hH.2.2.1.1 d_A_presses_73 ?_
      refine r_k hO d_A_presses_76 ?_
      refine r_iald hO hH.2.2.1.2 (by omega) (by decide) d_A_presses_78 ?_
      rw [w9]
      refine r_k hO d_A_presses_79 ?_
      refine r_icmp_ne hO d_A_presses_80 (fun c_80 => ?_) (fun c_80 => ?_)
      · refine r_iload hO d_A_presses_92 rfl ?_
        refine r_k hO d_A_presses_93 ?_
        refine r_idiv hO d_A_presses_94 (by decide) ?_
        refine r_iret hO hE (Nat.zero_le _) (Nat.zero_le _) d_A_presses_95 ?_
        exact ⟨_, rfl, rfl, by unfold cd_pr; rw [if_neg c_33_1, if_neg c_33_2, if_pos c_33_3]; rw [h9.resolve_right c_80, Int32.mul_zero, Int32.add_zero], hG2, ho2⟩
      · refine r_iload hO d_A_presses_83 rfl ?_
        refine r_k hO d_A_presses_84 ?_
        refine r_idiv hO d_A_presses_85 (by decide) ?_
        refine r_k hO d_A_presses_86 ?_
        refine r_iadd hO d_A_presses_88 ?_
        refine r_goto hO d_A_presses_89 ?_
        refine r_iret hO hE (Nat.zero_le _) (Nat.zero_le _) d_A_presses_95 ?_
        exact ⟨_, rfl, rfl, by unfold cd_pr; rw [if_neg c_33_1, if_neg c_33_2, if_pos c_33_3]; rw [show N 9 = nI 1 from c_80]; rfl, hG2, ho2⟩
    by_cases c_33_4 : N (16 + 5 * i + 0) = nI 4
    · refine r_tabE hO d_A_presses_33 c_33_4 (off := 65) (by decide) (by decide) (by decide) (tgt := 98) (by decide) ?_
      refine r_iload hO d_A_presses_98 rfl ?_
      refine r_k hO d_A_presses_99 ?_
      refine r_iadd hO d_A_presses_101 ?_
      refine r_iret hO hE (Nat.zero_le _) (Nat.zero_le _) d_A_presses_102 ?_
      exact ⟨_, rfl, rfl, by unfold cd_pr; rw [if_neg c_33_1, if_neg c_33_2, if_neg c_33_3, if_pos c_33_4], hG2, ho2⟩
    by_cases c_33_5 : N (16 + 5 * i + 0) = nI 5
    · refine r_tabE hO d_A_presses_33 c_33_5 (off := 70) (by decide) (by decide) (by decide) (tgt := 103) (by decide) ?_
      refine r_iload hO d_A_presses_103 rfl ?_
      refine r_k hO d_A_presses_104 ?_
      refine r_iadd hO d_A_presses_105 ?_
      refine r_iret hO hE (Nat.zero_le _) (Nat.zero_le _) d_A_presses_106 ?_
      exact ⟨_, rfl, rfl, by unfold cd_pr; rw [if_neg c_33_1, if_neg c_33_2, if_neg c_33_3, if_neg c_33_4, if_pos c_33_5], hG2, ho2⟩
    refine r_tabN hO d_A_presses_33 (by decide) (fun j hj => ?_) (tgt := 107) (by decide) ?_
    · have hj2 : j < 5 := hj
      rcases (show j = 0 ∨ j = 1 ∨ j = 2 ∨ j = 3 ∨ j = 4 by omega) with rfl | rfl | rfl | rfl | rfl
      · exact Or.inl (fun e => c_33_1 (e.trans (by decide)))
      · exact Or.inl (fun e => c_33_2 (e.trans (by decide)))
      · exact Or.inl (fun e => c_33_3 (e.trans (by decide)))
      · exact Or.inl (fun e => c_33_4 (e.trans (by decide)))
      · exact Or.inl (fun e => c_33_5 (e.trans (by decide)))
    refine r_iload hO d_A_presses_107 rfl ?_
    refine r_iret hO hE (Nat.zero_le _) (Nat.zero_le _) d_A_presses_108 ?_
    exact ⟨_, rfl, rfl, by unfold cd_pr; rw [if_neg c_33_1, if_neg c_33_2, if_neg c_33_3, if_neg c_33_4, if_neg c_33_5], hG2, ho2⟩
  · refine r_icmp_ne hO d_A_presses_13 (fun c_13 => ?_) (fun c_13 => ?_)
    · refine r_iload hO d_A_presses_27 rfl ?_
      exact hj_13 _ (by unfold cd_pw; rw [if_neg c_13, ep, cd_wi_nI (by omega) (by decide), Nat.min_eq_left hp])
    · refine r_k hO d_A_presses_16 ?_
      refine r_iload hO d_A_presses_17 rfl ?_
      refine r_k hO d_A_presses_18 ?_
      refine r_isub hO d_A_presses_20 ?_
      refine r_mmax hO hE lk_A_40 cd_mmax (by omega) rfl (Nat.le_of_ble_eq_true rfl) (Nat.zero_le _) (Nat.zero_le _) d_A_presses_21 ?_
      refine r_goto hO d_A_presses_24 ?_
      exact hj_13 _ (by unfold cd_pw; rw [if_pos c_13, ep]; exact cd_mx_20 hp)
theorem d_H_hears_0 : cd_D_aload b_H_hears 0 0 1 := Or.inr ⟨0, ⟨by decide +kernel, rfl⟩, rfl⟩
theorem d_H_hears_1 : cd_D 3 b_H_hears 1 (.getfield 9) 4 := ⟨by decide +kernel, rfl⟩
theorem d_H_hears_4 : cd_Dk b_H_hears 4 (nI 3) 5 := Or.inl ⟨3, ⟨by decide +kernel, rfl⟩, by decide +kernel⟩
theorem d_H_hears_5 : cd_D 1 b_H_hears 5 .iaload 6 := ⟨by decide +kernel, rfl⟩
theorem d_H_hears_6 : cd_Dk b_H_hears 6 (nI 1) 7 := Or.inl ⟨1, ⟨by decide +kernel, rfl⟩, by decide +kernel⟩
theorem d_H_hears_7 : cd_D_icmp_ne b_H_hears 7 19 10 := ⟨12, by decide +kernel, by decide, rfl⟩
theorem d_H_hears_10 : cd_D_aload b_H_hears 10 0 11 := Or.inr ⟨0, ⟨by decide +kernel, rfl⟩, rfl⟩
theorem d_H_hears_11 : cd_D_aload b_H_hears 11 1 12 := Or.inr ⟨1, ⟨by decide +kernel, rfl⟩, rfl⟩
theorem d_H_hears_12 : cd_D 3 b_H_hears 12 (.invokevirtual 105) 15 := ⟨by decide +kernel, rfl⟩
theorem d_H_hears_15 : cd_D 1 b_H_hears 15 .pop 16 := ⟨by decide +kernel, rfl⟩
theorem d_H_hears_16 : cd_D_goto b_H_hears 16 63 := ⟨47, by decide +kernel, by decide⟩
theorem d_H_hears_19 : cd_D_aload b_H_hears 19 1 20 := Or.inr ⟨1, ⟨by decide +kernel, rfl⟩, rfl⟩
theorem d_H_hears_20 : cd_D_aload b_H_hears 20 0 21 := Or.inr ⟨0, ⟨by decide +kernel, rfl⟩, rfl⟩
theorem d_H_hears_21 : cd_D 3 b_H_hears 21 (.invokevirtual 108) 24 := ⟨by decide +kernel, rfl⟩
theorem d_H_hears_24 : cd_D_aload b_H_hears 24 0 25 := Or.inr ⟨0, ⟨by decide +kernel, rfl⟩, rfl⟩
theorem d_H_hears_25 : cd_D 3 b_H_hears 25 (.getfield 9) 28 := ⟨by decide +kernel, rfl⟩
theorem d_H_hears_28 : cd_Dk b_H_hears 28 (nI 0) 29 := Or.inl ⟨0, ⟨by decide +kernel, rfl⟩, by decide +kernel⟩
theorem d_H_hears_29 : cd_D 1 b_H_hears 29 .iaload 30 := ⟨by decide +kernel, rfl⟩
theorem d_H_hears_30 : cd_D_icmp_le b_H_hears 30 42 33 := ⟨12, by decide +kernel, by decide, rfl⟩
theorem d_H_hears_33 : cd_D_aload b_H_hears 33 0 34 := Or.inr ⟨0, ⟨by decide +kernel, rfl⟩, rfl⟩
theorem d_H_hears_34 : cd_D_aload b_H_hears 34 1 35 := Or.inr ⟨1, ⟨by decide +kernel, rfl⟩, rfl⟩
theorem d_H_hears_35 : cd_D 3 b_H_hears 35 (.invokevirtual 112) 38 := ⟨by decide +kernel, rfl⟩
theorem d_H_hears_38 : cd_D 1 b_H_hears 38 .pop 39 := ⟨by decide +kernel, rfl⟩
theorem d_H_hears_39 : cd_D_goto b_H_hears 39 63 := ⟨24, by decide +kernel, by decide⟩
theorem d_H_hears_42 : cd_D_aload b_H_hears 42 0 43 := Or.inr ⟨0, ⟨by decide +kernel, rfl⟩, rfl⟩
theorem d_H_hears_43 : cd_D 3 b_H_hears 43 (.getfield 15) 46 := ⟨by decide +kernel, rfl⟩
theorem d_H_hears_46 : cd_Dk b_H_hears 46 (nI 1) 47 := Or.inl ⟨1, ⟨by decide +kernel, rfl⟩, by decide +kernel⟩
theorem d_H_hears_47 : cd_D 1 b_H_hears 47 .dup2 48 := ⟨by decide +kernel, rfl⟩
theorem d_H_hears_48 : cd_D 1 b_H_hears 48 .iaload 49 := ⟨by decide +kernel, rfl⟩
theorem d_H_hears_49 : cd_D 3 b_H_hears 49 (.getstatic 115) 52 := ⟨by decide +kernel, rfl⟩
theorem d_H_hears_52 : cd_D_aload b_H_hears 52 1 53 := Or.inr ⟨1, ⟨by decide +kernel, rfl⟩, rfl⟩
theorem d_H_hears_53 : cd_D 3 b_H_hears 53 (.getfield 58) 56 := ⟨by decide +kernel, rfl⟩
theorem d_H_hears_56 : cd_D 1 b_H_hears 56 .iaload 57 := ⟨by decide +kernel, rfl⟩
theorem d_H_hears_57 : cd_D 1 b_H_hears 57 .iadd 58 := ⟨by decide +kernel, rfl⟩
theorem d_H_hears_58 : cd_D 1 b_H_hears 58 .iastore 59 := ⟨by decide +kernel, rfl⟩
theorem d_H_hears_59 : cd_D_aload b_H_hears 59 1 60 := Or.inr ⟨1, ⟨by decide +kernel, rfl⟩, rfl⟩
theorem d_H_hears_60 : cd_D 3 b_H_hears 60 (.invokevirtual 118) 63 := ⟨by decide +kernel, rfl⟩
theorem d_H_hears_63 : cd_D 1 b_H_hears 63 .return_ 64 := ⟨by decide +kernel, rfl⟩
theorem c_H_hears {l : Launch} {w : cd_WT} {S : cd_Sp} {I : cd_Mem} {h mm tc : Nat} {N : Nat → Int32} (hG : cd_HG w S I h N mm tc) {i : Nat} (hi : i < mm) : cd_C l w m_H_hears 4 0 0 [.ref h, .ref (h + 6 + i)] S I (cd_Pv S (fun I' => cd_HG w S I' h (cd_ak N i tc) mm tc ∧ cd_ofh w h I I')) := by
  refine cd_intro (by decide) (by simp [Value.category]) (Nat.le_of_ble_eq_true rfl) ?_
  intro X hO hE
  show cd_J w X 0 0 S I 0 [some (.ref h), some (.ref (h + 6 + i))] []
  obtain ⟨hH, hhd, hV, hIV, hR⟩ := id hG
  have hmm := hV.2.1
  obtain ⟨kd, hk5, hkd⟩ := (hIV.1 i hi).1
  have w6 : I (h + 1) 3 = N 6 := hR.at 6 (by omega) rfl rfl
  refine r_aload hO d_H_hears_0 rfl ?_
  refine r_getR hO f_H_9 rfl hH.2.1 hH.2.2.1.1 d_H_hears_1 ?_
  refine r_k hO d_H_hears_4 ?_
  refine r_iald hO hH.2.2.1.2 (by omega) (by decide) d_H_hears_5 ?_
  rw [w6]
  refine r_k hO d_H_hears_6 ?_
  refine r_icmp_ne hO d_H_hears_7 (fun c_7 => ?_) (fun c_7 => ?_)
  · refine r_aload hO d_H_hears_19 rfl ?_
    refine r_aload hO d_H_hears_20 rfl ?_
    refine r_cV1i hO hE (c_A_presses hG hi) mf_A_presses lk_H_108 (hH.2.2.2.2.2.2.2 _ (by omega)).2 rfl (by decide) rfl (Nat.le_of_ble_eq_true rfl) d_H_hears_21 (Nat.zero_le _) (Nat.zero_le _) ?_
    rintro x I2 ⟨hx, hG2, ho2⟩
    have hR2 := hG2.2.2.2.2
    have w3 : I2 (h + 1) 0 = N 3 := hR2.at 3 (by omega) rfl rfl
    have e11 : I2 (h + 2) 1 = N 11 := hR2.at 11 (by omega) rfl rfl
    have ek : I2 (h + 6 + i) 0 = nI kd := (hR2.ask hi 0 (by decide)).trans hkd
    subst hx
    refine r_aload hO d_H_hears_24 rfl ?_
    refine r_getR hO f_H_9 rfl hH.2.1 hH.2.2.1.1 d_H_hears_25 ?_
    refine r_k hO d_H_hears_28 ?_
    refine r_iald hO hH.2.2.1.2 (by omega) (by decide) d_H_hears_29 ?_
    rw [w3]
    refine r_icmp_le hO d_H_hears_30 (fun c_30 => ?_) (fun c_30 => ?_)
    · refine r_aload hO d_H_hears_42 rfl ?_
      refine r_getR hO f_H_15 rfl hH.2.1 hH.2.2.2.1.1 d_H_hears_43 ?_
      refine r_k hO d_H_hears_46 ?_
      refine r_dup2 hO d_H_hears_47 rfl rfl ?_
      refine r_iald hO hH.2.2.2.1.2 (by omega) (by decide) d_H_hears_48 ?_
      rw [e11]
      refine r_getsN (host := "CatDoors") hO 3 (by decide) (by decide) d_H_hears_49 ?_
      refine r_aload hO d_H_hears_52 rfl ?_
      refine r_getI hO f_H_58 rfl (hH.2.2.2.2.2.2.2 _ (by omega)).2 d_H_hears_53 ?_
      refine r_tops (show _ = nI kd from ek) ?_
      refine r_stald hO (i := 3) (by decide) (show _ < 6 by omega) d_H_hears_56 ?_
      rw [(cd_lea_sv hk5).2.2, ← hkd]
      refine r_iadd hO d_H_hears_57 ?_
      refine r_iast hO hH.2.2.2.1.2 (Nat.le_trans hH.1 (Nat.le_add_right _ _)) (by omega) (by decide) d_H_hears_58 ?_
      have hG3 := cd_HG_w hG2 11 (by decide) (by decide) (by decide) (a := h + 2) (k := 1) rfl rfl (N 11 + cd_scr (N (16 + 5 * i + 0))) (cd_IV_upd hIV (by omega))
      refine r_aload hO d_H_hears_59 rfl ?_
      refine r_cV0fv hO hE (c_A_fails (hH.2.2.2.2.2.2.2 _ (by omega)).2 (Nat.le_trans hH.1 (by omega)) kd (by rw [cd_set_ne _ _ (by omega)]; exact ek) hk5) mf_A_fails lk_H_118 (hH.2.2.2.2.2.2.2 _ (by omega)).2 rfl (by decide) rfl (Nat.le_of_ble_eq_true rfl) d_H_hears_60 (Nat.zero_le _) (Nat.zero_le _) ?_
      refine r_vret hO hE (Nat.zero_le _) (Nat.zero_le _) d_H_hears_63 ?_
      exact ⟨rfl, rfl, by unfold cd_ak; rw [if_neg c_7, if_pos c_30]; exact cd_HG_fa hG3 hi (kd := kd) ((if_neg (by omega)).trans hkd) hk5, ho2.tr ((cd_ofh.set _ _ (cd_wr_in (by omega) (by omega))).tr (cd_ofh.set _ _ (cd_wr_in (by omega) (by omega))))⟩
    · refine r_aload hO d_H_hears_33 rfl ?_
      refine r_aload hO d_H_hears_34 rfl ?_
      refine r_cV1i hO hE (c_H_getsUp hG2 hi) mf_H_getsUp lk_H_112 hH.2.1 rfl (by decide) rfl (Nat.le_of_ble_eq_true rfl) d_H_hears_35 (Nat.zero_le _) (Nat.zero_le _) ?_
      rintro x I3 ⟨hx, hG3, ho3⟩
      refine r_pop hO d_H_hears_38 rfl ?_
      refine r_goto hO d_H_hears_39 ?_
      refine r_vret hO hE (Nat.zero_le _) (Nat.zero_le _) d_H_hears_63 ?_
      exact ⟨rfl, rfl, by unfold cd_ak; rw [if_neg c_7, if_neg c_30]; exact hG3, ho2.tr ho3⟩
  · refine r_aload hO d_H_hears_10 rfl ?_
    refine r_aload hO d_H_hears_11 rfl ?_
    refine r_cV1i hO hE (c_H_goesIfMeant hG hi) mf_H_goesIfMeant lk_H_105 hH.2.1 rfl (by decide) rfl (Nat.le_of_ble_eq_true rfl) d_H_hears_12 (Nat.zero_le _) (Nat.zero_le _) ?_
    rintro x I2 ⟨hx, hG2, ho2⟩
    refine r_pop hO d_H_hears_15 rfl ?_
    refine r_goto hO d_H_hears_16 ?_
    refine r_vret hO hE (Nat.zero_le _) (Nat.zero_le _) d_H_hears_63 ?_
    exact ⟨rfl, rfl, by unfold cd_ak; rw [if_pos c_7]; exact hG2, ho2⟩
