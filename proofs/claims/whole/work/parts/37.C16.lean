theorem cd_bh_ok {N : Nat → Int32} {mm tc j : Nat} (hV : cd_V N mm tc) {n : Int32} (hn : nI 0 ≤ n ∧ n ≤ nI 100) (hj : j < 3 + mm) : sp_behind N mm tc n (nI j) = cd_bh (cd_hs N mm tc (cd_tn n)) (nI j) := by
  have hmm := hV.2.1
  unfold sp_behind
  rw [if_pos hn, if_neg (nI_pos (by omega))]
  by_cases h2 : j ≤ 2
  · rw [if_pos (nI_le h2 (by decide))]
  · rw [if_neg (nI_ge (by omega) (by omega)), pk_sub (by omega), if_pos (cd_isA_nI hV.1 hmm (by omega))]
theorem cd_bh_no {N : Nat → Int32} {mm tc : Nat} (hV : cd_V N mm tc) {n z : Int32} (h : n < 0 ∨ nI 100 < n ∨ z < 0 ∨ ¬ z < nI (3 + mm)) : sp_behind N mm tc n z = cd_BAD := by
  have hmm := hV.2.1
  have e0 : (nI 0).toInt = 0 := rfl
  have e00 : (0 : Int32).toInt = 0 := rfl
  unfold sp_behind
  by_cases hn : nI 0 ≤ n ∧ n ≤ nI 100
  · rw [if_pos hn]
    by_cases hz : z < 0
    · rw [if_pos hz]
    · rw [if_neg hz]
      have h3 : ¬ z < nI (3 + mm) := by
        rcases h with h | h | h | h
        · exfalso
          simp only [Int32.lt_iff_toInt_lt, Int32.le_iff_toInt_le] at *
          omega
        · exfalso
          simp only [Int32.lt_iff_toInt_lt, Int32.le_iff_toInt_le] at *
          omega
        · exact absurd h hz
        · exact h
      obtain ⟨j, hj, rfl⟩ := nI_of hz
      have hj3 : 3 + mm ≤ j := by
        rcases Nat.lt_or_ge j (3 + mm) with q | q
        · exact absurd (nI_lt q (by omega)) h3
        · exact q
      rw [if_neg (nI_ge (by omega) (by omega)), pk_sub (by omega), if_neg]
      intro q
      obtain ⟨i, hi, e⟩ := cd_isA_ex hV.1 hmm q
      have := (nI_eq (by omega) (by omega)).mp e
      omega
  · rw [if_neg hn]
theorem cd_lt_ex {z : Int32} {n : Nat} (h0 : ¬ z < 0) (h : z < nI n) (hn : n < 2 ^ 31) : ∃ j, j < n ∧ z = nI j := by
  obtain ⟨j, hj, rfl⟩ := nI_of h0
  refine ⟨j, ?_, rfl⟩
  rcases Nat.lt_or_ge j n with q | q
  · exact q
  · exact absurd h (nI_nlt q hj)
theorem d_C_behind_0 : cd_D_iload b_C_behind 0 1 1 := Or.inr ⟨1, ⟨by decide +kernel, rfl⟩, rfl⟩
theorem d_C_behind_1 : cd_D_if_lt b_C_behind 1 27 4 := ⟨26, by decide +kernel, by decide, rfl⟩
theorem d_C_behind_4 : cd_D_iload b_C_behind 4 1 5 := Or.inr ⟨1, ⟨by decide +kernel, rfl⟩, rfl⟩
theorem d_C_behind_5 : cd_Dk b_C_behind 5 (nI 100) 7 := Or.inr (Or.inl ⟨100, ⟨by decide +kernel, rfl⟩, by decide +kernel⟩)
theorem d_C_behind_7 : cd_D_icmp_gt b_C_behind 7 27 10 := ⟨20, by decide +kernel, by decide, rfl⟩
theorem d_C_behind_10 : cd_D_iload b_C_behind 10 2 11 := Or.inr ⟨2, ⟨by decide +kernel, rfl⟩, rfl⟩
theorem d_C_behind_11 : cd_D_if_lt b_C_behind 11 27 14 := ⟨16, by decide +kernel, by decide, rfl⟩
theorem d_C_behind_14 : cd_D_iload b_C_behind 14 2 15 := Or.inr ⟨2, ⟨by decide +kernel, rfl⟩, rfl⟩
theorem d_C_behind_15 : cd_Dk b_C_behind 15 (nI 3) 16 := Or.inl ⟨3, ⟨by decide +kernel, rfl⟩, by decide +kernel⟩
theorem d_C_behind_16 : cd_D_aload b_C_behind 16 0 17 := Or.inr ⟨0, ⟨by decide +kernel, rfl⟩, rfl⟩
theorem d_C_behind_17 : cd_D 3 b_C_behind 17 (.getfield 10) 20 := ⟨by decide +kernel, rfl⟩
theorem d_C_behind_20 : cd_D 3 b_C_behind 20 (.getfield 63) 23 := ⟨by decide +kernel, rfl⟩
theorem d_C_behind_23 : cd_D 1 b_C_behind 23 .iadd 24 := ⟨by decide +kernel, rfl⟩
theorem d_C_behind_24 : cd_D_icmp_lt b_C_behind 24 30 27 := ⟨6, by decide +kernel, by decide, rfl⟩
theorem d_C_behind_27 : cd_D 2 b_C_behind 27 (.ldc 62) 29 := ⟨by decide +kernel, rfl⟩
theorem d_C_behind_29 : cd_D 1 b_C_behind 29 .ireturn 30 := ⟨by decide +kernel, rfl⟩
theorem d_C_behind_30 : cd_D_aload b_C_behind 30 0 31 := Or.inr ⟨0, ⟨by decide +kernel, rfl⟩, rfl⟩
theorem d_C_behind_31 : cd_D 3 b_C_behind 31 (.getfield 16) 34 := ⟨by decide +kernel, rfl⟩
theorem d_C_behind_34 : cd_D_aload b_C_behind 34 0 35 := Or.inr ⟨0, ⟨by decide +kernel, rfl⟩, rfl⟩
theorem d_C_behind_35 : cd_D 3 b_C_behind 35 (.getfield 10) 38 := ⟨by decide +kernel, rfl⟩
theorem d_C_behind_38 : cd_D 3 b_C_behind 38 (.invokevirtual 156) 41 := ⟨by decide +kernel, rfl⟩
theorem d_C_behind_41 : cd_D_aload b_C_behind 41 0 42 := Or.inr ⟨0, ⟨by decide +kernel, rfl⟩, rfl⟩
theorem d_C_behind_42 : cd_D 3 b_C_behind 42 (.getfield 16) 45 := ⟨by decide +kernel, rfl⟩
theorem d_C_behind_45 : cd_D_iload b_C_behind 45 1 46 := Or.inr ⟨1, ⟨by decide +kernel, rfl⟩, rfl⟩
theorem d_C_behind_46 : cd_D 3 b_C_behind 46 (.invokevirtual 146) 49 := ⟨by decide +kernel, rfl⟩
theorem d_C_behind_49 : cd_D_iload b_C_behind 49 2 50 := Or.inr ⟨2, ⟨by decide +kernel, rfl⟩, rfl⟩
theorem d_C_behind_50 : decode b_C_behind 50 = .ok (.tableswitch (56) (0) (2) #[26, 36, 46], 26) := by decide +kernel
theorem d_C_behind_76 : cd_D_aload b_C_behind 76 0 77 := Or.inr ⟨0, ⟨by decide +kernel, rfl⟩, rfl⟩
theorem d_C_behind_77 : cd_D 3 b_C_behind 77 (.getfield 16) 80 := ⟨by decide +kernel, rfl⟩
theorem d_C_behind_80 : cd_D 3 b_C_behind 80 (.getfield 142) 83 := ⟨by decide +kernel, rfl⟩
theorem d_C_behind_83 : cd_Dk b_C_behind 83 (nI 0) 84 := Or.inl ⟨0, ⟨by decide +kernel, rfl⟩, by decide +kernel⟩
theorem d_C_behind_84 : cd_D 1 b_C_behind 84 .iaload 85 := ⟨by decide +kernel, rfl⟩
theorem d_C_behind_85 : cd_D 1 b_C_behind 85 .ireturn 86 := ⟨by decide +kernel, rfl⟩
theorem d_C_behind_86 : cd_D_aload b_C_behind 86 0 87 := Or.inr ⟨0, ⟨by decide +kernel, rfl⟩, rfl⟩
theorem d_C_behind_87 : cd_D 3 b_C_behind 87 (.getfield 16) 90 := ⟨by decide +kernel, rfl⟩
theorem d_C_behind_90 : cd_D 3 b_C_behind 90 (.getfield 142) 93 := ⟨by decide +kernel, rfl⟩
theorem d_C_behind_93 : cd_Dk b_C_behind 93 (nI 1) 94 := Or.inl ⟨1, ⟨by decide +kernel, rfl⟩, by decide +kernel⟩
theorem d_C_behind_94 : cd_D 1 b_C_behind 94 .iaload 95 := ⟨by decide +kernel, rfl⟩
theorem d_C_behind_95 : cd_D 1 b_C_behind 95 .ireturn 96 := ⟨by decide +kernel, rfl⟩
theorem d_C_behind_96 : cd_D_aload b_C_behind 96 0 97 := Or.inr ⟨0, ⟨by decide +kernel, rfl⟩, rfl⟩
theorem d_C_behind_97 : cd_D 3 b_C_behind 97 (.getfield 16) 100 := ⟨by decide +kernel, rfl⟩
theorem d_C_behind_100 : cd_D 3 b_C_behind 100 (.getfield 123) 103 := ⟨by decide +kernel, rfl⟩
theorem d_C_behind_103 : cd_Dk b_C_behind 103 (nI 4) 104 := Or.inl ⟨4, ⟨by decide +kernel, rfl⟩, by decide +kernel⟩
theorem d_C_behind_104 : cd_D 1 b_C_behind 104 .iaload 105 := ⟨by decide +kernel, rfl⟩
theorem d_C_behind_105 : cd_D 1 b_C_behind 105 .ireturn 106 := ⟨by decide +kernel, rfl⟩
theorem d_C_behind_106 : cd_D_aload b_C_behind 106 0 107 := Or.inr ⟨0, ⟨by decide +kernel, rfl⟩, rfl⟩
theorem d_C_behind_107 : cd_D 3 b_C_behind 107 (.getfield 16) 110 := ⟨by decide +kernel, rfl⟩
theorem d_C_behind_110 : cd_D 3 b_C_behind 110 (.getfield 75) 113 := ⟨by decide +kernel, rfl⟩
theorem d_C_behind_113 : cd_D_iload b_C_behind 113 2 114 := Or.inr ⟨2, ⟨by decide +kernel, rfl⟩, rfl⟩
theorem d_C_behind_114 : cd_Dk b_C_behind 114 (nI 3) 115 := Or.inl ⟨3, ⟨by decide +kernel, rfl⟩, by decide +kernel⟩
theorem d_C_behind_115 : cd_D 1 b_C_behind 115 .isub 116 := ⟨by decide +kernel, rfl⟩
theorem d_C_behind_116 : cd_D 1 b_C_behind 116 .aaload 117 := ⟨by decide +kernel, rfl⟩
theorem d_C_behind_117 : cd_D 3 b_C_behind 117 (.getfield 87) 120 := ⟨by decide +kernel, rfl⟩
theorem d_C_behind_120 : cd_D 1 b_C_behind 120 .ireturn 121 := ⟨by decide +kernel, rfl⟩
theorem c_C_behind {l : Launch} {w : cd_WT} {S : cd_Sp} {I : cd_Mem} (hC : cd_CD w S) {mm tc : Nat} {N : Nat → Int32} (hG : cd_HG w S I (w.1 + 1) N mm tc) (n z : Int32) : cd_C l w m_C_behind 6 0 0 [.ref w.1, .int n, .int z] S I (cd_Pth w S I (sp_behind N mm tc n z)) := by
  refine cd_intro (by decide) (by simp [Value.category]) (Nat.le_of_ble_eq_true rfl) ?_
  intro X hO hE
  show cd_J w X 0 0 S I 0 [some (.ref w.1), some (.int n), some (.int z)] []
  obtain ⟨hH, hhd, hV, hIV, hR⟩ := id hG
  have hmm := hV.2.1
  have hm1 : I (w.1 + 1) 3 = nI mm := (hR.at 1 (by omega) rfl rfl).trans hV.1
  refine r_iload hO d_C_behind_0 rfl ?_
  refine r_if_lt hO d_C_behind_1 (fun c_1 => ?_) (fun c_1 => ?_)
  · refine r_ldc hO k_C_62 d_C_behind_27 ?_
    refine r_iret hO hE (Nat.zero_le _) (Nat.zero_le _) d_C_behind_29 ?_
    exact ⟨by rw [cd_bh_no hV (Or.inl c_1)], cd_TH.rf _ _ _⟩
  · refine r_iload hO d_C_behind_4 rfl ?_
    refine r_k hO d_C_behind_5 ?_
    refine r_icmp_gt hO d_C_behind_7 (fun c_7 => ?_) (fun c_7 => ?_)
    · refine r_ldc hO k_C_62 d_C_behind_27 ?_
      refine r_iret hO hE (Nat.zero_le _) (Nat.zero_le _) d_C_behind_29 ?_
      exact ⟨by rw [cd_bh_no hV (Or.inr (Or.inl c_7))], cd_TH.rf _ _ _⟩
    · refine r_iload hO d_C_behind_10 rfl ?_
      refine r_if_lt hO d_C_behind_11 (fun c_11 => ?_) (fun c_11 => ?_)
      · refine r_ldc hO k_C_62 d_C_behind_27 ?_
        refine r_iret hO hE (Nat.zero_le _) (Nat.zero_le _) d_C_behind_29 ?_
        exact ⟨by rw [cd_bh_no hV (Or.inr (Or.inr (Or.inl c_11)))], cd_TH.rf _ _ _⟩
      · refine r_iload hO d_C_behind_14 rfl ?_
        refine r_k hO d_C_behind_15 ?_
        refine r_aload hO d_C_behind_16 rfl ?_
        refine r_getR hO f_C_10 rfl hC.1 hC.2.1 d_C_behind_17 ?_
        refine r_getI hO f_C_63 rfl hH.2.1 d_C_behind_20 ?_
        refine r_tops hm1 ?_
        refine r_iaddN hO d_C_behind_23 ?_
        refine r_icmp_lt hO d_C_behind_24 (fun c_24 => ?_) (fun c_24 => ?_)
        · obtain ⟨j, hj, rfl⟩ := cd_lt_ex c_11 c_24 (by omega)
          have hn100 : nI 0 ≤ n ∧ n ≤ nI 100 := ⟨cd_le0 c_1, (by simp only [Int32.lt_iff_toInt_lt, Int32.le_iff_toInt_le] at *; omega)⟩
          obtain ⟨q, -, hq, rfl⟩ := cd_in_ex hn100 (by decide) (by decide)
          refine r_aload hO d_C_behind_30 rfl ?_
          refine r_getR hO f_C_16 rfl hC.1 hC.2.2.1 d_C_behind_31 ?_
          refine r_aload hO d_C_behind_34 rfl ?_
          refine r_getR hO f_C_10 rfl hC.1 hC.2.1 d_C_behind_35 ?_
          refine r_think hO hE lk_C_156 (by decide) rfl (Nat.le_of_ble_eq_true rfl) d_C_behind_38 (Nat.zero_le _) (Nat.zero_le _) hC hG (cd_TH.rf _ _ _) ?_
          intro S1 I1 hT1 hG1
          have hC1 := hT1.cd hC
          have hN1 := hT1.now hG
          refine r_aload hO d_C_behind_41 rfl ?_
          refine r_getR hO f_C_16 rfl hC1.1 hC1.2.2.1 d_C_behind_42 ?_
          refine r_iload hO d_C_behind_45 rfl ?_
          refine r_cV1v hO hE (c_H_passHours hG1 _ (by omega)) mf_H_passHours lk_C_146 hG1.1.2.1 rfl (by decide) rfl (Nat.le_of_ble_eq_true rfl) d_C_behind_46 (Nat.zero_le _) (Nat.zero_le _) ?_
          rintro I2 ⟨hG2, ho2⟩
          refine r_iload hO d_C_behind_49 rfl ?_
          by_cases c_50_0 : nI j = nI 0
          · refine r_tabE hO d_C_behind_50 c_50_0 (off := 26) (by decide) (by decide) (by decide) (tgt := 76) (by decide) ?_
            refine r_aload hO d_C_behind_76 rfl ?_
            refine r_getR hO f_C_16 rfl hC1.1 hC1.2.2.1 d_C_behind_77 ?_
            refine r_getR hO f_C_142 rfl hG1.1.2.1 hG1.1.2.2.2.1.1 d_C_behind_80 ?_
            refine r_k hO d_C_behind_83 ?_
            refine r_iald hO hG1.1.2.2.2.1.2 (by omega) (by decide) d_C_behind_84 ?_
            refine r_tops (hG2.2.2.2.2.at 10 (by omega) rfl rfl) ?_
            refine r_iret hO hE (Nat.zero_le _) (Nat.zero_le _) d_C_behind_85 ?_
            exact ⟨by rw [cd_bh_ok hV hn100 hj, cd_tn_nI (show _ < 2 ^ 31 by omega)]; unfold cd_bh; rw [if_pos (show nI j = 0 from c_50_0)], hT1.of ho2⟩
          by_cases c_50_1 : nI j = nI 1
          · refine r_tabE hO d_C_behind_50 c_50_1 (off := 36) (by decide) (by decide) (by decide) (tgt := 86) (by decide) ?_
            refine r_aload hO d_C_behind_86 rfl ?_
            refine r_getR hO f_C_16 rfl hC1.1 hC1.2.2.1 d_C_behind_87 ?_
            refine r_getR hO f_C_142 rfl hG1.1.2.1 hG1.1.2.2.2.1.1 d_C_behind_90 ?_
            refine r_k hO d_C_behind_93 ?_
            refine r_iald hO hG1.1.2.2.2.1.2 (by omega) (by decide) d_C_behind_94 ?_
            refine r_tops (hG2.2.2.2.2.at 11 (by omega) rfl rfl) ?_
            refine r_iret hO hE (Nat.zero_le _) (Nat.zero_le _) d_C_behind_95 ?_
            exact ⟨by rw [cd_bh_ok hV hn100 hj, cd_tn_nI (show _ < 2 ^ 31 by omega)]; unfold cd_bh; rw [if_neg (show ¬ nI j = 0 from c_50_0), if_pos c_50_1], hT1.of ho2⟩
          by_cases c_50_2 : nI j = nI 2
          · refine r_tabE hO d_C_behind_50 c_50_2 (off := 46) (by decide) (by decide) (by decide) (tgt := 96) (by decide) ?_
            refine r_aload hO d_C_behind_96 rfl ?_
            refine r_getR hO f_C_16 rfl hC1.1 hC1.2.2.1 d_C_behind_97 ?_
            refine r_getR hO f_C_123 rfl hG1.1.2.1 hG1.1.2.2.1.1 d_C_behind_100 ?_
            refine r_k hO d_C_behind_103 ?_
            refine r_iald hO hG1.1.2.2.1.2 (by omega) (by decide) d_C_behind_104 ?_
            refine r_tops (hG2.2.2.2.2.at 7 (by omega) rfl rfl) ?_
            refine r_iret hO hE (Nat.zero_le _) (Nat.zero_le _) d_C_behind_105 ?_
            exact ⟨by rw [cd_bh_ok hV hn100 hj, cd_tn_nI (show _ < 2 ^ 31 by omega)]; unfold cd_bh; rw [if_neg (show ¬ nI j = 0 from c_50_0), if_neg c_50_1, if_pos c_50_2], hT1.of ho2⟩
          refine r_tabN hO d_C_behind_50 (by decide) (fun j hj => ?_) (tgt := 106) (by decide) ?_
          · have hj2 : j < 3 := hj
            rcases (show j = 0 ∨ j = 1 ∨ j = 2 by omega) with rfl | rfl | rfl
            · exact Or.inl (fun e => c_50_0 (e.trans (by decide)))
            · exact Or.inl (fun e => c_50_1 (e.trans (by decide)))
            · exact Or.inl (fun e => c_50_2 (e.trans (by decide)))
          have hj3 : 3 ≤ j := by
            rcases Nat.lt_or_ge j 3 with q | q
            · rcases (show j = 0 ∨ j = 1 ∨ j = 2 by omega) with rfl | rfl | rfl <;> contradiction
            · exact q
          refine r_aload hO d_C_behind_106 rfl ?_
          refine r_getR hO f_C_16 rfl hC1.1 hC1.2.2.1 d_C_behind_107 ?_
          refine r_getR hO f_C_75 rfl hG1.1.2.1 hG1.1.2.2.2.2.1.1 d_C_behind_110 ?_
          refine r_iload hO d_C_behind_113 rfl ?_
          refine r_k hO d_C_behind_114 ?_
          refine r_isubN hO d_C_behind_115 hj3 ?_
          refine r_aald (t := 4) hO hG1.1.2.2.2.2.1.2 (by decide) (by decide) (by omega) (by decide) (hG1.1.2.2.2.2.2.2.2 _ (by omega)).1 d_C_behind_116 ?_
          refine r_getI hO f_C_87 rfl (hG1.1.2.2.2.2.2.2.2 _ (by omega)).2 d_C_behind_117 ?_
          rw [hG2.2.2.2.2.ask (show j - 3 < mm by omega) 2 (by decide)]
          refine r_iret hO hE (Nat.zero_le _) (Nat.zero_le _) d_C_behind_120 ?_
          exact ⟨by rw [cd_bh_ok hV hn100 hj, cd_tn_nI (show _ < 2 ^ 31 by omega)]; unfold cd_bh; rw [if_neg (show ¬ nI j = 0 from c_50_0), if_neg c_50_1, if_neg c_50_2, pk_sub hj3, cd_tn_nI (show _ < 2 ^ 31 by omega)], hT1.of ho2⟩
        · refine r_ldc hO k_C_62 d_C_behind_27 ?_
          refine r_iret hO hE (Nat.zero_le _) (Nat.zero_le _) d_C_behind_29 ?_
          exact ⟨by rw [cd_bh_no hV (Or.inr (Or.inr (Or.inr c_24)))], cd_TH.rf _ _ _⟩
theorem d_C_givenIn_0 : cd_D_iload b_C_givenIn 0 1 1 := Or.inr ⟨1, ⟨by decide +kernel, rfl⟩, rfl⟩
theorem d_C_givenIn_1 : cd_Dk b_C_givenIn 1 (nI 1) 2 := Or.inl ⟨1, ⟨by decide +kernel, rfl⟩, by decide +kernel⟩
theorem d_C_givenIn_2 : cd_D_icmp_lt b_C_givenIn 2 19 5 := ⟨17, by decide +kernel, by decide, rfl⟩
theorem d_C_givenIn_5 : cd_D_iload b_C_givenIn 5 1 6 := Or.inr ⟨1, ⟨by decide +kernel, rfl⟩, rfl⟩
theorem d_C_givenIn_6 : cd_Dk b_C_givenIn 6 (nI 100) 8 := Or.inr (Or.inl ⟨100, ⟨by decide +kernel, rfl⟩, by decide +kernel⟩)
theorem d_C_givenIn_8 : cd_D_icmp_gt b_C_givenIn 8 19 11 := ⟨11, by decide +kernel, by decide, rfl⟩
theorem d_C_givenIn_11 : cd_D_aload b_C_givenIn 11 0 12 := Or.inr ⟨0, ⟨by decide +kernel, rfl⟩, rfl⟩
theorem d_C_givenIn_12 : cd_D_iload b_C_givenIn 12 2 13 := Or.inr ⟨2, ⟨by decide +kernel, rfl⟩, rfl⟩
theorem d_C_givenIn_13 : cd_D 3 b_C_givenIn 13 (.invokevirtual 71) 16 := ⟨by decide +kernel, rfl⟩
theorem d_C_givenIn_16 : cd_D_if_ne b_C_givenIn 16 22 19 := ⟨6, by decide +kernel, by decide, rfl⟩
theorem d_C_givenIn_19 : cd_D 2 b_C_givenIn 19 (.ldc 62) 21 := ⟨by decide +kernel, rfl⟩
theorem d_C_givenIn_21 : cd_D 1 b_C_givenIn 21 .ireturn 22 := ⟨by decide +kernel, rfl⟩
theorem d_C_givenIn_22 : cd_D_aload b_C_givenIn 22 0 23 := Or.inr ⟨0, ⟨by decide +kernel, rfl⟩, rfl⟩
theorem d_C_givenIn_23 : cd_D 3 b_C_givenIn 23 (.getfield 16) 26 := ⟨by decide +kernel, rfl⟩
theorem d_C_givenIn_26 : cd_D_aload b_C_givenIn 26 0 27 := Or.inr ⟨0, ⟨by decide +kernel, rfl⟩, rfl⟩
theorem d_C_givenIn_27 : cd_D 3 b_C_givenIn 27 (.getfield 10) 30 := ⟨by decide +kernel, rfl⟩
theorem d_C_givenIn_30 : cd_D 3 b_C_givenIn 30 (.invokevirtual 156) 33 := ⟨by decide +kernel, rfl⟩
theorem d_C_givenIn_33 : cd_D_aload b_C_givenIn 33 0 34 := Or.inr ⟨0, ⟨by decide +kernel, rfl⟩, rfl⟩
theorem d_C_givenIn_34 : cd_D 3 b_C_givenIn 34 (.getfield 16) 37 := ⟨by decide +kernel, rfl⟩
theorem d_C_givenIn_37 : cd_D_iload b_C_givenIn 37 1 38 := Or.inr ⟨1, ⟨by decide +kernel, rfl⟩, rfl⟩
theorem d_C_givenIn_38 : cd_D 3 b_C_givenIn 38 (.invokevirtual 146) 41 := ⟨by decide +kernel, rfl⟩
theorem d_C_givenIn_41 : cd_D_aload b_C_givenIn 41 0 42 := Or.inr ⟨0, ⟨by decide +kernel, rfl⟩, rfl⟩
theorem d_C_givenIn_42 : cd_D 3 b_C_givenIn 42 (.getfield 16) 45 := ⟨by decide +kernel, rfl⟩
theorem d_C_givenIn_45 : cd_D 3 b_C_givenIn 45 (.invokevirtual 150) 48 := ⟨by decide +kernel, rfl⟩
theorem d_C_givenIn_48 : cd_D_istore b_C_givenIn 48 3 49 := Or.inr ⟨3, ⟨by decide +kernel, rfl⟩, rfl⟩
theorem d_C_givenIn_49 : cd_D_aload b_C_givenIn 49 0 50 := Or.inr ⟨0, ⟨by decide +kernel, rfl⟩, rfl⟩
theorem d_C_givenIn_50 : cd_D 3 b_C_givenIn 50 (.getfield 16) 53 := ⟨by decide +kernel, rfl⟩
theorem d_C_givenIn_53 : cd_D_aload b_C_givenIn 53 0 54 := Or.inr ⟨0, ⟨by decide +kernel, rfl⟩, rfl⟩
theorem d_C_givenIn_54 : cd_D 3 b_C_givenIn 54 (.getfield 10) 57 := ⟨by decide +kernel, rfl⟩
theorem d_C_givenIn_57 : cd_D 3 b_C_givenIn 57 (.invokevirtual 156) 60 := ⟨by decide +kernel, rfl⟩
theorem d_C_givenIn_60 : cd_D_aload b_C_givenIn 60 0 61 := Or.inr ⟨0, ⟨by decide +kernel, rfl⟩, rfl⟩
theorem d_C_givenIn_61 : cd_D 3 b_C_givenIn 61 (.getfield 16) 64 := ⟨by decide +kernel, rfl⟩
theorem d_C_givenIn_64 : cd_D 3 b_C_givenIn 64 (.getfield 75) 67 := ⟨by decide +kernel, rfl⟩
theorem d_C_givenIn_67 : cd_D_iload b_C_givenIn 67 2 68 := Or.inr ⟨2, ⟨by decide +kernel, rfl⟩, rfl⟩
theorem d_C_givenIn_68 : cd_D 1 b_C_givenIn 68 .aaload 69 := ⟨by decide +kernel, rfl⟩
theorem d_C_givenIn_69 : cd_D 3 b_C_givenIn 69 (.invokevirtual 161) 72 := ⟨by decide +kernel, rfl⟩
theorem d_C_givenIn_72 : cd_D_aload b_C_givenIn 72 0 73 := Or.inr ⟨0, ⟨by decide +kernel, rfl⟩, rfl⟩
theorem d_C_givenIn_73 : cd_D 3 b_C_givenIn 73 (.getfield 16) 76 := ⟨by decide +kernel, rfl⟩
theorem d_C_givenIn_76 : cd_D_iload b_C_givenIn 76 1 77 := Or.inr ⟨1, ⟨by decide +kernel, rfl⟩, rfl⟩
theorem d_C_givenIn_77 : cd_D 3 b_C_givenIn 77 (.invokevirtual 146) 80 := ⟨by decide +kernel, rfl⟩
theorem d_C_givenIn_80 : cd_D_aload b_C_givenIn 80 0 81 := Or.inr ⟨0, ⟨by decide +kernel, rfl⟩, rfl⟩
theorem d_C_givenIn_81 : cd_D 3 b_C_givenIn 81 (.getfield 16) 84 := ⟨by decide +kernel, rfl⟩
theorem d_C_givenIn_84 : cd_D 3 b_C_givenIn 84 (.invokevirtual 150) 87 := ⟨by decide +kernel, rfl⟩
theorem d_C_givenIn_87 : cd_D_iload b_C_givenIn 87 3 88 := Or.inr ⟨3, ⟨by decide +kernel, rfl⟩, rfl⟩
theorem d_C_givenIn_88 : cd_D 1 b_C_givenIn 88 .isub 89 := ⟨by decide +kernel, rfl⟩
theorem d_C_givenIn_89 : cd_D 1 b_C_givenIn 89 .ireturn 90 := ⟨by decide +kernel, rfl⟩
theorem c_C_givenIn {l : Launch} {w : cd_WT} {S : cd_Sp} {I : cd_Mem} (hC : cd_CD w S) {mm tc : Nat} {N : Nat → Int32} (hG : cd_HG w S I (w.1 + 1) N mm tc) (n a : Int32) : cd_C l w m_C_givenIn 6 0 0 [.ref w.1, .int n, .int a] S I (cd_Pth w S I (sp_givenIn N mm tc n a)) := by
  refine cd_intro (by decide) (by simp [Value.category]) (Nat.le_of_ble_eq_true rfl) ?_
  intro X hO hE
  show cd_J w X 0 0 S I 0 [some (.ref w.1), some (.int n), some (.int a), none] []
  obtain ⟨hH, hhd, hV, hIV, hR⟩ := id hG
  have hmm := hV.2.1
  have hm1 : I (w.1 + 1) 3 = nI mm := (hR.at 1 (by omega) rfl rfl).trans hV.1
  refine r_iload hO d_C_givenIn_0 rfl ?_
  refine r_k hO d_C_givenIn_1 ?_
  refine r_icmp_lt hO d_C_givenIn_2 (fun c_2 => ?_) (fun c_2 => ?_)
  · refine r_ldc hO k_C_62 d_C_givenIn_19 ?_
    refine r_iret hO hE (Nat.zero_le _) (Nat.zero_le _) d_C_givenIn_21 ?_
    exact ⟨by unfold sp_givenIn; rw [if_neg (by rintro ⟨q1, q2⟩; simp only [Int32.lt_iff_toInt_lt, Int32.le_iff_toInt_le] at *; omega)], cd_TH.rf _ _ _⟩
  · refine r_iload hO d_C_givenIn_5 rfl ?_
    refine r_k hO d_C_givenIn_6 ?_
    refine r_icmp_gt hO d_C_givenIn_8 (fun c_8 => ?_) (fun c_8 => ?_)
    · refine r_ldc hO k_C_62 d_C_givenIn_19 ?_
      refine r_iret hO hE (Nat.zero_le _) (Nat.zero_le _) d_C_givenIn_21 ?_
      exact ⟨by unfold sp_givenIn; rw [if_neg (by rintro ⟨q1, q2⟩; simp only [Int32.lt_iff_toInt_lt, Int32.le_iff_toInt_le] at *; omega)], cd_TH.rf _ _ _⟩
    · refine r_aload hO d_C_givenIn_11 rfl ?_
      refine r_iload hO d_C_givenIn_12 rfl ?_
      refine r_cV1fi hO hE (c_C_isAsking hC hG _) mf_C_isAsking lk_C_71 hC.1 rfl (by decide) rfl (Nat.le_of_ble_eq_true rfl) d_C_givenIn_13 (Nat.zero_le _) (Nat.zero_le _) ?_
      refine r_if_neB hO d_C_givenIn_16 (fun c_16 => ?_) (fun c_16 => ?_)
      · obtain ⟨i, hi, rfl⟩ := cd_isA_ex hV.1 hV.2.1 c_16
        have c2 : nI 1 ≤ n := (by simp only [Int32.lt_iff_toInt_lt, Int32.le_iff_toInt_le] at *; omega)
        have hc8 : n ≤ nI 100 := (by simp only [Int32.lt_iff_toInt_lt, Int32.le_iff_toInt_le] at *; omega)
        obtain ⟨q, hq1, hq, rfl⟩ := cd_in_ex ⟨c2, hc8⟩ (by decide) (by decide)
        obtain ⟨kd, hk5, hkd⟩ := (hIV.1 i hi).1
        refine r_aload hO d_C_givenIn_22 rfl ?_
        refine r_getR hO f_C_16 rfl hC.1 hC.2.2.1 d_C_givenIn_23 ?_
        refine r_aload hO d_C_givenIn_26 rfl ?_
        refine r_getR hO f_C_10 rfl hC.1 hC.2.1 d_C_givenIn_27 ?_
        refine r_think hO hE lk_C_156 (by decide) rfl (Nat.le_of_ble_eq_true rfl) d_C_givenIn_30 (Nat.zero_le _) (Nat.zero_le _) hC hG (cd_TH.rf _ _ _) ?_
        intro S1 I1 hT1 hG1
        have hC1 := hT1.cd hC
        have hN1 := hT1.now hG
        refine r_aload hO d_C_givenIn_33 rfl ?_
        refine r_getR hO f_C_16 rfl hC1.1 hC1.2.2.1 d_C_givenIn_34 ?_
        refine r_iload hO d_C_givenIn_37 rfl ?_
        refine r_cV1v hO hE (c_H_passHours hG1 _ (by omega)) mf_H_passHours lk_C_146 hG1.1.2.1 rfl (by decide) rfl (Nat.le_of_ble_eq_true rfl) d_C_givenIn_38 (Nat.zero_le _) (Nat.zero_le _) ?_
        rintro I2 ⟨hG2, ho2⟩
        refine r_aload hO d_C_givenIn_41 rfl ?_
        refine r_getR hO f_C_16 rfl hC1.1 hC1.2.2.1 d_C_givenIn_42 ?_
        refine r_cV0fi hO hE (c_H_habitSum hG2) mf_H_habitSum lk_C_150 hG1.1.2.1 rfl (by decide) rfl (Nat.le_of_ble_eq_true rfl) d_C_givenIn_45 (Nat.zero_le _) (Nat.zero_le _) ?_
        refine r_sI3 hO d_C_givenIn_48 rfl ?_
        refine r_aload hO d_C_givenIn_49 rfl ?_
        refine r_getR hO f_C_16 rfl hC1.1 hC1.2.2.1 d_C_givenIn_50 ?_
        refine r_aload hO d_C_givenIn_53 rfl ?_
        refine r_getR hO f_C_10 rfl hC1.1 hC1.2.1 d_C_givenIn_54 ?_
        refine r_think hO hE lk_C_156 (by decide) rfl (Nat.le_of_ble_eq_true rfl) d_C_givenIn_57 (Nat.zero_le _) (Nat.zero_le _) hC hG (hT1.of ho2) ?_
        intro S3 I3 hT3 hG3
        have hC3 := hT3.cd hC
        have hN3 := hT3.now hG
        refine r_aload hO d_C_givenIn_60 rfl ?_
        refine r_getR hO f_C_16 rfl hC3.1 hC3.2.2.1 d_C_givenIn_61 ?_
        refine r_getR hO f_C_75 rfl hG3.1.2.1 hG3.1.2.2.2.2.1.1 d_C_givenIn_64 ?_
        refine r_iload hO d_C_givenIn_67 rfl ?_
        refine r_aald (t := 4) hO hG3.1.2.2.2.2.1.2 (by decide) (by decide) (by omega) (by decide) (hG3.1.2.2.2.2.2.2.2 _ (by omega)).1 d_C_givenIn_68 ?_
        refine r_cV0fv hO hE (c_A_works (hG3.1.2.2.2.2.2.2.2 _ (by omega)).2 (by omega) kd ((hG3.2.2.2.2.ask hi 0 (by decide)).trans hkd) hk5) mf_A_works lk_C_161 (hG3.1.2.2.2.2.2.2.2 _ (by omega)).2 rfl (by decide) rfl (Nat.le_of_ble_eq_true rfl) d_C_givenIn_69 (Nat.zero_le _) (Nat.zero_le _) ?_
        have hGw := cd_HG_le hG3 hi hkd hk5
        refine r_aload hO d_C_givenIn_72 rfl ?_
        refine r_getR hO f_C_16 rfl hC3.1 hC3.2.2.1 d_C_givenIn_73 ?_
        refine r_iload hO d_C_givenIn_76 rfl ?_
        refine r_cV1v hO hE (c_H_passHours hGw _ (by omega)) mf_H_passHours lk_C_146 hG3.1.2.1 rfl (by decide) rfl (Nat.le_of_ble_eq_true rfl) d_C_givenIn_77 (Nat.zero_le _) (Nat.zero_le _) ?_
        rintro I4 ⟨hG4, ho4⟩
        refine r_aload hO d_C_givenIn_80 rfl ?_
        refine r_getR hO f_C_16 rfl hC3.1 hC3.2.2.1 d_C_givenIn_81 ?_
        refine r_cV0fi hO hE (c_H_habitSum hG4) mf_H_habitSum lk_C_150 hG3.1.2.1 rfl (by decide) rfl (Nat.le_of_ble_eq_true rfl) d_C_givenIn_84 (Nat.zero_le _) (Nat.zero_le _) ?_
        refine r_iload hO d_C_givenIn_87 rfl ?_
        refine r_isub hO d_C_givenIn_88 ?_
        refine r_iret hO hE (Nat.zero_le _) (Nat.zero_le _) d_C_givenIn_89 ?_
        exact ⟨by unfold sp_givenIn; rw [if_pos ⟨c2, hc8⟩, if_pos c_16, cd_tn_nI (show _ < 2 ^ 31 by omega), cd_tn_nI (show _ < 2 ^ 31 by omega)], ((hT3.of (cd_ofh.set _ _ (cd_wr_in (by omega) (by omega)))).of ho4)⟩
      · refine r_ldc hO k_C_62 d_C_givenIn_19 ?_
        refine r_iret hO hE (Nat.zero_le _) (Nat.zero_le _) d_C_givenIn_21 ?_
        exact ⟨by unfold sp_givenIn; rw [if_neg c_16, ite_self], cd_TH.rf _ _ _⟩
