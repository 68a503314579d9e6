theorem cd_cnt_pos {N : Nat → Int32} {key : Int32} : ∀ {tc : Nat}, 0 ≤ cd_cnt N key tc → ∃ j, j < tc ∧ cd_cnt N key tc = nI j ∧ N (76 + 2 * j) / nI 1000 = key
  | 0, h => absurd h (by unfold cd_cnt; decide)
  | t + 1, h => by
    unfold cd_cnt at h ⊢
    by_cases hc : N (76 + 2 * t) / nI 1000 = key
    · rw [if_pos hc]
      exact ⟨t, by omega, rfl, hc⟩
    · rw [if_neg hc] at h ⊢
      obtain ⟨j, h1, h2, h3⟩ := cd_cnt_pos h
      exact ⟨j, by omega, h2, h3⟩
/-- what the text that counts is -/
theorem cd_TW.at {N : Nat → Int32} {tc t ky : Nat} (h : cd_TW N tc) (ht : t < tc) (hky : ky ≤ 2) (hk : N (76 + 2 * t) / nI 1000 = nI ky) : ∃ n, cd_rem (N (76 + 2 * t)) (nI 1000) = nI n ∧ 1 ≤ n ∧ n ≤ 96 ∧ cd_wf (-10) (fun k => N (104 + 96 * t + k)) n (cd_nb ky) ∧ cd_dep (-10) (fun k => N (104 + 96 * t + k)) n = 1 := by
  obtain ⟨ky', n, h1, h2, h3, h4, h5, h6⟩ := h t ht
  have e1 : N (76 + 2 * t) / nI 1000 = nI ky' := by
    rw [h1, pk_div (by omega) (by omega) (by omega)]
    congr 1
    omega
  have e2 : ky' = ky := (nI_eq (by omega) (by omega)).mp (e1.symm.trans hk)
  subst e2
  refine ⟨n, ?_, h3, h4, h5, h6⟩
  unfold cd_rem
  rw [h1, pk_rem (by omega) (by omega) (by omega)]
  congr 1
  omega
def cd_pl (N : Nat → Int32) (i tc : Nat) : Int32 := if 0 ≤ cd_cnt N (nI 0) tc then cd_wi (cd_wo N (cd_tn (cd_cnt N (nI 0) tc)) (N (16 + 5 * i + 2)) (N (16 + 5 * i + 3)) (N (16 + 5 * i + 4))) (nI 0) (nI 199) else N (16 + 5 * i + 2)
def cd_pw (N : Nat → Int32) (p : Int32) : Int32 := cd_wi (if N 8 = nI 1 then p - nI 20 else p) (nI 0) (nI 199)
def cd_pr (N : Nat → Int32) (i tc : Nat) : Int32 := if N (16 + 5 * i + 0) = nI 1 then cd_pl N i tc / nI 2 else if N (16 + 5 * i + 0) = nI 2 then cd_pw N (cd_pl N i tc) else if N (16 + 5 * i + 0) = nI 3 then cd_pl N i tc / nI 2 + nI 60 * N 9 else if N (16 + 5 * i + 0) = nI 4 then cd_pw N (cd_pl N i tc) + nI 30 else if N (16 + 5 * i + 0) = nI 5 then cd_pl N i tc + nI 5 else cd_pl N i tc
theorem cd_wo_eq {N : Nat → Int32} {t n : Nat} {f0 f1 f2 : Int32} (hn : cd_rem (N (76 + 2 * t)) (nI 1000) = nI n) (h9 : n ≤ 96) : cd_wo N t f0 f1 f2 = (cd_es cd_two (-10) (fun j => if j = 0 then f0 else if j = 1 then f1 else f2) (fun k => N (104 + 96 * t + k)) n).2 0 := by
  unfold cd_wo
  rw [hn]
  unfold cd_tn
  rw [nI_clamp (by omega)]
theorem d_M_pressesOf_0 : cd_D_aload b_M_pressesOf 0 0 1 := Or.inr ⟨0, ⟨by decide +kernel, rfl⟩, rfl⟩
theorem d_M_pressesOf_1 : cd_Dk b_M_pressesOf 1 (nI 0) 2 := Or.inl ⟨0, ⟨by decide +kernel, rfl⟩, by decide +kernel⟩
theorem d_M_pressesOf_2 : cd_D 3 b_M_pressesOf 2 (.invokevirtual 93) 5 := ⟨by decide +kernel, rfl⟩
theorem d_M_pressesOf_5 : cd_D_istore b_M_pressesOf 5 2 6 := Or.inr ⟨2, ⟨by decide +kernel, rfl⟩, rfl⟩
theorem d_M_pressesOf_6 : cd_D_aload b_M_pressesOf 6 0 7 := Or.inr ⟨0, ⟨by decide +kernel, rfl⟩, rfl⟩
theorem d_M_pressesOf_7 : cd_D 3 b_M_pressesOf 7 (.getfield 45) 10 := ⟨by decide +kernel, rfl⟩
theorem d_M_pressesOf_10 : cd_Dk b_M_pressesOf 10 (nI 0) 11 := Or.inl ⟨0, ⟨by decide +kernel, rfl⟩, by decide +kernel⟩
theorem d_M_pressesOf_11 : cd_D_aload b_M_pressesOf 11 0 12 := Or.inr ⟨0, ⟨by decide +kernel, rfl⟩, rfl⟩
theorem d_M_pressesOf_12 : cd_D_iload b_M_pressesOf 12 1 13 := Or.inr ⟨1, ⟨by decide +kernel, rfl⟩, rfl⟩
theorem d_M_pressesOf_13 : cd_Dk b_M_pressesOf 13 (nI 2) 14 := Or.inl ⟨2, ⟨by decide +kernel, rfl⟩, by decide +kernel⟩
theorem d_M_pressesOf_14 : cd_D 3 b_M_pressesOf 14 (.invokevirtual 97) 17 := ⟨by decide +kernel, rfl⟩
theorem d_M_pressesOf_17 : cd_D 1 b_M_pressesOf 17 .iastore 18 := ⟨by decide +kernel, rfl⟩
theorem d_M_pressesOf_18 : cd_D_aload b_M_pressesOf 18 0 19 := Or.inr ⟨0, ⟨by decide +kernel, rfl⟩, rfl⟩
theorem d_M_pressesOf_19 : cd_D 3 b_M_pressesOf 19 (.getfield 45) 22 := ⟨by decide +kernel, rfl⟩
theorem d_M_pressesOf_22 : cd_Dk b_M_pressesOf 22 (nI 1) 23 := Or.inl ⟨1, ⟨by decide +kernel, rfl⟩, by decide +kernel⟩
theorem d_M_pressesOf_23 : cd_D_aload b_M_pressesOf 23 0 24 := Or.inr ⟨0, ⟨by decide +kernel, rfl⟩, rfl⟩
theorem d_M_pressesOf_24 : cd_D_iload b_M_pressesOf 24 1 25 := Or.inr ⟨1, ⟨by decide +kernel, rfl⟩, rfl⟩
theorem d_M_pressesOf_25 : cd_Dk b_M_pressesOf 25 (nI 3) 26 := Or.inl ⟨3, ⟨by decide +kernel, rfl⟩, by decide +kernel⟩
theorem d_M_pressesOf_26 : cd_D 3 b_M_pressesOf 26 (.invokevirtual 97) 29 := ⟨by decide +kernel, rfl⟩
theorem d_M_pressesOf_29 : cd_D 1 b_M_pressesOf 29 .iastore 30 := ⟨by decide +kernel, rfl⟩
theorem d_M_pressesOf_30 : cd_D_aload b_M_pressesOf 30 0 31 := Or.inr ⟨0, ⟨by decide +kernel, rfl⟩, rfl⟩
theorem d_M_pressesOf_31 : cd_D 3 b_M_pressesOf 31 (.getfield 45) 34 := ⟨by decide +kernel, rfl⟩
theorem d_M_pressesOf_34 : cd_Dk b_M_pressesOf 34 (nI 2) 35 := Or.inl ⟨2, ⟨by decide +kernel, rfl⟩, by decide +kernel⟩
theorem d_M_pressesOf_35 : cd_D_aload b_M_pressesOf 35 0 36 := Or.inr ⟨0, ⟨by decide +kernel, rfl⟩, rfl⟩
theorem d_M_pressesOf_36 : cd_D_iload b_M_pressesOf 36 1 37 := Or.inr ⟨1, ⟨by decide +kernel, rfl⟩, rfl⟩
theorem d_M_pressesOf_37 : cd_Dk b_M_pressesOf 37 (nI 4) 38 := Or.inl ⟨4, ⟨by decide +kernel, rfl⟩, by decide +kernel⟩
theorem d_M_pressesOf_38 : cd_D 3 b_M_pressesOf 38 (.invokevirtual 97) 41 := ⟨by decide +kernel, rfl⟩
theorem d_M_pressesOf_41 : cd_D 1 b_M_pressesOf 41 .iastore 42 := ⟨by decide +kernel, rfl⟩
theorem d_M_pressesOf_42 : cd_D_iload b_M_pressesOf 42 2 43 := Or.inr ⟨2, ⟨by decide +kernel, rfl⟩, rfl⟩
theorem d_M_pressesOf_43 : cd_D_if_ge b_M_pressesOf 43 55 46 := ⟨12, by decide +kernel, by decide, rfl⟩
theorem d_M_pressesOf_46 : cd_D_aload b_M_pressesOf 46 0 47 := Or.inr ⟨0, ⟨by decide +kernel, rfl⟩, rfl⟩
theorem d_M_pressesOf_47 : cd_D_iload b_M_pressesOf 47 1 48 := Or.inr ⟨1, ⟨by decide +kernel, rfl⟩, rfl⟩
theorem d_M_pressesOf_48 : cd_Dk b_M_pressesOf 48 (nI 2) 49 := Or.inl ⟨2, ⟨by decide +kernel, rfl⟩, by decide +kernel⟩
theorem d_M_pressesOf_49 : cd_D 3 b_M_pressesOf 49 (.invokevirtual 97) 52 := ⟨by decide +kernel, rfl⟩
theorem d_M_pressesOf_52 : cd_D_goto b_M_pressesOf 52 67 := ⟨15, by decide +kernel, by decide⟩
theorem d_M_pressesOf_55 : cd_D_aload b_M_pressesOf 55 0 56 := Or.inr ⟨0, ⟨by decide +kernel, rfl⟩, rfl⟩
theorem d_M_pressesOf_56 : cd_D_iload b_M_pressesOf 56 2 57 := Or.inr ⟨2, ⟨by decide +kernel, rfl⟩, rfl⟩
theorem d_M_pressesOf_57 : cd_D 3 b_M_pressesOf 57 (.invokevirtual 101) 60 := ⟨by decide +kernel, rfl⟩
theorem d_M_pressesOf_60 : cd_Dk b_M_pressesOf 60 (nI 0) 61 := Or.inl ⟨0, ⟨by decide +kernel, rfl⟩, by decide +kernel⟩
theorem d_M_pressesOf_61 : cd_Dk b_M_pressesOf 61 (nI 199) 64 := Or.inr (Or.inr ⟨199, ⟨by decide +kernel, rfl⟩, by decide +kernel⟩)
theorem d_M_pressesOf_64 : cd_D 3 b_M_pressesOf 64 (.invokestatic 104) 67 := ⟨by decide +kernel, rfl⟩
theorem d_M_pressesOf_67 : cd_D_istore b_M_pressesOf 67 3 68 := Or.inr ⟨3, ⟨by decide +kernel, rfl⟩, rfl⟩
theorem d_M_pressesOf_68 : cd_D_aload b_M_pressesOf 68 0 69 := Or.inr ⟨0, ⟨by decide +kernel, rfl⟩, rfl⟩
theorem d_M_pressesOf_69 : cd_D 3 b_M_pressesOf 69 (.getfield 9) 72 := ⟨by decide +kernel, rfl⟩
theorem d_M_pressesOf_72 : cd_Dk b_M_pressesOf 72 (nI 8) 74 := Or.inr (Or.inl ⟨8, ⟨by decide +kernel, rfl⟩, by decide +kernel⟩)
theorem d_M_pressesOf_74 : cd_D 1 b_M_pressesOf 74 .iaload 75 := ⟨by decide +kernel, rfl⟩
theorem d_M_pressesOf_75 : cd_Dk b_M_pressesOf 75 (nI 1) 76 := Or.inl ⟨1, ⟨by decide +kernel, rfl⟩, by decide +kernel⟩
theorem d_M_pressesOf_76 : cd_D_icmp_ne b_M_pressesOf 76 86 79 := ⟨10, by decide +kernel, by decide, rfl⟩
theorem d_M_pressesOf_79 : cd_D_iload b_M_pressesOf 79 3 80 := Or.inr ⟨3, ⟨by decide +kernel, rfl⟩, rfl⟩
theorem d_M_pressesOf_80 : cd_Dk b_M_pressesOf 80 (nI 20) 82 := Or.inr (Or.inl ⟨20, ⟨by decide +kernel, rfl⟩, by decide +kernel⟩)
theorem d_M_pressesOf_82 : cd_D 1 b_M_pressesOf 82 .isub 83 := ⟨by decide +kernel, rfl⟩
theorem d_M_pressesOf_83 : cd_D_goto b_M_pressesOf 83 87 := ⟨4, by decide +kernel, by decide⟩
theorem d_M_pressesOf_86 : cd_D_iload b_M_pressesOf 86 3 87 := Or.inr ⟨3, ⟨by decide +kernel, rfl⟩, rfl⟩
theorem d_M_pressesOf_87 : cd_Dk b_M_pressesOf 87 (nI 0) 88 := Or.inl ⟨0, ⟨by decide +kernel, rfl⟩, by decide +kernel⟩
theorem d_M_pressesOf_88 : cd_Dk b_M_pressesOf 88 (nI 199) 91 := Or.inr (Or.inr ⟨199, ⟨by decide +kernel, rfl⟩, by decide +kernel⟩)
theorem d_M_pressesOf_91 : cd_D 3 b_M_pressesOf 91 (.invokestatic 104) 94 := ⟨by decide +kernel, rfl⟩
theorem d_M_pressesOf_94 : cd_D_istore b_M_pressesOf 94 4 96 := Or.inl ⟨by decide +kernel, rfl⟩
theorem d_M_pressesOf_96 : cd_D_aload b_M_pressesOf 96 0 97 := Or.inr ⟨0, ⟨by decide +kernel, rfl⟩, rfl⟩
theorem d_M_pressesOf_97 : cd_D_iload b_M_pressesOf 97 1 98 := Or.inr ⟨1, ⟨by decide +kernel, rfl⟩, rfl⟩
theorem d_M_pressesOf_98 : cd_Dk b_M_pressesOf 98 (nI 0) 99 := Or.inl ⟨0, ⟨by decide +kernel, rfl⟩, by decide +kernel⟩
theorem d_M_pressesOf_99 : cd_D 3 b_M_pressesOf 99 (.invokevirtual 97) 102 := ⟨by decide +kernel, rfl⟩
theorem d_M_pressesOf_102 : decode b_M_pressesOf 102 = .ok (.tableswitch (66) (1) (5) #[34, 38, 41, 56, 62], 34) := by decide +kernel
theorem d_M_pressesOf_136 : cd_D_iload b_M_pressesOf 136 3 137 := Or.inr ⟨3, ⟨by decide +kernel, rfl⟩, rfl⟩
theorem d_M_pressesOf_137 : cd_Dk b_M_pressesOf 137 (nI 2) 138 := Or.inl ⟨2, ⟨by decide +kernel, rfl⟩, by decide +kernel⟩
theorem d_M_pressesOf_138 : cd_D 1 b_M_pressesOf 138 .idiv 139 := ⟨by decide +kernel, rfl⟩
theorem d_M_pressesOf_139 : cd_D 1 b_M_pressesOf 139 .ireturn 140 := ⟨by decide +kernel, rfl⟩
theorem d_M_pressesOf_140 : cd_D_iload b_M_pressesOf 140 4 142 := Or.inl ⟨by decide +kernel, rfl⟩
theorem d_M_pressesOf_142 : cd_D 1 b_M_pressesOf 142 .ireturn 143 := ⟨by decide +kernel, rfl⟩
theorem d_M_pressesOf_143 : cd_D_iload b_M_pressesOf 143 3 144 := Or.inr ⟨3, ⟨by decide +kernel, rfl⟩, rfl⟩
theorem d_M_pressesOf_144 : cd_Dk b_M_pressesOf 144 (nI 2) 145 := Or.inl ⟨2, ⟨by decide +kernel, rfl⟩, by decide +kernel⟩
theorem d_M_pressesOf_145 : cd_D 1 b_M_pressesOf 145 .idiv 146 := ⟨by decide +kernel, rfl⟩
theorem d_M_pressesOf_146 : cd_Dk b_M_pressesOf 146 (nI 60) 148 := Or.inr (Or.inl ⟨60, ⟨by decide +kernel, rfl⟩, by decide +kernel⟩)
theorem d_M_pressesOf_148 : cd_D_aload b_M_pressesOf 148 0 149 := Or.inr ⟨0, ⟨by decide +kernel, rfl⟩, rfl⟩
theorem d_M_pressesOf_149 : cd_D 3 b_M_pressesOf 149 (.getfield 9) 152 := ⟨by decide +kernel, rfl⟩
theorem d_M_pressesOf_152 : cd_Dk b_M_pressesOf 152 (nI 9) 154 := Or.inr (Or.inl ⟨9, ⟨by decide +kernel, rfl⟩, by decide +kernel⟩)
theorem d_M_pressesOf_154 : cd_D 1 b_M_pressesOf 154 .iaload 155 := ⟨by decide +kernel, rfl⟩
theorem d_M_pressesOf_155 : cd_D 1 b_M_pressesOf 155 .imul 156 := ⟨by decide +kernel, rfl⟩
theorem d_M_pressesOf_156 : cd_D 1 b_M_pressesOf 156 .iadd 157 := ⟨by decide +kernel, rfl⟩
theorem d_M_pressesOf_157 : cd_D 1 b_M_pressesOf 157 .ireturn 158 := ⟨by decide +kernel, rfl⟩
theorem d_M_pressesOf_158 : cd_D_iload b_M_pressesOf 158 4 160 := Or.inl ⟨by decide +kernel, rfl⟩
theorem d_M_pressesOf_160 : cd_Dk b_M_pressesOf 160 (nI 30) 162 := Or.inr (Or.inl ⟨30, ⟨by decide +kernel, rfl⟩, by decide +kernel⟩)
theorem d_M_pressesOf_162 : cd_D 1 b_M_pressesOf 162 .iadd 163 := ⟨by decide +kernel, rfl⟩
theorem d_M_pressesOf_163 : cd_D 1 b_M_pressesOf 163 .ireturn 164 := ⟨by decide +kernel, rfl⟩
theorem d_M_pressesOf_164 : cd_D_iload b_M_pressesOf 164 3 165 := Or.inr ⟨3, ⟨by decide +kernel, rfl⟩, rfl⟩
theorem d_M_pressesOf_165 : cd_Dk b_M_pressesOf 165 (nI 5) 166 := Or.inl ⟨5, ⟨by decide +kernel, rfl⟩, by decide +kernel⟩
theorem d_M_pressesOf_166 : cd_D 1 b_M_pressesOf 166 .iadd 167 := ⟨by decide +kernel, rfl⟩
theorem d_M_pressesOf_167 : cd_D 1 b_M_pressesOf 167 .ireturn 168 := ⟨by decide +kernel, rfl⟩
theorem d_M_pressesOf_168 : cd_D_iload b_M_pressesOf 168 3 169 := Or.inr ⟨3, ⟨by decide +kernel, rfl⟩, rfl⟩
theorem d_M_pressesOf_169 : cd_D 1 b_M_pressesOf 169 .ireturn 170 := ⟨by decide +kernel, rfl⟩
theorem c_M_pressesOf {l : Launch} {w : cd_WT} {S : cd_Sp} {I : cd_Mem} {m : Nat} (hM : cd_MO w S m) (mm tc i : Nat) (hV : cd_V (I (m + 1)) mm tc) (hi : i < 12) : cd_C l w m_M_pressesOf 2 0 0 [.ref m, .int (nI i)] S I (cd_Pi S (fun x I' => x = cd_pr (I (m + 1)) i tc ∧ cd_off I I' [m + 11, m + 12])) := by
  refine cd_intro (by decide) (by simp [Value.category]) (Nat.le_of_ble_eq_true rfl) ?_
  intro X hO hE
  show cd_J w X 0 0 S I 0 [some (.ref m), some (.int (nI i)), none, none, none] []
  obtain ⟨hN1, hmm, hN15, htc, hTW⟩ := id hV
  have rest : ∀ (I2 : cd_Mem) (x2 : Int32), I2 (m + 1) = I (m + 1) → cd_off I I2 [m + 11, m + 12] → cd_J w X 0 0 S I2 67 [some (.ref m), some (.int (nI i)), some (.int x2), none, none] [.int (cd_pl (I (m + 1)) i tc)] := by
    intro I2 x2 h2 ho
    refine r_sI3 hO d_M_pressesOf_67 rfl ?_
    refine r_aload hO d_M_pressesOf_68 rfl ?_
    refine r_getR hO f_M_9 rfl hM.2.1 (mo_r1 hM) d_M_pressesOf_69 ?_
    try simp only [h2]
    refine r_k hO d_M_pressesOf_72 ?_
    refine r_iald hO (mo_s1 hM) (by omega) (by decide) d_M_pressesOf_74 ?_
    try simp only [h2]
    refine r_k hO d_M_pressesOf_75 ?_
    refine r_jn2 (pcJ := 87) (fun v => v = if I (m + 1) 8 = nI 1 then cd_pl (I (m + 1)) i tc - nI 20 else cd_pl (I (m + 1)) i tc) (fun v_76 hv_76 => ?_) (fun hj_76 => ?_)
    · subst hv_76
      refine r_k hO d_M_pressesOf_87 ?_
      refine r_k hO d_M_pressesOf_88 ?_
      refine r_cS3fi hO hE (c_M_within _ _ _) mf_M_within lk_M_104 (by decide) rfl (Nat.le_of_ble_eq_true rfl) d_M_pressesOf_91 (Nat.zero_le _) (Nat.zero_le _) ?_
      try simp only [h2]
      refine r_sI4 hO d_M_pressesOf_94 rfl ?_
      refine r_aload hO d_M_pressesOf_96 rfl ?_
      refine r_iload hO d_M_pressesOf_97 rfl ?_
      refine r_k hO d_M_pressesOf_98 ?_
      refine r_cV2fi hO hE (c_M_of hM _ _ (by omega)) mf_M_of lk_M_97 hM.2.1 rfl (by decide) rfl (Nat.le_of_ble_eq_true rfl) d_M_pressesOf_99 (Nat.zero_le _) (Nat.zero_le _) ?_
      try simp only [h2]
      by_cases c_102_1 : I (m + 1) (16 + 5 * i + 0) = nI 1
      · refine r_tabE hO d_M_pressesOf_102 c_102_1 (off := 34) (by decide) (by decide) (by decide) (tgt := 136) (by decide) ?_
        refine r_iload hO d_M_pressesOf_136 rfl ?_
        refine r_k hO d_M_pressesOf_137 ?_
        refine r_idiv hO d_M_pressesOf_138 (by decide) ?_
        refine r_iret hO hE (Nat.zero_le _) (Nat.zero_le _) d_M_pressesOf_139 ?_
        exact ⟨_, rfl, rfl, by unfold cd_pr cd_pw; (repeat' split) <;> first | rfl | contradiction, ho⟩
      by_cases c_102_2 : I (m + 1) (16 + 5 * i + 0) = nI 2
      · refine r_tabE hO d_M_pressesOf_102 c_102_2 (off := 38) (by decide) (by decide) (by decide) (tgt := 140) (by decide) ?_
        refine r_iload hO d_M_pressesOf_140 rfl ?_
        refine r_iret hO hE (Nat.zero_le _) (Nat.zero_le _) d_M_pressesOf_142 ?_
        exact ⟨_, rfl, rfl, by unfold cd_pr cd_pw; (repeat' split) <;> first | rfl | contradiction, ho⟩
      by_cases c_102_3 : I (m + 1) (16 + 5 * i + 0) = nI 3
      · refine r_tabE hO d_M_pressesOf_102 c_102_3 (off := 41) (by decide) (by decide) (by decide) (tgt := 143) (by decide) ?_
        refine r_iload hO d_M_pressesOf_143 rfl ?_
        refine r_k hO d_M_pressesOf_144 ?_
        refine r_idiv hO d_M_pressesOf_145 (by decide) ?_
        refine r_k hO d_M_pressesOf_146 ?_
        refine r_aload hO d_M_pressesOf_148 rfl ?_
        refine r_getR hO f_M_9 rfl hM.2.1 (mo_r1 hM) d_M_pressesOf_149 ?_
        try simp only [h2]
        refine r_k hO d_M_pressesOf_152 ?_
        refine r_iald hO (mo_s1 hM) (by omega) (by decide) d_M_pressesOf_154 ?_
        try simp only [h2]
        refine r_imul hO d_M_pressesOf_155 ?_
        refine r_iadd hO d_M_pressesOf_156 ?_
        refine r_iret hO hE (Nat.zero_le _) (Nat.zero_le _) d_M_pressesOf_157 ?_
        exact ⟨_, rfl, rfl, by unfold cd_pr cd_pw; (repeat' split) <;> first | rfl | contradiction, ho⟩
      by_cases c_102_4 : I (m + 1) (16 + 5 * i + 0) = nI 4
      · refine r_tabE hO d_M_pressesOf_102 c_102_4 (off := 56) (by decide) (by decide) (by decide) (tgt := 158) (by decide) ?_
        refine r_iload hO d_M_pressesOf_158 rfl ?_
        refine r_k hO d_M_pressesOf_160 ?_
        refine r_iadd hO d_M_pressesOf_162 ?_
        refine r_iret hO hE (Nat.zero_le _) (Nat.zero_le _) d_M_pressesOf_163 ?_
        exact ⟨_, rfl, rfl, by unfold cd_pr cd_pw; (repeat' split) <;> first | rfl | contradiction, ho⟩
      by_cases c_102_5 : I (m + 1) (16 + 5 * i + 0) = nI 5
      · refine r_tabE hO d_M_pressesOf_102 c_102_5 (off := 62) (by decide) (by decide) (by decide) (tgt := 164) (by decide) ?_
        refine r_iload hO d_M_pressesOf_164 rfl ?_
        refine r_k hO d_M_pressesOf_165 ?_
        refine r_iadd hO d_M_pressesOf_166 ?_
        refine r_iret hO hE (Nat.zero_le _) (Nat.zero_le _) d_M_pressesOf_167 ?_
        exact ⟨_, rfl, rfl, by unfold cd_pr cd_pw; (repeat' split) <;> first | rfl | contradiction, ho⟩
      refine r_tabN hO d_M_pressesOf_102 (by decide) (fun j hj => ?_) (tgt := 168) (by decide) ?_
      · have hj2 : j < 5 := hj
        rcases (show j = 0 ∨ j = 1 ∨ j = 2 ∨ j = 3 ∨ j = 4 by omega) with rfl | rfl | rfl | rfl | rfl
        · exact Or.inl (fun e => c_102_1 (e.trans (by decide)))
        · exact Or.inl (fun e => c_102_2 (e.trans (by decide)))
        · exact Or.inl (fun e => c_102_3 (e.trans (by decide)))
        · exact Or.inl (fun e => c_102_4 (e.trans (by decide)))
        · exact Or.inl (fun e => c_102_5 (e.trans (by decide)))
      refine r_iload hO d_M_pressesOf_168 rfl ?_
      refine r_iret hO hE (Nat.zero_le _) (Nat.zero_le _) d_M_pressesOf_169 ?_
      exact ⟨_, rfl, rfl, by unfold cd_pr cd_pw; (repeat' split) <;> first | rfl | contradiction, ho⟩
    · refine r_icmp_ne hO d_M_pressesOf_76 (fun c_76 => ?_) (fun c_76 => ?_)
      · refine r_iload hO d_M_pressesOf_86 rfl ?_
        exact hj_76 _ (by simp only [c_76, if_true, if_false])
      · refine r_iload hO d_M_pressesOf_79 rfl ?_
        refine r_k hO d_M_pressesOf_80 ?_
        refine r_isub hO d_M_pressesOf_82 ?_
        refine r_goto hO d_M_pressesOf_83 ?_
        exact hj_76 _ (by simp only [c_76, if_true, if_false])
  refine r_aload hO d_M_pressesOf_0 rfl ?_
  refine r_k hO d_M_pressesOf_1 ?_
  refine r_cV1fi hO hE (c_M_counts hM tc hN15 htc _) mf_M_counts lk_M_93 hM.2.1 rfl (by decide) rfl (Nat.le_of_ble_eq_true rfl) d_M_pressesOf_2 (Nat.zero_le _) (Nat.zero_le _) ?_
  try simp (disch := omega) only [cd_set_eq, cd_set_ne, cd_set_set]
  refine r_sI2 hO d_M_pressesOf_5 rfl ?_
  refine r_aload hO d_M_pressesOf_6 rfl ?_
  refine r_getR hO f_M_45 rfl hM.2.1 (mo_r12 hM) d_M_pressesOf_7 ?_
  try simp (disch := omega) only [cd_set_eq, cd_set_ne, cd_set_set]
  refine r_k hO d_M_pressesOf_10 ?_
  refine r_aload hO d_M_pressesOf_11 rfl ?_
  refine r_iload hO d_M_pressesOf_12 rfl ?_
  refine r_k hO d_M_pressesOf_13 ?_
  refine r_cV2fi hO hE (c_M_of hM _ _ (by omega)) mf_M_of lk_M_97 hM.2.1 rfl (by decide) rfl (Nat.le_of_ble_eq_true rfl) d_M_pressesOf_14 (Nat.zero_le _) (Nat.zero_le _) ?_
  try simp (disch := omega) only [cd_set_eq, cd_set_ne, cd_set_set]
  refine r_iast hO (mo_s12 hM) (mo_l12 hM) (by omega) (by decide) d_M_pressesOf_17 ?_
  try simp (disch := omega) only [cd_set_eq, cd_set_ne, cd_set_set]
  refine r_aload hO d_M_pressesOf_18 rfl ?_
  refine r_getR hO f_M_45 rfl hM.2.1 (mo_r12 hM) d_M_pressesOf_19 ?_
  try simp (disch := omega) only [cd_set_eq, cd_set_ne, cd_set_set]
  refine r_k hO d_M_pressesOf_22 ?_
  refine r_aload hO d_M_pressesOf_23 rfl ?_
  refine r_iload hO d_M_pressesOf_24 rfl ?_
  refine r_k hO d_M_pressesOf_25 ?_
  refine r_cV2fi hO hE (c_M_of hM _ _ (by omega)) mf_M_of lk_M_97 hM.2.1 rfl (by decide) rfl (Nat.le_of_ble_eq_true rfl) d_M_pressesOf_26 (Nat.zero_le _) (Nat.zero_le _) ?_
  try simp (disch := omega) only [cd_set_eq, cd_set_ne, cd_set_set]
  refine r_iast hO (mo_s12 hM) (mo_l12 hM) (by omega) (by decide) d_M_pressesOf_29 ?_
  try simp (disch := omega) only [cd_set_eq, cd_set_ne, cd_set_set]
  refine r_aload hO d_M_pressesOf_30 rfl ?_
  refine r_getR hO f_M_45 rfl hM.2.1 (mo_r12 hM) d_M_pressesOf_31 ?_
  try simp (disch := omega) only [cd_set_eq, cd_set_ne, cd_set_set]
  refine r_k hO d_M_pressesOf_34 ?_
  refine r_aload hO d_M_pressesOf_35 rfl ?_
  refine r_iload hO d_M_pressesOf_36 rfl ?_
  refine r_k hO d_M_pressesOf_37 ?_
  refine r_cV2fi hO hE (c_M_of hM _ _ (by omega)) mf_M_of lk_M_97 hM.2.1 rfl (by decide) rfl (Nat.le_of_ble_eq_true rfl) d_M_pressesOf_38 (Nat.zero_le _) (Nat.zero_le _) ?_
  try simp (disch := omega) only [cd_set_eq, cd_set_ne, cd_set_set]
  refine r_iast hO (mo_s12 hM) (mo_l12 hM) (by omega) (by decide) d_M_pressesOf_41 ?_
  try simp (disch := omega) only [cd_set_eq, cd_set_ne, cd_set_set]
  refine r_gen (fun I1 hI1 => ?_)
  have h1 : I1 (m + 1) = I (m + 1) := by rw [hI1, cd_set_ne _ _ (by omega)]
  have h12 : I1 (m + 12) = upd (upd (upd (I (m + 12)) 0 (I (m + 1) (16 + 5 * i + 2))) 1 (I (m + 1) (16 + 5 * i + 3))) 2 (I (m + 1) (16 + 5 * i + 4)) := by rw [hI1, cd_set_eq]
  have ho1 : cd_off I I1 [m + 11, m + 12] := by rw [hI1]; exact cd_off.set _ _ (by simp)
  refine r_iload hO d_M_pressesOf_42 rfl ?_
  refine r_if_ge hO d_M_pressesOf_43 (fun c_43 => ?_) (fun c_43 => ?_)
  · obtain ⟨tj, htj, etj, hkey⟩ := cd_cnt_pos c_43
    obtain ⟨n, hn, hn1, hn9, hwf, hd1⟩ := hTW.at htj (by decide) hkey
    rw [etj]
    refine r_aload hO d_M_pressesOf_55 rfl ?_
    refine r_iload hO d_M_pressesOf_56 rfl ?_
    refine r_cV1i hO hE (c_M_worksOut hM tj n 3 (by omega) (fun j => if j = 0 then I (m + 1) (16 + 5 * i + 2) else if j = 1 then I (m + 1) (16 + 5 * i + 3) else I (m + 1) (16 + 5 * i + 4)) (by rw [h1]; exact hn) hn9 (by decide) (by rw [h1]; exact hwf) (by rw [h1, hd1]; exact Nat.le_refl _) (fun j hj => by rw [h12]; rcases (show j = 0 ∨ j = 1 ∨ j = 2 by omega) with rfl | rfl | rfl <;> simp [upd])) mf_M_worksOut lk_M_101 hM.2.1 rfl (by decide) rfl (Nat.le_of_ble_eq_true rfl) d_M_pressesOf_57 (Nat.zero_le _) (Nat.zero_le _) ?_
    rintro x I2 ⟨hx, ho2⟩
    try simp (disch := omega) only [cd_set_eq, cd_set_ne, cd_set_set]
    refine r_k hO d_M_pressesOf_60 ?_
    refine r_k hO d_M_pressesOf_61 ?_
    refine r_cS3fi hO hE (c_M_within _ _ _) mf_M_within lk_M_104 (by decide) rfl (Nat.le_of_ble_eq_true rfl) d_M_pressesOf_64 (Nat.zero_le _) (Nat.zero_le _) ?_
    try simp (disch := omega) only [cd_set_eq, cd_set_ne, cd_set_set]
    refine r_tops (show _ = cd_pl (I (m + 1)) i tc by
      unfold cd_pl
      rw [if_pos c_43, etj, hx, h1, cd_wo_eq (by unfold cd_tn; rw [nI_clamp (by omega)]; exact hn) hn9]
      unfold cd_tn
      rw [nI_clamp (by omega)]) ?_
    have h2 : I2 (m + 1) = I (m + 1) := (ho2 _ (by simp)).trans h1
    exact rest _ _ h2 (ho1.tr (ho2.mono (by simp)))
  · refine r_aload hO d_M_pressesOf_46 rfl ?_
    refine r_iload hO d_M_pressesOf_47 rfl ?_
    refine r_k hO d_M_pressesOf_48 ?_
    refine r_cV2fi hO hE (c_M_of hM _ _ (by omega)) mf_M_of lk_M_97 hM.2.1 rfl (by decide) rfl (Nat.le_of_ble_eq_true rfl) d_M_pressesOf_49 (Nat.zero_le _) (Nat.zero_le _) ?_
    try simp (disch := omega) only [cd_set_eq, cd_set_ne, cd_set_set]
    rw [h1]
    refine r_tops (show _ = cd_pl (I (m + 1)) i tc by unfold cd_pl; rw [if_neg c_43]) ?_
    refine r_goto hO d_M_pressesOf_52 ?_
    exact rest _ _ h1 ho1
