theorem cd_dep_le (nt : Int32) (c : Nat → Int32) (k : Nat) : cd_dep nt c k ≤ k := by
  induction k with
  | zero => exact Nat.le_refl _
  | succ k ih =>
    unfold cd_dep
    split
    · split <;> omega
    · omega
theorem d_M_worksOut_0 : cd_Dk b_M_worksOut 0 (nI 0) 1 := Or.inl ⟨0, ⟨by decide +kernel, rfl⟩, by decide +kernel⟩
theorem d_M_worksOut_1 : cd_D_istore b_M_worksOut 1 2 2 := Or.inr ⟨2, ⟨by decide +kernel, rfl⟩, rfl⟩
theorem d_M_worksOut_2 : cd_D_aload b_M_worksOut 2 0 3 := Or.inr ⟨0, ⟨by decide +kernel, rfl⟩, rfl⟩
theorem d_M_worksOut_3 : cd_D 3 b_M_worksOut 3 (.getfield 9) 6 := ⟨by decide +kernel, rfl⟩
theorem d_M_worksOut_6 : cd_Dk b_M_worksOut 6 (nI 76) 8 := Or.inr (Or.inl ⟨76, ⟨by decide +kernel, rfl⟩, by decide +kernel⟩)
theorem d_M_worksOut_8 : cd_Dk b_M_worksOut 8 (nI 2) 9 := Or.inl ⟨2, ⟨by decide +kernel, rfl⟩, by decide +kernel⟩
theorem d_M_worksOut_9 : cd_D_iload b_M_worksOut 9 1 10 := Or.inr ⟨1, ⟨by decide +kernel, rfl⟩, rfl⟩
theorem d_M_worksOut_10 : cd_D 1 b_M_worksOut 10 .imul 11 := ⟨by decide +kernel, rfl⟩
theorem d_M_worksOut_11 : cd_D 1 b_M_worksOut 11 .iadd 12 := ⟨by decide +kernel, rfl⟩
theorem d_M_worksOut_12 : cd_D 1 b_M_worksOut 12 .iaload 13 := ⟨by decide +kernel, rfl⟩
theorem d_M_worksOut_13 : cd_Dk b_M_worksOut 13 (nI 1000) 16 := Or.inr (Or.inr ⟨1000, ⟨by decide +kernel, rfl⟩, by decide +kernel⟩)
theorem d_M_worksOut_16 : cd_D 1 b_M_worksOut 16 .irem 17 := ⟨by decide +kernel, rfl⟩
theorem d_M_worksOut_17 : cd_D_istore b_M_worksOut 17 3 18 := Or.inr ⟨3, ⟨by decide +kernel, rfl⟩, rfl⟩
theorem d_M_worksOut_18 : cd_Dk b_M_worksOut 18 (nI 0) 19 := Or.inl ⟨0, ⟨by decide +kernel, rfl⟩, by decide +kernel⟩
theorem d_M_worksOut_19 : cd_D_istore b_M_worksOut 19 4 21 := Or.inl ⟨by decide +kernel, rfl⟩
theorem d_M_worksOut_21 : cd_D_iload b_M_worksOut 21 4 23 := Or.inl ⟨by decide +kernel, rfl⟩
theorem d_M_worksOut_23 : cd_D_iload b_M_worksOut 23 3 24 := Or.inr ⟨3, ⟨by decide +kernel, rfl⟩, rfl⟩
theorem d_M_worksOut_24 : cd_D_icmp_ge b_M_worksOut 24 155 27 := ⟨131, by decide +kernel, by decide, rfl⟩
theorem d_M_worksOut_27 : cd_D_aload b_M_worksOut 27 0 28 := Or.inr ⟨0, ⟨by decide +kernel, rfl⟩, rfl⟩
theorem d_M_worksOut_28 : cd_D 3 b_M_worksOut 28 (.getfield 9) 31 := ⟨by decide +kernel, rfl⟩
theorem d_M_worksOut_31 : cd_Dk b_M_worksOut 31 (nI 104) 33 := Or.inr (Or.inl ⟨104, ⟨by decide +kernel, rfl⟩, by decide +kernel⟩)
theorem d_M_worksOut_33 : cd_Dk b_M_worksOut 33 (nI 96) 35 := Or.inr (Or.inl ⟨96, ⟨by decide +kernel, rfl⟩, by decide +kernel⟩)
theorem d_M_worksOut_35 : cd_D_iload b_M_worksOut 35 1 36 := Or.inr ⟨1, ⟨by decide +kernel, rfl⟩, rfl⟩
theorem d_M_worksOut_36 : cd_D 1 b_M_worksOut 36 .imul 37 := ⟨by decide +kernel, rfl⟩
theorem d_M_worksOut_37 : cd_D 1 b_M_worksOut 37 .iadd 38 := ⟨by decide +kernel, rfl⟩
theorem d_M_worksOut_38 : cd_D_iload b_M_worksOut 38 4 40 := Or.inl ⟨by decide +kernel, rfl⟩
theorem d_M_worksOut_40 : cd_D 1 b_M_worksOut 40 .iadd 41 := ⟨by decide +kernel, rfl⟩
theorem d_M_worksOut_41 : cd_D 1 b_M_worksOut 41 .iaload 42 := ⟨by decide +kernel, rfl⟩
theorem d_M_worksOut_42 : cd_D_istore b_M_worksOut 42 5 44 := Or.inl ⟨by decide +kernel, rfl⟩
theorem d_M_worksOut_44 : cd_D_iload b_M_worksOut 44 5 46 := Or.inl ⟨by decide +kernel, rfl⟩
theorem d_M_worksOut_46 : cd_D_if_lt b_M_worksOut 46 85 49 := ⟨39, by decide +kernel, by decide, rfl⟩
theorem d_M_worksOut_49 : cd_D_aload b_M_worksOut 49 0 50 := Or.inr ⟨0, ⟨by decide +kernel, rfl⟩, rfl⟩
theorem d_M_worksOut_50 : cd_D 3 b_M_worksOut 50 (.getfield 42) 53 := ⟨by decide +kernel, rfl⟩
theorem d_M_worksOut_53 : cd_D_iload b_M_worksOut 53 2 54 := Or.inr ⟨2, ⟨by decide +kernel, rfl⟩, rfl⟩
theorem d_M_worksOut_54 : cd_D_iload b_M_worksOut 54 5 56 := Or.inl ⟨by decide +kernel, rfl⟩
theorem d_M_worksOut_56 : cd_Dk b_M_worksOut 56 (nI 10000) 59 := Or.inr (Or.inr ⟨10000, ⟨by decide +kernel, rfl⟩, by decide +kernel⟩)
theorem d_M_worksOut_59 : cd_D_icmp_ge b_M_worksOut 59 67 62 := ⟨8, by decide +kernel, by decide, rfl⟩
theorem d_M_worksOut_62 : cd_D_iload b_M_worksOut 62 5 64 := Or.inl ⟨by decide +kernel, rfl⟩
theorem d_M_worksOut_64 : cd_D_goto b_M_worksOut 64 78 := ⟨14, by decide +kernel, by decide⟩
theorem d_M_worksOut_67 : cd_D_aload b_M_worksOut 67 0 68 := Or.inr ⟨0, ⟨by decide +kernel, rfl⟩, rfl⟩
theorem d_M_worksOut_68 : cd_D 3 b_M_worksOut 68 (.getfield 45) 71 := ⟨by decide +kernel, rfl⟩
theorem d_M_worksOut_71 : cd_D_iload b_M_worksOut 71 5 73 := Or.inl ⟨by decide +kernel, rfl⟩
theorem d_M_worksOut_73 : cd_Dk b_M_worksOut 73 (nI 10000) 76 := Or.inr (Or.inr ⟨10000, ⟨by decide +kernel, rfl⟩, by decide +kernel⟩)
theorem d_M_worksOut_76 : cd_D 1 b_M_worksOut 76 .isub 77 := ⟨by decide +kernel, rfl⟩
theorem d_M_worksOut_77 : cd_D 1 b_M_worksOut 77 .iaload 78 := ⟨by decide +kernel, rfl⟩
theorem d_M_worksOut_78 : cd_D 1 b_M_worksOut 78 .iastore 79 := ⟨by decide +kernel, rfl⟩
theorem d_M_worksOut_79 : cd_D 3 b_M_worksOut 79 (.iinc 2 (1)) 82 := ⟨by decide +kernel, rfl⟩
theorem d_M_worksOut_82 : cd_D_goto b_M_worksOut 82 149 := ⟨67, by decide +kernel, by decide⟩
theorem d_M_worksOut_85 : cd_D_iload b_M_worksOut 85 5 87 := Or.inl ⟨by decide +kernel, rfl⟩
theorem d_M_worksOut_87 : cd_Dk b_M_worksOut 87 (-10) 89 := Or.inr (Or.inl ⟨-10, ⟨by decide +kernel, rfl⟩, by decide +kernel⟩)
theorem d_M_worksOut_89 : cd_D_icmp_ne b_M_worksOut 89 119 92 := ⟨30, by decide +kernel, by decide, rfl⟩
theorem d_M_worksOut_92 : cd_D_aload b_M_worksOut 92 0 93 := Or.inr ⟨0, ⟨by decide +kernel, rfl⟩, rfl⟩
theorem d_M_worksOut_93 : cd_D 3 b_M_worksOut 93 (.getfield 42) 96 := ⟨by decide +kernel, rfl⟩
theorem d_M_worksOut_96 : cd_D_iload b_M_worksOut 96 2 97 := Or.inr ⟨2, ⟨by decide +kernel, rfl⟩, rfl⟩
theorem d_M_worksOut_97 : cd_Dk b_M_worksOut 97 (nI 1) 98 := Or.inl ⟨1, ⟨by decide +kernel, rfl⟩, by decide +kernel⟩
theorem d_M_worksOut_98 : cd_D 1 b_M_worksOut 98 .isub 99 := ⟨by decide +kernel, rfl⟩
theorem d_M_worksOut_99 : cd_D_aload b_M_worksOut 99 0 100 := Or.inr ⟨0, ⟨by decide +kernel, rfl⟩, rfl⟩
theorem d_M_worksOut_100 : cd_D 3 b_M_worksOut 100 (.getfield 42) 103 := ⟨by decide +kernel, rfl⟩
theorem d_M_worksOut_103 : cd_D_iload b_M_worksOut 103 2 104 := Or.inr ⟨2, ⟨by decide +kernel, rfl⟩, rfl⟩
theorem d_M_worksOut_104 : cd_Dk b_M_worksOut 104 (nI 1) 105 := Or.inl ⟨1, ⟨by decide +kernel, rfl⟩, by decide +kernel⟩
theorem d_M_worksOut_105 : cd_D 1 b_M_worksOut 105 .isub 106 := ⟨by decide +kernel, rfl⟩
theorem d_M_worksOut_106 : cd_D 1 b_M_worksOut 106 .iaload 107 := ⟨by decide +kernel, rfl⟩
theorem d_M_worksOut_107 : cd_D_if_ne b_M_worksOut 107 114 110 := ⟨7, by decide +kernel, by decide, rfl⟩
theorem d_M_worksOut_110 : cd_Dk b_M_worksOut 110 (nI 1) 111 := Or.inl ⟨1, ⟨by decide +kernel, rfl⟩, by decide +kernel⟩
theorem d_M_worksOut_111 : cd_D_goto b_M_worksOut 111 115 := ⟨4, by decide +kernel, by decide⟩
theorem d_M_worksOut_114 : cd_Dk b_M_worksOut 114 (nI 0) 115 := Or.inl ⟨0, ⟨by decide +kernel, rfl⟩, by decide +kernel⟩
theorem d_M_worksOut_115 : cd_D 1 b_M_worksOut 115 .iastore 116 := ⟨by decide +kernel, rfl⟩
theorem d_M_worksOut_116 : cd_D_goto b_M_worksOut 116 149 := ⟨33, by decide +kernel, by decide⟩
theorem d_M_worksOut_119 : cd_D 3 b_M_worksOut 119 (.iinc 2 (-1)) 122 := ⟨by decide +kernel, rfl⟩
theorem d_M_worksOut_122 : cd_D_aload b_M_worksOut 122 0 123 := Or.inr ⟨0, ⟨by decide +kernel, rfl⟩, rfl⟩
theorem d_M_worksOut_123 : cd_D 3 b_M_worksOut 123 (.getfield 42) 126 := ⟨by decide +kernel, rfl⟩
theorem d_M_worksOut_126 : cd_D_iload b_M_worksOut 126 2 127 := Or.inr ⟨2, ⟨by decide +kernel, rfl⟩, rfl⟩
theorem d_M_worksOut_127 : cd_Dk b_M_worksOut 127 (nI 1) 128 := Or.inl ⟨1, ⟨by decide +kernel, rfl⟩, by decide +kernel⟩
theorem d_M_worksOut_128 : cd_D 1 b_M_worksOut 128 .isub 129 := ⟨by decide +kernel, rfl⟩
theorem d_M_worksOut_129 : cd_D_iload b_M_worksOut 129 5 131 := Or.inl ⟨by decide +kernel, rfl⟩
theorem d_M_worksOut_131 : cd_D_aload b_M_worksOut 131 0 132 := Or.inr ⟨0, ⟨by decide +kernel, rfl⟩, rfl⟩
theorem d_M_worksOut_132 : cd_D 3 b_M_worksOut 132 (.getfield 42) 135 := ⟨by decide +kernel, rfl⟩
theorem d_M_worksOut_135 : cd_D_iload b_M_worksOut 135 2 136 := Or.inr ⟨2, ⟨by decide +kernel, rfl⟩, rfl⟩
theorem d_M_worksOut_136 : cd_Dk b_M_worksOut 136 (nI 1) 137 := Or.inl ⟨1, ⟨by decide +kernel, rfl⟩, by decide +kernel⟩
theorem d_M_worksOut_137 : cd_D 1 b_M_worksOut 137 .isub 138 := ⟨by decide +kernel, rfl⟩
theorem d_M_worksOut_138 : cd_D 1 b_M_worksOut 138 .iaload 139 := ⟨by decide +kernel, rfl⟩
theorem d_M_worksOut_139 : cd_D_aload b_M_worksOut 139 0 140 := Or.inr ⟨0, ⟨by decide +kernel, rfl⟩, rfl⟩
theorem d_M_worksOut_140 : cd_D 3 b_M_worksOut 140 (.getfield 42) 143 := ⟨by decide +kernel, rfl⟩
theorem d_M_worksOut_143 : cd_D_iload b_M_worksOut 143 2 144 := Or.inr ⟨2, ⟨by decide +kernel, rfl⟩, rfl⟩
theorem d_M_worksOut_144 : cd_D 1 b_M_worksOut 144 .iaload 145 := ⟨by decide +kernel, rfl⟩
theorem d_M_worksOut_145 : cd_D 3 b_M_worksOut 145 (.invokestatic 256) 148 := ⟨by decide +kernel, rfl⟩
theorem d_M_worksOut_148 : cd_D 1 b_M_worksOut 148 .iastore 149 := ⟨by decide +kernel, rfl⟩
theorem d_M_worksOut_149 : cd_D 3 b_M_worksOut 149 (.iinc 4 (1)) 152 := ⟨by decide +kernel, rfl⟩
theorem d_M_worksOut_152 : cd_D_goto b_M_worksOut 152 21 := ⟨-131, by decide +kernel, by decide⟩
theorem d_M_worksOut_155 : cd_D_aload b_M_worksOut 155 0 156 := Or.inr ⟨0, ⟨by decide +kernel, rfl⟩, rfl⟩
theorem d_M_worksOut_156 : cd_D 3 b_M_worksOut 156 (.getfield 42) 159 := ⟨by decide +kernel, rfl⟩
theorem d_M_worksOut_159 : cd_Dk b_M_worksOut 159 (nI 0) 160 := Or.inl ⟨0, ⟨by decide +kernel, rfl⟩, by decide +kernel⟩
theorem d_M_worksOut_160 : cd_D 1 b_M_worksOut 160 .iaload 161 := ⟨by decide +kernel, rfl⟩
theorem d_M_worksOut_161 : cd_D 1 b_M_worksOut 161 .ireturn 162 := ⟨by decide +kernel, rfl⟩
theorem c_M_worksOut {l : Launch} {w : cd_WT} {S : cd_Sp} {I : cd_Mem} {m : Nat} (hM : cd_MO w S m) (t n nb : Nat) (ht : t < 14) (fa : Nat → Int32) (hn : cd_rem (I (m + 1) (76 + 2 * t)) (nI 1000) = nI n) (hn9 : n ≤ 96) (hnb : nb ≤ 4) (hwf : cd_wf (-10) (fun k => I (m + 1) (104 + 96 * t + k)) n nb) (hd1 : 1 ≤ cd_dep (-10) (fun k => I (m + 1) (104 + 96 * t + k)) n) (hfa : ∀ j, j < nb → I (m + 12) j = fa j) : cd_C l w m_M_worksOut 1 0 0 [.ref m, .int (nI t)] S I (cd_Pi S (fun x I' => x = (cd_es cd_two (-10) fa (fun k => I (m + 1) (104 + 96 * t + k)) n).2 0 ∧ cd_off I I' [m + 11])) := by
  refine cd_intro (by decide) (by simp [Value.category]) (Nat.le_of_ble_eq_true rfl) ?_
  intro X hO hE
  show cd_J w X 0 0 S I 0 [some (.ref m), some (.int (nI t)), none, none, none, none] []
  have loop : ∀ (r k tp : Nat) (sv st : Nat → Int32) (x5 : Option Value), k + r = n → cd_es cd_two (-10) fa (fun k => I (m + 1) (104 + 96 * t + k)) k = (tp, sv) → (∀ j, j < tp → st j = sv j) → cd_J w X 0 0 S (cd_set I (m + 11) st) 21 [some (.ref m), some (.int (nI t)), some (.int (nI tp)), some (.int (nI n)), some (.int (nI k)), x5] [] := by
    intro r
    induction r with
    | zero =>
      intro k tp sv st x5 hk hz hst
      have hkn : k = n := by omega
      subst hkn
      have hdep : tp = cd_dep (-10) (fun k => I (m + 1) (104 + 96 * t + k)) k := by rw [← cd_es_dep cd_two (-10) fa, hz]
      refine r_iload hO d_M_worksOut_21 rfl ?_
      refine r_iload hO d_M_worksOut_23 rfl ?_
      refine r_icmp_ge hO d_M_worksOut_24 (fun c_24 => ?_) (fun c_24 => ?_)
      · refine r_aload hO d_M_worksOut_155 rfl ?_
        refine r_getR hO f_M_42 rfl hM.2.1 (mo_r11 hM) d_M_worksOut_156 ?_
        refine r_k hO d_M_worksOut_159 ?_
        refine r_iald hO (mo_s11 hM) (by omega) (by decide) d_M_worksOut_160 ?_
        refine r_iret hO hE (Nat.zero_le _) (Nat.zero_le _) d_M_worksOut_161 ?_
        exact ⟨_, rfl, rfl, by rw [cd_set_eq, hz]; exact hst 0 (by omega), cd_off.set _ _ (by simp)⟩
      · exact absurd (nI_le (Nat.le_refl _) (by omega)) c_24
    | succ r ih =>
      intro k tp sv st x5 hk hz hst
      have hdep : tp = cd_dep (-10) (fun k => I (m + 1) (104 + 96 * t + k)) k := by rw [← cd_es_dep cd_two (-10) fa, hz]
      obtain ⟨hw1, hw2, hw3⟩ := hwf k (by omega)
      rw [← hdep] at hw1 hw2 hw3
      have htp : tp ≤ k := by rw [hdep]; exact cd_dep_le _ _ _
      refine r_iload hO d_M_worksOut_21 rfl ?_
      refine r_iload hO d_M_worksOut_23 rfl ?_
      refine r_icmp_ge hO d_M_worksOut_24 (fun c_24 => ?_) (fun c_24 => ?_)
      · exact absurd c_24 (nI_ge (by omega) (by omega))
      · refine r_aload hO d_M_worksOut_27 rfl ?_
        refine r_getR hO f_M_9 rfl hM.2.1 (mo_r1 hM) d_M_worksOut_28 ?_
        refine r_k hO d_M_worksOut_31 ?_
        refine r_k hO d_M_worksOut_33 ?_
        refine r_iload hO d_M_worksOut_35 rfl ?_
        refine r_imulN hO d_M_worksOut_36 ?_
        refine r_iaddN hO d_M_worksOut_37 ?_
        refine r_iload hO d_M_worksOut_38 rfl ?_
        refine r_iaddN hO d_M_worksOut_40 ?_
        refine r_iald hO (mo_s1 hM) (by omega) (by decide) d_M_worksOut_41 ?_
        simp (disch := omega) only [cd_set_eq, cd_set_ne, cd_set_set]
        refine r_sI5 hO d_M_worksOut_42 rfl ?_
        refine r_iload hO d_M_worksOut_44 rfl ?_
        refine r_if_lt hO d_M_worksOut_46 (fun c_46 => ?_) (fun c_46 => ?_)
        · have hw0 := c_46
          refine r_iload hO d_M_worksOut_85 rfl ?_
          refine r_k hO d_M_worksOut_87 ?_
          refine r_icmp_ne hO d_M_worksOut_89 (fun c_89 => ?_) (fun c_89 => ?_)
          · have hw3 := hw3 hw0 c_89
            refine r_inc2 hO d_M_worksOut_119 (show nI tp + Int32.ofInt (-1) = nI (tp - 1) from sb_m1 (by omega)) rfl ?_
            refine r_aload hO d_M_worksOut_122 rfl ?_
            refine r_getR hO f_M_42 rfl hM.2.1 (mo_r11 hM) d_M_worksOut_123 ?_
            refine r_iload hO d_M_worksOut_126 rfl ?_
            refine r_k hO d_M_worksOut_127 ?_
            refine r_isubN hO d_M_worksOut_128 (by omega) ?_
            refine r_iload hO d_M_worksOut_129 rfl ?_
            refine r_aload hO d_M_worksOut_131 rfl ?_
            refine r_getR hO f_M_42 rfl hM.2.1 (mo_r11 hM) d_M_worksOut_132 ?_
            refine r_iload hO d_M_worksOut_135 rfl ?_
            refine r_k hO d_M_worksOut_136 ?_
            refine r_isubN hO d_M_worksOut_137 (by omega) ?_
            refine r_iald hO (mo_s11 hM) (by omega) (by decide) d_M_worksOut_138 ?_
            simp (disch := omega) only [cd_set_eq, cd_set_ne, cd_set_set]
            refine r_aload hO d_M_worksOut_139 rfl ?_
            refine r_getR hO f_M_42 rfl hM.2.1 (mo_r11 hM) d_M_worksOut_140 ?_
            refine r_iload hO d_M_worksOut_143 rfl ?_
            refine r_iald hO (mo_s11 hM) (by omega) (by decide) d_M_worksOut_144 ?_
            simp (disch := omega) only [cd_set_eq, cd_set_ne, cd_set_set]
            refine r_cS3fi hO hE (c_M_two _ _ _) mf_M_two lk_M_256 (by decide) rfl (Nat.le_of_ble_eq_true rfl) d_M_worksOut_145 (Nat.zero_le _) (Nat.zero_le _) ?_
            refine r_iast hO (mo_s11 hM) (mo_l11 hM) (by omega) (by decide) d_M_worksOut_148 ?_
            simp (disch := omega) only [cd_set_eq, cd_set_ne, cd_set_set]
            refine r_incN4 hO d_M_worksOut_149 rfl ?_
            refine r_goto hO d_M_worksOut_152 ?_
            refine ih (k + 1) (tp - 1) (upd sv (tp - 1 - 1) (cd_two (I (m + 1) (104 + 96 * t + k)) (sv (tp - 1 - 1)) (sv (tp - 1)))) _ _ (by omega) (by simp only [cd_es, hz, hw0, c_89, if_true, if_false]) (fun j hj => ?_)
            rw [hst (tp - 1 - 1) (by omega), hst (tp - 1) (by omega)]
            by_cases hjt : j = tp - 1 - 1
            · subst hjt; simp only [upd, if_true]
            · simp only [upd, hjt, if_false]; exact hst j (by omega)
          · have hw2 := hw2 c_89
            refine r_aload hO d_M_worksOut_92 rfl ?_
            refine r_getR hO f_M_42 rfl hM.2.1 (mo_r11 hM) d_M_worksOut_93 ?_
            refine r_iload hO d_M_worksOut_96 rfl ?_
            refine r_k hO d_M_worksOut_97 ?_
            refine r_isubN hO d_M_worksOut_98 (by omega) ?_
            refine r_aload hO d_M_worksOut_99 rfl ?_
            refine r_getR hO f_M_42 rfl hM.2.1 (mo_r11 hM) d_M_worksOut_100 ?_
            refine r_iload hO d_M_worksOut_103 rfl ?_
            refine r_k hO d_M_worksOut_104 ?_
            refine r_isubN hO d_M_worksOut_105 (by omega) ?_
            refine r_iald hO (mo_s11 hM) (by omega) (by decide) d_M_worksOut_106 ?_
            simp (disch := omega) only [cd_set_eq, cd_set_ne, cd_set_set]
            refine r_if_ne hO d_M_worksOut_107 (fun c_107 => ?_) (fun c_107 => ?_)
            · refine r_k hO d_M_worksOut_114 ?_
              refine r_iast hO (mo_s11 hM) (mo_l11 hM) (by omega) (by decide) d_M_worksOut_115 ?_
              refine r_goto hO d_M_worksOut_116 ?_
              simp (disch := omega) only [cd_set_eq, cd_set_ne, cd_set_set]
              refine r_incN4 hO d_M_worksOut_149 rfl ?_
              refine r_goto hO d_M_worksOut_152 ?_
              have hs0 := hst (tp - 1) (by omega)
              refine ih (k + 1) tp (upd sv (tp - 1) (nI 0)) _ _ (by omega) (by rw [hs0] at c_107; simp only [cd_es, hz, hw0, c_89, c_107, if_true, if_false, show ((-10 : Int32) < 0) from by decide]) (fun j hj => ?_)
              by_cases hjt : j = tp - 1
              · subst hjt; simp only [upd, if_true]
              · simp only [upd, hjt, if_false]; exact hst j (by omega)
            · refine r_k hO d_M_worksOut_110 ?_
              refine r_goto hO d_M_worksOut_111 ?_
              refine r_iast hO (mo_s11 hM) (mo_l11 hM) (by omega) (by decide) d_M_worksOut_115 ?_
              refine r_goto hO d_M_worksOut_116 ?_
              simp (disch := omega) only [cd_set_eq, cd_set_ne, cd_set_set]
              refine r_incN4 hO d_M_worksOut_149 rfl ?_
              refine r_goto hO d_M_worksOut_152 ?_
              have hs0 := hst (tp - 1) (by omega)
              refine ih (k + 1) tp (upd sv (tp - 1) (nI 1)) _ _ (by omega) (by rw [hs0] at c_107; simp only [cd_es, hz, hw0, c_89, c_107, if_true, if_false, show ((-10 : Int32) < 0) from by decide]) (fun j hj => ?_)
              by_cases hjt : j = tp - 1
              · subst hjt; simp only [upd, if_true]
              · simp only [upd, hjt, if_false]; exact hst j (by omega)
        · have hw1 := hw1 c_46
          refine r_aload hO d_M_worksOut_49 rfl ?_
          refine r_getR hO f_M_42 rfl hM.2.1 (mo_r11 hM) d_M_worksOut_50 ?_
          refine r_iload hO d_M_worksOut_53 rfl ?_
          refine r_iload hO d_M_worksOut_54 rfl ?_
          refine r_k hO d_M_worksOut_56 ?_
          refine r_icmp_ge hO d_M_worksOut_59 (fun c_59 => ?_) (fun c_59 => ?_)
          · obtain ⟨j0, hj0, hcj⟩ : ∃ j, j < nb ∧ I (m + 1) (104 + 96 * t + k) = nI (10000 + j) := hw1.2.resolve_left (fun q => q c_59)
            refine r_aload hO d_M_worksOut_67 rfl ?_
            refine r_getR hO f_M_45 rfl hM.2.1 (mo_r12 hM) d_M_worksOut_68 ?_
            refine r_iload hO d_M_worksOut_71 rfl ?_
            refine r_k hO d_M_worksOut_73 ?_
            refine r_isub hO d_M_worksOut_76 ?_
            refine r_tops (show _ = nI j0 by rw [hcj, pk_sub (Nat.le_add_right _ _), Nat.add_sub_cancel_left]) ?_
            refine r_iald hO (mo_s12 hM) (by omega) (by decide) d_M_worksOut_77 ?_
            simp (disch := omega) only [cd_set_eq, cd_set_ne, cd_set_set]
            refine r_iast hO (mo_s11 hM) (mo_l11 hM) (by omega) (by decide) d_M_worksOut_78 ?_
            refine r_incN2 hO d_M_worksOut_79 rfl ?_
            refine r_goto hO d_M_worksOut_82 ?_
            simp (disch := omega) only [cd_set_eq, cd_set_ne, cd_set_set]
            refine r_incN4 hO d_M_worksOut_149 rfl ?_
            refine r_goto hO d_M_worksOut_152 ?_
            refine ih (k + 1) (tp + 1) (upd sv tp (fa j0)) _ _ (by omega) (by simp only [cd_es, hz, c_46, c_59, if_true, if_false]; rw [hcj, pk_sub (Nat.le_add_right _ _), Nat.add_sub_cancel_left]; unfold cd_tn; rw [nI_clamp (by omega)]) (fun j hj => ?_)
            by_cases hjt : j = tp
            · subst hjt; simp only [upd, if_true]; exact hfa j0 hj0
            · simp only [upd, hjt, if_false]; exact hst j (by omega)
          · refine r_iload hO d_M_worksOut_62 rfl ?_
            refine r_goto hO d_M_worksOut_64 ?_
            refine r_iast hO (mo_s11 hM) (mo_l11 hM) (by omega) (by decide) d_M_worksOut_78 ?_
            refine r_incN2 hO d_M_worksOut_79 rfl ?_
            refine r_goto hO d_M_worksOut_82 ?_
            simp (disch := omega) only [cd_set_eq, cd_set_ne, cd_set_set]
            refine r_incN4 hO d_M_worksOut_149 rfl ?_
            refine r_goto hO d_M_worksOut_152 ?_
            refine ih (k + 1) (tp + 1) (upd sv tp (I (m + 1) (104 + 96 * t + k))) _ _ (by omega) (by simp only [cd_es, hz, c_46, c_59, if_true, if_false]) (fun j hj => ?_)
            by_cases hjt : j = tp
            · subst hjt; simp only [upd, if_true]
            · simp only [upd, hjt, if_false]; exact hst j (by omega)
  have e0 : I = cd_set I (m + 11) (I (m + 11)) := (cd_set_self _ _).symm
  refine r_k hO d_M_worksOut_0 ?_
  refine r_sI2 hO d_M_worksOut_1 rfl ?_
  refine r_aload hO d_M_worksOut_2 rfl ?_
  refine r_getR hO f_M_9 rfl hM.2.1 (mo_r1 hM) d_M_worksOut_3 ?_
  refine r_k hO d_M_worksOut_6 ?_
  refine r_k hO d_M_worksOut_8 ?_
  refine r_iload hO d_M_worksOut_9 rfl ?_
  refine r_imulN hO d_M_worksOut_10 ?_
  refine r_iaddN hO d_M_worksOut_11 ?_
  refine r_iald hO (mo_s1 hM) (by omega) (by decide) d_M_worksOut_12 ?_
  refine r_k hO d_M_worksOut_13 ?_
  refine r_irem hO d_M_worksOut_16 (by decide) ?_
  refine r_tops hn ?_
  refine r_sI3 hO d_M_worksOut_17 rfl ?_
  refine r_k hO d_M_worksOut_18 ?_
  refine r_sI4 hO d_M_worksOut_19 rfl ?_
  rw [e0]
  exact loop n 0 0 (fun _ => 0) _ _ (by omega) rfl (fun j hj => by omega)
