theorem d_M_count_0 : cd_D_iload b_M_count 0 1 1 := Or.inr ⟨1, ⟨by decide +kernel, rfl⟩, rfl⟩
theorem d_M_count_1 : cd_Dk b_M_count 1 (nI 1) 2 := Or.inl ⟨1, ⟨by decide +kernel, rfl⟩, by decide +kernel⟩
theorem d_M_count_2 : cd_Dk b_M_count 2 (nI 5) 3 := Or.inl ⟨5, ⟨by decide +kernel, rfl⟩, by decide +kernel⟩
theorem d_M_count_3 : cd_D 3 b_M_count 3 (.invokestatic 75) 6 := ⟨by decide +kernel, rfl⟩
theorem d_M_count_6 : cd_D_if_eq b_M_count 6 20 9 := ⟨14, by decide +kernel, by decide, rfl⟩
theorem d_M_count_9 : cd_D_aload b_M_count 9 0 10 := Or.inr ⟨0, ⟨by decide +kernel, rfl⟩, rfl⟩
theorem d_M_count_10 : cd_D 3 b_M_count 10 (.getfield 9) 13 := ⟨by decide +kernel, rfl⟩
theorem d_M_count_13 : cd_Dk b_M_count 13 (nI 2) 14 := Or.inl ⟨2, ⟨by decide +kernel, rfl⟩, by decide +kernel⟩
theorem d_M_count_14 : cd_D_iload b_M_count 14 1 15 := Or.inr ⟨1, ⟨by decide +kernel, rfl⟩, rfl⟩
theorem d_M_count_15 : cd_D 1 b_M_count 15 .iadd 16 := ⟨by decide +kernel, rfl⟩
theorem d_M_count_16 : cd_Dk b_M_count 16 (nI 1) 17 := Or.inl ⟨1, ⟨by decide +kernel, rfl⟩, by decide +kernel⟩
theorem d_M_count_17 : cd_D 1 b_M_count 17 .isub 18 := ⟨by decide +kernel, rfl⟩
theorem d_M_count_18 : cd_D 1 b_M_count 18 .iaload 19 := ⟨by decide +kernel, rfl⟩
theorem d_M_count_19 : cd_D 1 b_M_count 19 .ireturn 20 := ⟨by decide +kernel, rfl⟩
theorem d_M_count_20 : cd_D_iload b_M_count 20 1 21 := Or.inr ⟨1, ⟨by decide +kernel, rfl⟩, rfl⟩
theorem d_M_count_21 : decode b_M_count 21 = .ok (.tableswitch (111) (0) (11) #[63, 111, 111, 111, 111, 111, 70, 78, 86, 94, 99, 104], 63) := by decide +kernel
theorem d_M_count_84 : cd_D_aload b_M_count 84 0 85 := Or.inr ⟨0, ⟨by decide +kernel, rfl⟩, rfl⟩
theorem d_M_count_85 : cd_D 3 b_M_count 85 (.getfield 9) 88 := ⟨by decide +kernel, rfl⟩
theorem d_M_count_88 : cd_Dk b_M_count 88 (nI 1) 89 := Or.inl ⟨1, ⟨by decide +kernel, rfl⟩, by decide +kernel⟩
theorem d_M_count_89 : cd_D 1 b_M_count 89 .iaload 90 := ⟨by decide +kernel, rfl⟩
theorem d_M_count_90 : cd_D 1 b_M_count 90 .ireturn 91 := ⟨by decide +kernel, rfl⟩
theorem d_M_count_91 : cd_D_aload b_M_count 91 0 92 := Or.inr ⟨0, ⟨by decide +kernel, rfl⟩, rfl⟩
theorem d_M_count_92 : cd_D 3 b_M_count 92 (.getfield 9) 95 := ⟨by decide +kernel, rfl⟩
theorem d_M_count_95 : cd_Dk b_M_count 95 (nI 8) 97 := Or.inr (Or.inl ⟨8, ⟨by decide +kernel, rfl⟩, by decide +kernel⟩)
theorem d_M_count_97 : cd_D 1 b_M_count 97 .iaload 98 := ⟨by decide +kernel, rfl⟩
theorem d_M_count_98 : cd_D 1 b_M_count 98 .ireturn 99 := ⟨by decide +kernel, rfl⟩
theorem d_M_count_99 : cd_D_aload b_M_count 99 0 100 := Or.inr ⟨0, ⟨by decide +kernel, rfl⟩, rfl⟩
theorem d_M_count_100 : cd_D 3 b_M_count 100 (.getfield 9) 103 := ⟨by decide +kernel, rfl⟩
theorem d_M_count_103 : cd_Dk b_M_count 103 (nI 9) 105 := Or.inr (Or.inl ⟨9, ⟨by decide +kernel, rfl⟩, by decide +kernel⟩)
theorem d_M_count_105 : cd_D 1 b_M_count 105 .iaload 106 := ⟨by decide +kernel, rfl⟩
theorem d_M_count_106 : cd_D 1 b_M_count 106 .ireturn 107 := ⟨by decide +kernel, rfl⟩
theorem d_M_count_107 : cd_D_aload b_M_count 107 0 108 := Or.inr ⟨0, ⟨by decide +kernel, rfl⟩, rfl⟩
theorem d_M_count_108 : cd_D 3 b_M_count 108 (.getfield 9) 111 := ⟨by decide +kernel, rfl⟩
theorem d_M_count_111 : cd_Dk b_M_count 111 (nI 15) 113 := Or.inr (Or.inl ⟨15, ⟨by decide +kernel, rfl⟩, by decide +kernel⟩)
theorem d_M_count_113 : cd_D 1 b_M_count 113 .iaload 114 := ⟨by decide +kernel, rfl⟩
theorem d_M_count_114 : cd_D 1 b_M_count 114 .ireturn 115 := ⟨by decide +kernel, rfl⟩
theorem d_M_count_115 : cd_D_aload b_M_count 115 0 116 := Or.inr ⟨0, ⟨by decide +kernel, rfl⟩, rfl⟩
theorem d_M_count_116 : cd_D 3 b_M_count 116 (.getfield 267) 119 := ⟨by decide +kernel, rfl⟩
theorem d_M_count_119 : cd_D 1 b_M_count 119 .ireturn 120 := ⟨by decide +kernel, rfl⟩
theorem d_M_count_120 : cd_D_aload b_M_count 120 0 121 := Or.inr ⟨0, ⟨by decide +kernel, rfl⟩, rfl⟩
theorem d_M_count_121 : cd_D 3 b_M_count 121 (.getfield 191) 124 := ⟨by decide +kernel, rfl⟩
theorem d_M_count_124 : cd_D 1 b_M_count 124 .ireturn 125 := ⟨by decide +kernel, rfl⟩
theorem d_M_count_125 : cd_D_aload b_M_count 125 0 126 := Or.inr ⟨0, ⟨by decide +kernel, rfl⟩, rfl⟩
theorem d_M_count_126 : cd_D 3 b_M_count 126 (.getfield 9) 129 := ⟨by decide +kernel, rfl⟩
theorem d_M_count_129 : cd_Dk b_M_count 129 (nI 0) 130 := Or.inl ⟨0, ⟨by decide +kernel, rfl⟩, by decide +kernel⟩
theorem d_M_count_130 : cd_D 1 b_M_count 130 .iaload 131 := ⟨by decide +kernel, rfl⟩
theorem d_M_count_131 : cd_D 1 b_M_count 131 .ireturn 132 := ⟨by decide +kernel, rfl⟩
theorem d_M_count_132 : cd_D 2 b_M_count 132 (.ldc 87) 134 := ⟨by decide +kernel, rfl⟩
theorem d_M_count_134 : cd_D 1 b_M_count 134 .ireturn 135 := ⟨by decide +kernel, rfl⟩
theorem c_M_count {l : Launch} {w : cd_WT} {S : cd_Sp} {I : cd_Mem} {m : Nat} (hM : cd_MO w S m) (q : Int32) : cd_C l w m_M_count 1 0 0 [.ref m, .int q] S I (cd_Fi S (sp_count (I (m + 1)) (I m 32) (I m 6) q) I) := by
  refine cd_intro (by decide) (by simp [Value.category]) (Nat.le_of_ble_eq_true rfl) ?_
  intro X hO hE
  show cd_J w X 0 0 S I 0 [some (.ref m), some (.int q)] []
  refine r_iload hO d_M_count_0 rfl ?_
  refine r_k hO d_M_count_1 ?_
  refine r_k hO d_M_count_2 ?_
  refine r_cS3fi hO hE (c_M_in _ _ _) mf_M_in lk_M_75 (by decide) rfl (Nat.le_of_ble_eq_true rfl) d_M_count_3 (Nat.zero_le _) (Nat.zero_le _) ?_
  refine r_if_eqB hO d_M_count_6 (fun c_6 => ?_) (fun c_6 => ?_)
  · refine r_iload hO d_M_count_20 rfl ?_
    by_cases c_21_0 : q = nI 0
    · refine r_tabE hO d_M_count_21 c_21_0 (off := 63) (by decide) (by decide) (by decide) (tgt := 84) (by decide) ?_
      refine r_aload hO d_M_count_84 rfl ?_
      refine r_getR hO f_M_9 rfl hM.2.1 (mo_r1 hM) d_M_count_85 ?_
      refine r_k hO d_M_count_88 ?_
      refine r_iald hO (mo_s1 hM) (by omega) (by decide) d_M_count_89 ?_
      refine r_iret hO hE (Nat.zero_le _) (Nat.zero_le _) d_M_count_90 ?_
      exact ⟨by unfold sp_count; rw [if_neg c_6, if_pos c_21_0], rfl, rfl⟩
    by_cases c_21_6 : q = nI 6
    · refine r_tabE hO d_M_count_21 c_21_6 (off := 70) (by decide) (by decide) (by decide) (tgt := 91) (by decide) ?_
      refine r_aload hO d_M_count_91 rfl ?_
      refine r_getR hO f_M_9 rfl hM.2.1 (mo_r1 hM) d_M_count_92 ?_
      refine r_k hO d_M_count_95 ?_
      refine r_iald hO (mo_s1 hM) (by omega) (by decide) d_M_count_97 ?_
      refine r_iret hO hE (Nat.zero_le _) (Nat.zero_le _) d_M_count_98 ?_
      exact ⟨by unfold sp_count; rw [if_neg c_6, if_neg c_21_0, if_pos c_21_6], rfl, rfl⟩
    by_cases c_21_7 : q = nI 7
    · refine r_tabE hO d_M_count_21 c_21_7 (off := 78) (by decide) (by decide) (by decide) (tgt := 99) (by decide) ?_
      refine r_aload hO d_M_count_99 rfl ?_
      refine r_getR hO f_M_9 rfl hM.2.1 (mo_r1 hM) d_M_count_100 ?_
      refine r_k hO d_M_count_103 ?_
      refine r_iald hO (mo_s1 hM) (by omega) (by decide) d_M_count_105 ?_
      refine r_iret hO hE (Nat.zero_le _) (Nat.zero_le _) d_M_count_106 ?_
      exact ⟨by unfold sp_count; rw [if_neg c_6, if_neg c_21_0, if_neg c_21_6, if_pos c_21_7], rfl, rfl⟩
    by_cases c_21_8 : q = nI 8
    · refine r_tabE hO d_M_count_21 c_21_8 (off := 86) (by decide) (by decide) (by decide) (tgt := 107) (by decide) ?_
      refine r_aload hO d_M_count_107 rfl ?_
      refine r_getR hO f_M_9 rfl hM.2.1 (mo_r1 hM) d_M_count_108 ?_
      refine r_k hO d_M_count_111 ?_
      refine r_iald hO (mo_s1 hM) (by omega) (by decide) d_M_count_113 ?_
      refine r_iret hO hE (Nat.zero_le _) (Nat.zero_le _) d_M_count_114 ?_
      exact ⟨by unfold sp_count; rw [if_neg c_6, if_neg c_21_0, if_neg c_21_6, if_neg c_21_7, if_pos c_21_8], rfl, rfl⟩
    by_cases c_21_9 : q = nI 9
    · refine r_tabE hO d_M_count_21 c_21_9 (off := 94) (by decide) (by decide) (by decide) (tgt := 115) (by decide) ?_
      refine r_aload hO d_M_count_115 rfl ?_
      refine r_getI hO f_M_267 rfl hM.2.1 d_M_count_116 ?_
      refine r_iret hO hE (Nat.zero_le _) (Nat.zero_le _) d_M_count_119 ?_
      exact ⟨by unfold sp_count; rw [if_neg c_6, if_neg c_21_0, if_neg c_21_6, if_neg c_21_7, if_neg c_21_8, if_pos c_21_9], rfl, rfl⟩
    by_cases c_21_10 : q = nI 10
    · refine r_tabE hO d_M_count_21 c_21_10 (off := 99) (by decide) (by decide) (by decide) (tgt := 120) (by decide) ?_
      refine r_aload hO d_M_count_120 rfl ?_
      refine r_getI hO f_M_191 rfl hM.2.1 d_M_count_121 ?_
      refine r_iret hO hE (Nat.zero_le _) (Nat.zero_le _) d_M_count_124 ?_
      exact ⟨by unfold sp_count; rw [if_neg c_6, if_neg c_21_0, if_neg c_21_6, if_neg c_21_7, if_neg c_21_8, if_neg c_21_9, if_pos c_21_10], rfl, rfl⟩
    by_cases c_21_11 : q = nI 11
    · refine r_tabE hO d_M_count_21 c_21_11 (off := 104) (by decide) (by decide) (by decide) (tgt := 125) (by decide) ?_
      refine r_aload hO d_M_count_125 rfl ?_
      refine r_getR hO f_M_9 rfl hM.2.1 (mo_r1 hM) d_M_count_126 ?_
      refine r_k hO d_M_count_129 ?_
      refine r_iald hO (mo_s1 hM) (by omega) (by decide) d_M_count_130 ?_
      refine r_iret hO hE (Nat.zero_le _) (Nat.zero_le _) d_M_count_131 ?_
      exact ⟨by unfold sp_count; rw [if_neg c_6, if_neg c_21_0, if_neg c_21_6, if_neg c_21_7, if_neg c_21_8, if_neg c_21_9, if_neg c_21_10, if_pos c_21_11], rfl, rfl⟩
    refine r_tabN hO d_M_count_21 (by decide) (fun j hj => ?_) (tgt := 132) (by decide) ?_
    · have hj2 : j < 12 := hj
      rcases (show j = 0 ∨ j = 1 ∨ j = 2 ∨ j = 3 ∨ j = 4 ∨ j = 5 ∨ j = 6 ∨ j = 7 ∨ j = 8 ∨ j = 9 ∨ j = 10 ∨ j = 11 by omega) with rfl | rfl | rfl | rfl | rfl | rfl | rfl | rfl | rfl | rfl | rfl | rfl
      · exact Or.inl (fun e => c_21_0 (e.trans (by decide)))
      · exact Or.inr rfl
      · exact Or.inr rfl
      · exact Or.inr rfl
      · exact Or.inr rfl
      · exact Or.inr rfl
      · exact Or.inl (fun e => c_21_6 (e.trans (by decide)))
      · exact Or.inl (fun e => c_21_7 (e.trans (by decide)))
      · exact Or.inl (fun e => c_21_8 (e.trans (by decide)))
      · exact Or.inl (fun e => c_21_9 (e.trans (by decide)))
      · exact Or.inl (fun e => c_21_10 (e.trans (by decide)))
      · exact Or.inl (fun e => c_21_11 (e.trans (by decide)))
    refine r_ldc hO k_M_87 d_M_count_132 ?_
    refine r_iret hO hE (Nat.zero_le _) (Nat.zero_le _) d_M_count_134 ?_
    exact ⟨by unfold sp_count; rw [if_neg c_6, if_neg c_21_0, if_neg c_21_6, if_neg c_21_7, if_neg c_21_8, if_neg c_21_9, if_neg c_21_10, if_neg c_21_11], rfl, rfl⟩
  · obtain ⟨z, hz1, hz2, rfl⟩ := cd_in_ex c_6 (by decide) (by decide)
    refine r_aload hO d_M_count_9 rfl ?_
    refine r_getR hO f_M_9 rfl hM.2.1 (mo_r1 hM) d_M_count_10 ?_
    refine r_k hO d_M_count_13 ?_
    refine r_iload hO d_M_count_14 rfl ?_
    refine r_iaddN hO d_M_count_15 ?_
    refine r_k hO d_M_count_16 ?_
    refine r_isubN hO d_M_count_17 (by omega) ?_
    refine r_iald hO (mo_s1 hM) (by omega) (by decide) d_M_count_18 ?_
    refine r_iret hO hE (Nat.zero_le _) (Nat.zero_le _) d_M_count_19 ?_
    exact ⟨by unfold sp_count; rw [if_pos c_6, cd_tn_nI (by omega)], rfl, rfl⟩
theorem d_M_check_0 : cd_D_aload b_M_check 0 0 1 := Or.inr ⟨0, ⟨by decide +kernel, rfl⟩, rfl⟩
theorem d_M_check_1 : cd_D 3 b_M_check 1 (.getfield 267) 4 := ⟨by decide +kernel, rfl⟩
theorem d_M_check_4 : cd_D_istore b_M_check 4 2 5 := Or.inr ⟨2, ⟨by decide +kernel, rfl⟩, rfl⟩
theorem d_M_check_5 : cd_D_aload b_M_check 5 0 6 := Or.inr ⟨0, ⟨by decide +kernel, rfl⟩, rfl⟩
theorem d_M_check_6 : cd_Dk b_M_check 6 (nI 0) 7 := Or.inl ⟨0, ⟨by decide +kernel, rfl⟩, by decide +kernel⟩
theorem d_M_check_7 : cd_D 3 b_M_check 7 (.putfield 267) 10 := ⟨by decide +kernel, rfl⟩
theorem d_M_check_10 : cd_D_iload b_M_check 10 1 11 := Or.inr ⟨1, ⟨by decide +kernel, rfl⟩, rfl⟩
theorem d_M_check_11 : cd_Dk b_M_check 11 (nI 1) 12 := Or.inl ⟨1, ⟨by decide +kernel, rfl⟩, by decide +kernel⟩
theorem d_M_check_12 : cd_Dk b_M_check 12 (nI 30) 14 := Or.inr (Or.inl ⟨30, ⟨by decide +kernel, rfl⟩, by decide +kernel⟩)
theorem d_M_check_14 : cd_D 3 b_M_check 14 (.invokestatic 75) 17 := ⟨by decide +kernel, rfl⟩
theorem d_M_check_17 : cd_D_if_ne b_M_check 17 23 20 := ⟨6, by decide +kernel, by decide, rfl⟩
theorem d_M_check_20 : cd_D 2 b_M_check 20 (.ldc 87) 22 := ⟨by decide +kernel, rfl⟩
theorem d_M_check_22 : cd_D 1 b_M_check 22 .ireturn 23 := ⟨by decide +kernel, rfl⟩
theorem d_M_check_23 : cd_D_aload b_M_check 23 0 24 := Or.inr ⟨0, ⟨by decide +kernel, rfl⟩, rfl⟩
theorem d_M_check_24 : cd_D 3 b_M_check 24 (.getfield 270) 27 := ⟨by decide +kernel, rfl⟩
theorem d_M_check_27 : cd_D_if_ne b_M_check 27 34 30 := ⟨7, by decide +kernel, by decide, rfl⟩
theorem d_M_check_30 : cd_D 3 b_M_check 30 (.ldc_w 266) 33 := ⟨by decide +kernel, rfl⟩
theorem d_M_check_33 : cd_D 1 b_M_check 33 .ireturn 34 := ⟨by decide +kernel, rfl⟩
theorem d_M_check_34 : cd_D_aload b_M_check 34 0 35 := Or.inr ⟨0, ⟨by decide +kernel, rfl⟩, rfl⟩
theorem d_M_check_35 : cd_D 3 b_M_check 35 (.getfield 9) 38 := ⟨by decide +kernel, rfl⟩
theorem d_M_check_38 : cd_D_aload b_M_check 38 0 39 := Or.inr ⟨0, ⟨by decide +kernel, rfl⟩, rfl⟩
theorem d_M_check_39 : cd_D 3 b_M_check 39 (.getfield 16) 42 := ⟨by decide +kernel, rfl⟩
theorem d_M_check_42 : cd_D 3 b_M_check 42 (.invokestatic 274) 45 := ⟨by decide +kernel, rfl⟩
theorem d_M_check_45 : cd_D_aload b_M_check 45 0 46 := Or.inr ⟨0, ⟨by decide +kernel, rfl⟩, rfl⟩
theorem d_M_check_46 : cd_D 3 b_M_check 46 (.getfield 13) 49 := ⟨by decide +kernel, rfl⟩
theorem d_M_check_49 : cd_D_aload b_M_check 49 0 50 := Or.inr ⟨0, ⟨by decide +kernel, rfl⟩, rfl⟩
theorem d_M_check_50 : cd_D 3 b_M_check 50 (.getfield 9) 53 := ⟨by decide +kernel, rfl⟩
theorem d_M_check_53 : cd_D 3 b_M_check 53 (.invokestatic 274) 56 := ⟨by decide +kernel, rfl⟩
theorem d_M_check_56 : cd_Dk b_M_check 56 (nI 2) 57 := Or.inl ⟨2, ⟨by decide +kernel, rfl⟩, by decide +kernel⟩
theorem d_M_check_57 : cd_Dk b_M_check 57 (nI 9999) 60 := Or.inr (Or.inr ⟨9999, ⟨by decide +kernel, rfl⟩, by decide +kernel⟩)
theorem d_M_check_60 : cd_D_aload b_M_check 60 0 61 := Or.inr ⟨0, ⟨by decide +kernel, rfl⟩, rfl⟩
theorem d_M_check_61 : cd_D 3 b_M_check 61 (.getfield 9) 64 := ⟨by decide +kernel, rfl⟩
theorem d_M_check_64 : cd_Dk b_M_check 64 (nI 2) 65 := Or.inl ⟨2, ⟨by decide +kernel, rfl⟩, by decide +kernel⟩
theorem d_M_check_65 : cd_D 1 b_M_check 65 .iaload 66 := ⟨by decide +kernel, rfl⟩
theorem d_M_check_66 : cd_D 1 b_M_check 66 .isub 67 := ⟨by decide +kernel, rfl⟩
theorem d_M_check_67 : cd_Dk b_M_check 67 (nI 0) 68 := Or.inl ⟨0, ⟨by decide +kernel, rfl⟩, by decide +kernel⟩
theorem d_M_check_68 : cd_D_iload b_M_check 68 1 69 := Or.inr ⟨1, ⟨by decide +kernel, rfl⟩, rfl⟩
theorem d_M_check_69 : cd_D 3 b_M_check 69 (.invokestatic 104) 72 := ⟨by decide +kernel, rfl⟩
theorem d_M_check_72 : cd_D 1 b_M_check 72 .imul 73 := ⟨by decide +kernel, rfl⟩
theorem d_M_check_73 : cd_D_istore b_M_check 73 3 74 := Or.inr ⟨3, ⟨by decide +kernel, rfl⟩, rfl⟩
theorem d_M_check_74 : cd_Dk b_M_check 74 (nI 0) 75 := Or.inl ⟨0, ⟨by decide +kernel, rfl⟩, by decide +kernel⟩
theorem d_M_check_75 : cd_D_istore b_M_check 75 4 77 := Or.inl ⟨by decide +kernel, rfl⟩
theorem d_M_check_77 : cd_Dk b_M_check 77 (nI 0) 78 := Or.inl ⟨0, ⟨by decide +kernel, rfl⟩, by decide +kernel⟩
theorem d_M_check_78 : cd_D_istore b_M_check 78 5 80 := Or.inl ⟨by decide +kernel, rfl⟩
theorem d_M_check_80 : cd_Dk b_M_check 80 (nI 2) 81 := Or.inl ⟨2, ⟨by decide +kernel, rfl⟩, by decide +kernel⟩
theorem d_M_check_81 : cd_D_iload b_M_check 81 5 83 := Or.inl ⟨by decide +kernel, rfl⟩
theorem d_M_check_83 : cd_D 1 b_M_check 83 .imul 84 := ⟨by decide +kernel, rfl⟩
theorem d_M_check_84 : cd_D_iload b_M_check 84 3 85 := Or.inr ⟨3, ⟨by decide +kernel, rfl⟩, rfl⟩
theorem d_M_check_85 : cd_D_icmp_ge b_M_check 85 181 88 := ⟨96, by decide +kernel, by decide, rfl⟩
theorem d_M_check_88 : cd_D_iload b_M_check 88 4 90 := Or.inl ⟨by decide +kernel, rfl⟩
theorem d_M_check_90 : cd_Dk b_M_check 90 (nI 2) 91 := Or.inl ⟨2, ⟨by decide +kernel, rfl⟩, by decide +kernel⟩
theorem d_M_check_91 : cd_D_iload b_M_check 91 5 93 := Or.inl ⟨by decide +kernel, rfl⟩
theorem d_M_check_93 : cd_D 1 b_M_check 93 .imul 94 := ⟨by decide +kernel, rfl⟩
theorem d_M_check_94 : cd_D_icmp_ne b_M_check 94 181 97 := ⟨87, by decide +kernel, by decide, rfl⟩
theorem d_M_check_97 : cd_D_aload b_M_check 97 0 98 := Or.inr ⟨0, ⟨by decide +kernel, rfl⟩, rfl⟩
theorem d_M_check_98 : cd_D 3 b_M_check 98 (.invokevirtual 158) 101 := ⟨by decide +kernel, rfl⟩
theorem d_M_check_101 : cd_D_iload b_M_check 101 4 103 := Or.inl ⟨by decide +kernel, rfl⟩
theorem d_M_check_103 : cd_D_iload b_M_check 103 4 105 := Or.inl ⟨by decide +kernel, rfl⟩
theorem d_M_check_105 : cd_D_iload b_M_check 105 2 106 := Or.inr ⟨2, ⟨by decide +kernel, rfl⟩, rfl⟩
theorem d_M_check_106 : cd_D_icmp_ge b_M_check 106 127 109 := ⟨21, by decide +kernel, by decide, rfl⟩
theorem d_M_check_109 : cd_D_aload b_M_check 109 0 110 := Or.inr ⟨0, ⟨by decide +kernel, rfl⟩, rfl⟩
theorem d_M_check_110 : cd_D 3 b_M_check 110 (.getfield 72) 113 := ⟨by decide +kernel, rfl⟩
theorem d_M_check_113 : cd_D_iload b_M_check 113 4 115 := Or.inl ⟨by decide +kernel, rfl⟩
theorem d_M_check_115 : cd_D 1 b_M_check 115 .iaload 116 := ⟨by decide +kernel, rfl⟩
theorem d_M_check_116 : cd_D_aload b_M_check 116 0 117 := Or.inr ⟨0, ⟨by decide +kernel, rfl⟩, rfl⟩
theorem d_M_check_117 : cd_D 3 b_M_check 117 (.invokevirtual 164) 120 := ⟨by decide +kernel, rfl⟩
theorem d_M_check_120 : cd_D_icmp_ne b_M_check 120 127 123 := ⟨7, by decide +kernel, by decide, rfl⟩
theorem d_M_check_123 : cd_Dk b_M_check 123 (nI 1) 124 := Or.inl ⟨1, ⟨by decide +kernel, rfl⟩, by decide +kernel⟩
theorem d_M_check_124 : cd_D_goto b_M_check 124 128 := ⟨4, by decide +kernel, by decide⟩
theorem d_M_check_127 : cd_Dk b_M_check 127 (nI 0) 128 := Or.inl ⟨0, ⟨by decide +kernel, rfl⟩, by decide +kernel⟩
theorem d_M_check_128 : cd_D 1 b_M_check 128 .iadd 129 := ⟨by decide +kernel, rfl⟩
theorem d_M_check_129 : cd_D_istore b_M_check 129 4 131 := Or.inl ⟨by decide +kernel, rfl⟩
theorem d_M_check_131 : cd_D_iload b_M_check 131 4 133 := Or.inl ⟨by decide +kernel, rfl⟩
theorem d_M_check_133 : cd_D_iload b_M_check 133 4 135 := Or.inl ⟨by decide +kernel, rfl⟩
theorem d_M_check_135 : cd_Dk b_M_check 135 (nI 2) 136 := Or.inl ⟨2, ⟨by decide +kernel, rfl⟩, by decide +kernel⟩
theorem d_M_check_136 : cd_D_iload b_M_check 136 5 138 := Or.inl ⟨by decide +kernel, rfl⟩
theorem d_M_check_138 : cd_D 1 b_M_check 138 .imul 139 := ⟨by decide +kernel, rfl⟩
theorem d_M_check_139 : cd_Dk b_M_check 139 (nI 1) 140 := Or.inl ⟨1, ⟨by decide +kernel, rfl⟩, by decide +kernel⟩
theorem d_M_check_140 : cd_D 1 b_M_check 140 .iadd 141 := ⟨by decide +kernel, rfl⟩
theorem d_M_check_141 : cd_D_icmp_ne b_M_check 141 171 144 := ⟨30, by decide +kernel, by decide, rfl⟩
theorem d_M_check_144 : cd_D_iload b_M_check 144 4 146 := Or.inl ⟨by decide +kernel, rfl⟩
theorem d_M_check_146 : cd_D_iload b_M_check 146 2 147 := Or.inr ⟨2, ⟨by decide +kernel, rfl⟩, rfl⟩
theorem d_M_check_147 : cd_D_icmp_ge b_M_check 147 171 150 := ⟨24, by decide +kernel, by decide, rfl⟩
theorem d_M_check_150 : cd_D_aload b_M_check 150 0 151 := Or.inr ⟨0, ⟨by decide +kernel, rfl⟩, rfl⟩
theorem d_M_check_151 : cd_D 3 b_M_check 151 (.getfield 72) 154 := ⟨by decide +kernel, rfl⟩
theorem d_M_check_154 : cd_D_iload b_M_check 154 4 156 := Or.inl ⟨by decide +kernel, rfl⟩
theorem d_M_check_156 : cd_D 1 b_M_check 156 .iaload 157 := ⟨by decide +kernel, rfl⟩
theorem d_M_check_157 : cd_D_aload b_M_check 157 0 158 := Or.inr ⟨0, ⟨by decide +kernel, rfl⟩, rfl⟩
theorem d_M_check_158 : cd_D 3 b_M_check 158 (.getfield 9) 161 := ⟨by decide +kernel, rfl⟩
theorem d_M_check_161 : cd_Dk b_M_check 161 (nI 10) 163 := Or.inr (Or.inl ⟨10, ⟨by decide +kernel, rfl⟩, by decide +kernel⟩)
theorem d_M_check_163 : cd_D 1 b_M_check 163 .iaload 164 := ⟨by decide +kernel, rfl⟩
theorem d_M_check_164 : cd_D_icmp_ne b_M_check 164 171 167 := ⟨7, by decide +kernel, by decide, rfl⟩
theorem d_M_check_167 : cd_Dk b_M_check 167 (nI 1) 168 := Or.inl ⟨1, ⟨by decide +kernel, rfl⟩, by decide +kernel⟩
theorem d_M_check_168 : cd_D_goto b_M_check 168 172 := ⟨4, by decide +kernel, by decide⟩
theorem d_M_check_171 : cd_Dk b_M_check 171 (nI 0) 172 := Or.inl ⟨0, ⟨by decide +kernel, rfl⟩, by decide +kernel⟩
theorem d_M_check_172 : cd_D 1 b_M_check 172 .iadd 173 := ⟨by decide +kernel, rfl⟩
theorem d_M_check_173 : cd_D_istore b_M_check 173 4 175 := Or.inl ⟨by decide +kernel, rfl⟩
theorem d_M_check_175 : cd_D 3 b_M_check 175 (.iinc 5 (1)) 178 := ⟨by decide +kernel, rfl⟩
theorem d_M_check_178 : cd_D_goto b_M_check 178 80 := ⟨-98, by decide +kernel, by decide⟩
theorem d_M_check_181 : cd_D_aload b_M_check 181 0 182 := Or.inr ⟨0, ⟨by decide +kernel, rfl⟩, rfl⟩
theorem d_M_check_182 : cd_D 3 b_M_check 182 (.getfield 16) 185 := ⟨by decide +kernel, rfl⟩
theorem d_M_check_185 : cd_D_aload b_M_check 185 0 186 := Or.inr ⟨0, ⟨by decide +kernel, rfl⟩, rfl⟩
theorem d_M_check_186 : cd_D 3 b_M_check 186 (.getfield 9) 189 := ⟨by decide +kernel, rfl⟩
theorem d_M_check_189 : cd_D 3 b_M_check 189 (.invokestatic 274) 192 := ⟨by decide +kernel, rfl⟩
theorem d_M_check_192 : cd_D_iload b_M_check 192 4 194 := Or.inl ⟨by decide +kernel, rfl⟩
theorem d_M_check_194 : cd_D_iload b_M_check 194 2 195 := Or.inr ⟨2, ⟨by decide +kernel, rfl⟩, rfl⟩
theorem d_M_check_195 : cd_D_icmp_ne b_M_check 195 208 198 := ⟨13, by decide +kernel, by decide, rfl⟩
theorem d_M_check_198 : cd_D_iload b_M_check 198 4 200 := Or.inl ⟨by decide +kernel, rfl⟩
theorem d_M_check_200 : cd_D_iload b_M_check 200 3 201 := Or.inr ⟨3, ⟨by decide +kernel, rfl⟩, rfl⟩
theorem d_M_check_201 : cd_D_icmp_ne b_M_check 201 208 204 := ⟨7, by decide +kernel, by decide, rfl⟩
theorem d_M_check_204 : cd_Dk b_M_check 204 (nI 0) 205 := Or.inl ⟨0, ⟨by decide +kernel, rfl⟩, by decide +kernel⟩
theorem d_M_check_205 : cd_D_goto b_M_check 205 212 := ⟨7, by decide +kernel, by decide⟩
theorem d_M_check_208 : cd_Dk b_M_check 208 (nI 1) 209 := Or.inl ⟨1, ⟨by decide +kernel, rfl⟩, by decide +kernel⟩
theorem d_M_check_209 : cd_D_iload b_M_check 209 4 211 := Or.inl ⟨by decide +kernel, rfl⟩
theorem d_M_check_211 : cd_D 1 b_M_check 211 .iadd 212 := ⟨by decide +kernel, rfl⟩
theorem d_M_check_212 : cd_D 1 b_M_check 212 .ireturn 213 := ⟨by decide +kernel, rfl⟩
theorem c_M_check {l : Launch} {w : cd_WT} {S : cd_Sp} {I : cd_Mem} {m : Nat} (hM : cd_MO w S m) (mg tg hg wt : Nat) (hVg : cd_V (I (m + 2)) mg tg) (hH : I (m + 2) 2 = nI hg) (h9 : hg ≤ 9999) (hw : I m 32 = nI wt) (hw6 : wt ≤ 60) (n : Int32) : cd_C l w m_M_check 6 0 0 [.ref m, .int n] S I (cd_Pi S (fun x I' => x = sp_check (I (m + 21)) (cd_cp 1448 (I (m + 2)) (I (m + 1))) mg tg hg wt (I m 3) n ∧ cd_off (cd_set I m (upd (I m) 32 (nI 0))) I' [m + 3, m + 11, m + 12])) := by
  refine cd_intro (by decide) (by simp [Value.category]) (Nat.le_of_ble_eq_true rfl) ?_
  intro X hO hE
  show cd_J w X 0 0 S I 0 [some (.ref m), some (.int n), none, none, none, none] []
  have hmg := hVg.2.1
  have hVG : cd_V (cd_cp 1448 (I (m + 2)) (I (m + 1))) mg tg := cd_V_cg hVg (fun j hj => if_pos hj)
  have main : ∀ (I2 : cd_Mem), I2 (m + 1) = (cd_cp 1448 (I (m + 2)) (I (m + 1))) → I2 (m + 3) = cd_cp 1448 (I (m + 1)) (I (m + 3)) → cd_off (cd_set I m (upd (I m) 32 (nI 0))) I2 [m + 1, m + 3] → ∀ (z D : Nat) (hz : z ≤ 30) (hD : D ≤ 30) (hp : sp_check (I (m + 21)) (cd_cp 1448 (I (m + 2)) (I (m + 1))) mg tg hg wt (I m 3) n = if cd_cr (I (m + 21)) (cd_cp 1448 (I (m + 2)) (I (m + 1))) mg tg wt D = wt ∧ cd_cr (I (m + 21)) (cd_cp 1448 (I (m + 2)) (I (m + 1))) mg tg wt D = 2 * D then nI 0 else nI (1 + cd_cr (I (m + 21)) (cd_cp 1448 (I (m + 2)) (I (m + 1))) mg tg wt D)) (r k rt : Nat) (I3 : cd_Mem), cd_cr (I (m + 21)) (cd_cp 1448 (I (m + 2)) (I (m + 1))) mg tg wt k = rt → k + r = D → I3 (m + 1) = cd_hs (cd_cp 1448 (I (m + 2)) (I (m + 1))) mg tg k → cd_off I2 I3 [m + 1, m + 11, m + 12] → cd_J w X 0 0 S I3 80 [some (.ref m), some (.int (nI z)), some (.int (nI wt)), some (.int (nI (2 * D))), some (.int (nI rt)), some (.int (nI k))] [] := by
    intro I2 h1 h3 ho2 z D hz hD hp
    have fin : ∀ (k rt : Nat) (I3 : cd_Mem), cd_cr (I (m + 21)) (cd_cp 1448 (I (m + 2)) (I (m + 1))) mg tg wt D = rt → rt ≤ 60 → I3 (m + 1) = cd_hs (cd_cp 1448 (I (m + 2)) (I (m + 1))) mg tg k → cd_off I2 I3 [m + 1, m + 11, m + 12] → cd_J w X 0 0 S I3 181 [some (.ref m), some (.int (nI z)), some (.int (nI wt)), some (.int (nI (2 * D))), some (.int (nI rt)), some (.int (nI k))] [] := by
      intro k rt I3 hrt hr6 hI3 ho
      have hback : cd_cp 1448 (I3 (m + 3)) (I3 (m + 1)) = I (m + 1) := by
        rw [ho (m + 3) (by simp), h3, hI3]
        funext j
        unfold cd_cp
        by_cases hj : j < 1448
        · simp [hj]
        · rw [if_neg hj]
          refine (kq_hs _ hmg tg k j (by omega)).trans ?_
          simp [hj]
      refine r_aload hO d_M_check_181 rfl ?_
      refine r_getR hO f_M_16 rfl hM.2.1 (mo_r3 hM) d_M_check_182 ?_
      refine r_aload hO d_M_check_185 rfl ?_
      refine r_getR hO f_M_9 rfl hM.2.1 (mo_r1 hM) d_M_check_186 ?_
      refine r_cS2fv hO hE (c_M_copyAll (a := m + 3) (b := m + 1) (mo_s3 hM) (mo_s1 hM) (mo_l1 hM) (by omega)) mf_M_copyAll lk_M_274 (by decide) rfl (Nat.le_of_ble_eq_true rfl) d_M_check_189 (Nat.zero_le _) (Nat.zero_le _) ?_
      rw [hback]
      refine r_iload hO d_M_check_192 rfl ?_
      refine r_iload hO d_M_check_194 rfl ?_
      refine r_icmp_ne hO d_M_check_195 (fun c_195 => ?_) (fun c_195 => ?_)
      · refine r_k hO d_M_check_208 ?_
        refine r_iload hO d_M_check_209 rfl ?_
        refine r_iaddN hO d_M_check_211 ?_
        refine r_iret hO hE (Nat.zero_le _) (Nat.zero_le _) d_M_check_212 ?_
        exact ⟨_, rfl, rfl, by rw [hp, hrt, if_neg (fun q => c_195 (by rw [q.1]))], fun b hb => by
          by_cases hb1 : b = m + 1
          · subst hb1; rw [cd_set_eq, cd_set_ne _ _ (by omega)]
          · rw [cd_set_ne _ _ hb1]
            exact (ho b (by simp at hb ⊢; omega)).trans (ho2 b (by simp at hb ⊢; omega))⟩
      · refine r_iload hO d_M_check_198 rfl ?_
        refine r_iload hO d_M_check_200 rfl ?_
        refine r_icmp_ne hO d_M_check_201 (fun c_201 => ?_) (fun c_201 => ?_)
        · refine r_k hO d_M_check_208 ?_
          refine r_iload hO d_M_check_209 rfl ?_
          refine r_iaddN hO d_M_check_211 ?_
          refine r_iret hO hE (Nat.zero_le _) (Nat.zero_le _) d_M_check_212 ?_
          exact ⟨_, rfl, rfl, by rw [hp, hrt, if_neg (fun q => c_201 (by rw [q.2]))], fun b hb => by
            by_cases hb1 : b = m + 1
            · subst hb1; rw [cd_set_eq, cd_set_ne _ _ (by omega)]
            · rw [cd_set_ne _ _ hb1]
              exact (ho b (by simp at hb ⊢; omega)).trans (ho2 b (by simp at hb ⊢; omega))⟩
        · refine r_k hO d_M_check_204 ?_
          refine r_goto hO d_M_check_205 ?_
          refine r_iret hO hE (Nat.zero_le _) (Nat.zero_le _) d_M_check_212 ?_
          exact ⟨_, rfl, rfl, by rw [hp, hrt, if_pos ⟨(nI_eq (by omega) (by omega)).mp c_195, (nI_eq (by omega) (by omega)).mp c_201⟩], fun b hb => by
            by_cases hb1 : b = m + 1
            · subst hb1; rw [cd_set_eq, cd_set_ne _ _ (by omega)]
            · rw [cd_set_ne _ _ hb1]
              exact (ho b (by simp at hb ⊢; omega)).trans (ho2 b (by simp at hb ⊢; omega))⟩
    intro r
    induction r with
    | zero =>
      intro k rt I3 hrt hk hI3 ho
      have hkD : k = D := by omega
      subst hkD
      have hle := cd_cr_le (I (m + 21)) (cd_cp 1448 (I (m + 2)) (I (m + 1))) mg tg wt k
      refine r_k hO d_M_check_80 ?_
      refine r_iload hO d_M_check_81 rfl ?_
      refine r_imulN hO d_M_check_83 ?_
      refine r_iload hO d_M_check_84 rfl ?_
      refine r_icmp_ge hO d_M_check_85 (fun c_85 => ?_) (fun c_85 => ?_)
      · exact fin _ rt I3 hrt (by omega) hI3 ho
      · exact absurd (nI_le (Nat.le_refl _) (by omega)) c_85
    | succ r ih =>
      intro k rt I3 hrt hk hI3 ho
      have hle := cd_cr_le (I (m + 21)) (cd_cp 1448 (I (m + 2)) (I (m + 1))) mg tg wt k
      refine r_k hO d_M_check_80 ?_
      refine r_iload hO d_M_check_81 rfl ?_
      refine r_imulN hO d_M_check_83 ?_
      refine r_iload hO d_M_check_84 rfl ?_
      refine r_icmp_ge hO d_M_check_85 (fun c_85 => ?_) (fun c_85 => ?_)
      · exact absurd c_85 (nI_ge (by omega) (by omega))
      · refine r_iload hO d_M_check_88 rfl ?_
        refine r_k hO d_M_check_90 ?_
        refine r_iload hO d_M_check_91 rfl ?_
        refine r_imulN hO d_M_check_93 ?_
        refine r_icmp_ne hO d_M_check_94 (fun c_94 => ?_) (fun c_94 => ?_)
        · have hne : ¬ rt = 2 * k := fun q => c_94 (by rw [q])
          exact fin k rt I3 (by rw [← hrt, ← hk]; exact cd_cr_st (by rw [hrt]; exact hne) _) (by omega) hI3 ho
        · have heq : rt = 2 * k := (nI_eq (by omega) (by omega)).mp c_94
          refine r_aload hO d_M_check_97 rfl ?_
          refine r_cV0v hO hE (c_M_hour hM mg tg (by rw [hI3]; exact hVG.kq (kq_hs _ hmg tg k))) mf_M_hour lk_M_158 hM.2.1 rfl (by decide) rfl (Nat.le_of_ble_eq_true rfl) d_M_check_98 (Nat.zero_le _) (Nat.zero_le _) ?_
          rintro I4 ⟨hI4, ho4⟩
          rw [hI3] at hI4
          have h21 : I4 (m + 21) = I (m + 21) := by rw [ho4 _ (by simp), ho _ (by simp), ho2 _ (by simp), cd_set_ne _ _ (by omega)]
          refine r_iload hO d_M_check_101 rfl ?_
          refine r_iload hO d_M_check_103 rfl ?_
          refine r_iload hO d_M_check_105 rfl ?_
          refine r_jn2 (pcJ := 128) (fun v => v = nI (if rt < wt ∧ I (m + 21) rt = cd_hb (cd_hs (cd_cp 1448 (I (m + 2)) (I (m + 1))) mg tg (k + 1)) mg then 1 else 0)) (fun v_106 hv_106 => ?_) (fun hj_106 => ?_)
          · subst hv_106
            obtain ⟨b1, hb1⟩ : ∃ b, b = (if rt < wt ∧ I (m + 21) rt = cd_hb (cd_hs (cd_cp 1448 (I (m + 2)) (I (m + 1))) mg tg (k + 1)) mg then 1 else 0) := ⟨_, rfl⟩
            have hb1l : b1 ≤ 1 := by rw [hb1]; exact cd_if01 _
            rw [← hb1]
            refine r_iaddN hO d_M_check_128 ?_
            refine r_sI4 hO d_M_check_129 rfl ?_
            refine r_iload hO d_M_check_131 rfl ?_
            refine r_iload hO d_M_check_133 rfl ?_
            refine r_k hO d_M_check_135 ?_
            refine r_iload hO d_M_check_136 rfl ?_
            refine r_imulN hO d_M_check_138 ?_
            refine r_k hO d_M_check_139 ?_
            refine r_iaddN hO d_M_check_140 ?_
            refine r_jn2 (pcJ := 172) (fun v => v = nI (if rt + b1 = 2 * k + 1 ∧ rt + b1 < wt ∧ I (m + 21) (rt + b1) = cd_hs (cd_cp 1448 (I (m + 2)) (I (m + 1))) mg tg (k + 1) 10 then 1 else 0)) (fun v_141 hv_141 => ?_) (fun hj_141 => ?_)
            · subst hv_141
              refine r_iaddN hO d_M_check_172 ?_
              refine r_sI4 hO d_M_check_173 rfl ?_
              refine r_incN5 hO d_M_check_175 rfl ?_
              refine r_goto hO d_M_check_178 ?_
              exact ih (k + 1) _ I4 (by show (if _ then _ else _) = _; rw [hrt, if_pos heq, ← hb1]) (by omega) hI4 (ho.tr ho4)
            · refine r_icmp_ne hO d_M_check_141 (fun c_141 => ?_) (fun c_141 => ?_)
              · refine r_k hO d_M_check_171 ?_
                exact hj_141 _ (by rw [if_neg (fun q => c_141 (by rw [q.1]))])
              · refine r_iload hO d_M_check_144 rfl ?_
                refine r_iload hO d_M_check_146 rfl ?_
                refine r_icmp_ge hO d_M_check_147 (fun c_147 => ?_) (fun c_147 => ?_)
                · refine r_k hO d_M_check_171 ?_
                  exact hj_141 _ (by rw [if_neg (fun q => absurd c_147 (nI_ge q.2.1 (by omega)))])
                · have hrw2 : rt + b1 < wt := Nat.lt_of_not_le (fun q => c_147 (nI_le q (by omega)))
                  refine r_aload hO d_M_check_150 rfl ?_
                  refine r_getR hO f_M_72 rfl hM.2.1 (mo_r21 hM) d_M_check_151 ?_
                  refine r_iload hO d_M_check_154 rfl ?_
                  refine r_iald hO (mo_s21 hM) (by omega) (by decide) d_M_check_156 ?_
                  rw [h21]
                  refine r_aload hO d_M_check_157 rfl ?_
                  refine r_getR hO f_M_9 rfl hM.2.1 (mo_r1 hM) d_M_check_158 ?_
                  refine r_k hO d_M_check_161 ?_
                  refine r_iald hO (mo_s1 hM) (by omega) (by decide) d_M_check_163 ?_
                  rw [hI4]
                  refine r_icmp_ne hO d_M_check_164 (fun c_164 => ?_) (fun c_164 => ?_)
                  · refine r_k hO d_M_check_171 ?_
                    exact hj_141 _ (by rw [if_neg (fun q => c_164 q.2.2)])
                  · refine r_k hO d_M_check_167 ?_
                    refine r_goto hO d_M_check_168 ?_
                    exact hj_141 _ (by rw [if_pos ⟨(nI_eq (by omega) (by omega)).mp c_141, Nat.lt_of_not_le (fun q => c_147 (nI_le q (by omega))), c_164⟩])
          · refine r_icmp_ge hO d_M_check_106 (fun c_106 => ?_) (fun c_106 => ?_)
            · refine r_k hO d_M_check_127 ?_
              exact hj_106 _ (by rw [if_neg (fun q => absurd c_106 (nI_ge q.1 (by omega)))])
            · have hrw : rt < wt := Nat.lt_of_not_le (fun q => c_106 (nI_le q (by omega)))
              refine r_aload hO d_M_check_109 rfl ?_
              refine r_getR hO f_M_72 rfl hM.2.1 (mo_r21 hM) d_M_check_110 ?_
              refine r_iload hO d_M_check_113 rfl ?_
              refine r_iald hO (mo_s21 hM) (by omega) (by decide) d_M_check_115 ?_
              rw [h21]
              refine r_aload hO d_M_check_116 rfl ?_
              refine r_cV0fi hO hE (c_M_habits hM mg (by rw [hI4]; exact (hVG.kq (kq_hs _ hmg tg (k + 1))).1) hmg) mf_M_habits lk_M_164 hM.2.1 rfl (by decide) rfl (Nat.le_of_ble_eq_true rfl) d_M_check_117 (Nat.zero_le _) (Nat.zero_le _) ?_
              rw [hI4]
              refine r_icmp_ne hO d_M_check_120 (fun c_120 => ?_) (fun c_120 => ?_)
              · refine r_k hO d_M_check_127 ?_
                exact hj_106 _ (by rw [if_neg (fun q => c_120 q.2)])
              · refine r_k hO d_M_check_123 ?_
                refine r_goto hO d_M_check_124 ?_
                exact hj_106 _ (by rw [if_pos ⟨Nat.lt_of_not_le (fun q => c_106 (nI_le q (by omega))), c_120⟩])
  refine r_aload hO d_M_check_0 rfl ?_
  refine r_getI hO f_M_267 rfl hM.2.1 d_M_check_1 ?_
  refine r_tops hw ?_
  refine r_sI2 hO d_M_check_4 rfl ?_
  refine r_aload hO d_M_check_5 rfl ?_
  refine r_k hO d_M_check_6 ?_
  refine r_putI hO f_M_267 rfl hM.2.1 hM.1 d_M_check_7 ?_
  refine r_iload hO d_M_check_10 rfl ?_
  refine r_k hO d_M_check_11 ?_
  refine r_k hO d_M_check_12 ?_
  refine r_cS3fi hO hE (c_M_in _ _ _) mf_M_in lk_M_75 (by decide) rfl (Nat.le_of_ble_eq_true rfl) d_M_check_14 (Nat.zero_le _) (Nat.zero_le _) ?_
  try simp (disch := omega) only [cd_set_eq, cd_set_ne, cd_set_set]
  refine r_if_neB hO d_M_check_17 (fun c_17 => ?_) (fun c_17 => ?_)
  · obtain ⟨z, hz1, hz2, rfl⟩ := cd_in_ex c_17 (by decide) (by decide)
    refine r_aload hO d_M_check_23 rfl ?_
    refine r_getI hO f_M_270 rfl hM.2.1 d_M_check_24 ?_
    try simp (disch := omega) only [cd_set_eq, cd_set_ne, cd_set_set]
    refine r_tops (show _ = I m 3 from rfl) ?_
    refine r_if_ne hO d_M_check_27 (fun c_27 => ?_) (fun c_27 => ?_)
    · refine r_aload hO d_M_check_34 rfl ?_
      refine r_getR hO f_M_9 rfl hM.2.1 (mo_r1 hM) d_M_check_35 ?_
      try simp (disch := omega) only [cd_set_eq, cd_set_ne, cd_set_set]
      refine r_aload hO d_M_check_38 rfl ?_
      refine r_getR hO f_M_16 rfl hM.2.1 (mo_r3 hM) d_M_check_39 ?_
      try simp (disch := omega) only [cd_set_eq, cd_set_ne, cd_set_set]
      refine r_cS2fv hO hE (c_M_copyAll (a := m + 1) (b := m + 3) (mo_s1 hM) (mo_s3 hM) (mo_l3 hM) (by omega)) mf_M_copyAll lk_M_274 (by decide) rfl (Nat.le_of_ble_eq_true rfl) d_M_check_42 (Nat.zero_le _) (Nat.zero_le _) ?_
      try simp (disch := omega) only [cd_set_eq, cd_set_ne, cd_set_set]
      refine r_aload hO d_M_check_45 rfl ?_
      refine r_getR hO f_M_13 rfl hM.2.1 (mo_r2 hM) d_M_check_46 ?_
      try simp (disch := omega) only [cd_set_eq, cd_set_ne, cd_set_set]
      refine r_aload hO d_M_check_49 rfl ?_
      refine r_getR hO f_M_9 rfl hM.2.1 (mo_r1 hM) d_M_check_50 ?_
      try simp (disch := omega) only [cd_set_eq, cd_set_ne, cd_set_set]
      refine r_cS2fv hO hE (c_M_copyAll (a := m + 2) (b := m + 1) (mo_s2 hM) (mo_s1 hM) (mo_l1 hM) (by omega)) mf_M_copyAll lk_M_274 (by decide) rfl (Nat.le_of_ble_eq_true rfl) d_M_check_53 (Nat.zero_le _) (Nat.zero_le _) ?_
      try simp (disch := omega) only [cd_set_eq, cd_set_ne, cd_set_set]
      refine r_gen (fun I2 hI2 => ?_)
      have h1 : I2 (m + 1) = (cd_cp 1448 (I (m + 2)) (I (m + 1))) := by rw [hI2, cd_set_eq]
      have h3 : I2 (m + 3) = cd_cp 1448 (I (m + 1)) (I (m + 3)) := by rw [hI2]; simp (disch := omega) only [cd_set_eq, cd_set_ne]
      have ho2 : cd_off (cd_set I m (upd (I m) 32 (nI 0))) I2 [m + 1, m + 3] := by rw [hI2]; exact (cd_off.set _ _ (by simp)).tr (cd_off.set _ _ (by simp))
      have hG2 : (cd_cp 1448 (I (m + 2)) (I (m + 1))) 2 = nI hg := by rw [← hH]; exact if_pos (by decide)
      refine r_k hO d_M_check_56 ?_
      refine r_k hO d_M_check_57 ?_
      refine r_aload hO d_M_check_60 rfl ?_
      refine r_getR hO f_M_9 rfl hM.2.1 (mo_r1 hM) d_M_check_61 ?_
      try simp (disch := omega) only [cd_set_eq, cd_set_ne, cd_set_set]
      refine r_k hO d_M_check_64 ?_
      refine r_iald hO (mo_s1 hM) (by omega) (by decide) d_M_check_65 ?_
      try simp (disch := omega) only [cd_set_eq, cd_set_ne, cd_set_set]
      rw [h1]
      refine r_tops hG2 ?_
      refine r_isubN hO d_M_check_66 (by omega) ?_
      refine r_k hO d_M_check_67 ?_
      refine r_iload hO d_M_check_68 rfl ?_
      refine r_cS3fi hO hE (c_M_within _ _ _) mf_M_within lk_M_104 (by decide) rfl (Nat.le_of_ble_eq_true rfl) d_M_check_69 (Nat.zero_le _) (Nat.zero_le _) ?_
      try simp (disch := omega) only [cd_set_eq, cd_set_ne, cd_set_set]
      refine r_tops (cd_wi_nI (by omega) (by omega)) ?_
      refine r_imulN hO d_M_check_72 ?_
      refine r_sI3 hO d_M_check_73 rfl ?_
      refine r_k hO d_M_check_74 ?_
      refine r_sI4 hO d_M_check_75 rfl ?_
      refine r_k hO d_M_check_77 ?_
      refine r_sI5 hO d_M_check_78 rfl ?_
      exact main I2 h1 h3 ho2 z _ (by omega) (by omega) (by unfold sp_check; rw [if_pos c_17, if_neg c_27, cd_tn_nI (by omega)]) _ 0 0 I2 rfl (Nat.zero_add _) h1 (cd_off.rf _ _)
    · refine r_ldcw hO k_M_266 d_M_check_30 ?_
      refine r_iret hO hE (Nat.zero_le _) (Nat.zero_le _) d_M_check_33 ?_
      exact ⟨_, rfl, rfl, by unfold sp_check; rw [if_pos c_17, if_pos c_27], cd_off.rf _ _⟩
  · refine r_ldc hO k_M_87 d_M_check_20 ?_
    refine r_iret hO hE (Nat.zero_le _) (Nat.zero_le _) d_M_check_22 ?_
    exact ⟨_, rfl, rfl, by unfold sp_check; rw [if_neg c_17], cd_off.rf _ _⟩
