theorem d_C_deal_0 : cd_D_iload b_C_deal 0 1 1 := Or.inr ⟨1, ⟨by decide +kernel, rfl⟩, rfl⟩
theorem d_C_deal_1 : cd_Dk b_C_deal 1 (nI 1) 2 := Or.inl ⟨1, ⟨by decide +kernel, rfl⟩, by decide +kernel⟩
theorem d_C_deal_2 : cd_D_icmp_lt b_C_deal 2 11 5 := ⟨9, by decide +kernel, by decide, rfl⟩
theorem d_C_deal_5 : cd_D_iload b_C_deal 5 1 6 := Or.inr ⟨1, ⟨by decide +kernel, rfl⟩, rfl⟩
theorem d_C_deal_6 : cd_Dk b_C_deal 6 (nI 12) 8 := Or.inr (Or.inl ⟨12, ⟨by decide +kernel, rfl⟩, by decide +kernel⟩)
theorem d_C_deal_8 : cd_D_icmp_le b_C_deal 8 14 11 := ⟨6, by decide +kernel, by decide, rfl⟩
theorem d_C_deal_11 : cd_D 2 b_C_deal 11 (.ldc 62) 13 := ⟨by decide +kernel, rfl⟩
theorem d_C_deal_13 : cd_D 1 b_C_deal 13 .ireturn 14 := ⟨by decide +kernel, rfl⟩
theorem d_C_deal_14 : cd_D_iload b_C_deal 14 1 15 := Or.inr ⟨1, ⟨by decide +kernel, rfl⟩, rfl⟩
theorem d_C_deal_15 : cd_Dk b_C_deal 15 (nI 12) 17 := Or.inr (Or.inl ⟨12, ⟨by decide +kernel, rfl⟩, by decide +kernel⟩)
theorem d_C_deal_17 : cd_D_aload b_C_deal 17 0 18 := Or.inr ⟨0, ⟨by decide +kernel, rfl⟩, rfl⟩
theorem d_C_deal_18 : cd_D 3 b_C_deal 18 (.getfield 10) 21 := ⟨by decide +kernel, rfl⟩
theorem d_C_deal_21 : cd_D 3 b_C_deal 21 (.getfield 63) 24 := ⟨by decide +kernel, rfl⟩
theorem d_C_deal_24 : cd_D 1 b_C_deal 24 .isub 25 := ⟨by decide +kernel, rfl⟩
theorem d_C_deal_25 : cd_D 3 b_C_deal 25 (.invokestatic 130) 28 := ⟨by decide +kernel, rfl⟩
theorem d_C_deal_28 : cd_D_istore b_C_deal 28 2 29 := Or.inr ⟨2, ⟨by decide +kernel, rfl⟩, rfl⟩
theorem d_C_deal_29 : cd_Dk b_C_deal 29 (nI 0) 30 := Or.inl ⟨0, ⟨by decide +kernel, rfl⟩, by decide +kernel⟩
theorem d_C_deal_30 : cd_D_istore b_C_deal 30 3 31 := Or.inr ⟨3, ⟨by decide +kernel, rfl⟩, rfl⟩
theorem d_C_deal_31 : cd_D_iload b_C_deal 31 3 32 := Or.inr ⟨3, ⟨by decide +kernel, rfl⟩, rfl⟩
theorem d_C_deal_32 : cd_D_iload b_C_deal 32 2 33 := Or.inr ⟨2, ⟨by decide +kernel, rfl⟩, rfl⟩
theorem d_C_deal_33 : cd_D_icmp_ge b_C_deal 33 106 36 := ⟨73, by decide +kernel, by decide, rfl⟩
theorem d_C_deal_36 : cd_D_aload b_C_deal 36 0 37 := Or.inr ⟨0, ⟨by decide +kernel, rfl⟩, rfl⟩
theorem d_C_deal_37 : cd_D 3 b_C_deal 37 (.getfield 10) 40 := ⟨by decide +kernel, rfl⟩
theorem d_C_deal_40 : cd_D 3 b_C_deal 40 (.invokevirtual 136) 43 := ⟨by decide +kernel, rfl⟩
theorem d_C_deal_43 : cd_Dk b_C_deal 43 (nI 6) 45 := Or.inr (Or.inl ⟨6, ⟨by decide +kernel, rfl⟩, by decide +kernel⟩)
theorem d_C_deal_45 : cd_D 1 b_C_deal 45 .irem 46 := ⟨by decide +kernel, rfl⟩
theorem d_C_deal_46 : cd_D_istore b_C_deal 46 4 48 := Or.inl ⟨by decide +kernel, rfl⟩
theorem d_C_deal_48 : cd_D_aload b_C_deal 48 0 49 := Or.inr ⟨0, ⟨by decide +kernel, rfl⟩, rfl⟩
theorem d_C_deal_49 : cd_D 3 b_C_deal 49 (.getfield 10) 52 := ⟨by decide +kernel, rfl⟩
theorem d_C_deal_52 : cd_D 3 b_C_deal 52 (.invokevirtual 136) 55 := ⟨by decide +kernel, rfl⟩
theorem d_C_deal_55 : cd_Dk b_C_deal 55 (nI 24) 57 := Or.inr (Or.inl ⟨24, ⟨by decide +kernel, rfl⟩, by decide +kernel⟩)
theorem d_C_deal_57 : cd_D 1 b_C_deal 57 .irem 58 := ⟨by decide +kernel, rfl⟩
theorem d_C_deal_58 : cd_D_istore b_C_deal 58 5 60 := Or.inl ⟨by decide +kernel, rfl⟩
theorem d_C_deal_60 : cd_D_aload b_C_deal 60 0 61 := Or.inr ⟨0, ⟨by decide +kernel, rfl⟩, rfl⟩
theorem d_C_deal_61 : cd_D 3 b_C_deal 61 (.getfield 10) 64 := ⟨by decide +kernel, rfl⟩
theorem d_C_deal_64 : cd_D 3 b_C_deal 64 (.invokevirtual 136) 67 := ⟨by decide +kernel, rfl⟩
theorem d_C_deal_67 : cd_Dk b_C_deal 67 (nI 100) 69 := Or.inr (Or.inl ⟨100, ⟨by decide +kernel, rfl⟩, by decide +kernel⟩)
theorem d_C_deal_69 : cd_D 1 b_C_deal 69 .irem 70 := ⟨by decide +kernel, rfl⟩
theorem d_C_deal_70 : cd_D_istore b_C_deal 70 6 72 := Or.inl ⟨by decide +kernel, rfl⟩
theorem d_C_deal_72 : cd_D_aload b_C_deal 72 0 73 := Or.inr ⟨0, ⟨by decide +kernel, rfl⟩, rfl⟩
theorem d_C_deal_73 : cd_D 3 b_C_deal 73 (.getfield 10) 76 := ⟨by decide +kernel, rfl⟩
theorem d_C_deal_76 : cd_D 3 b_C_deal 76 (.invokevirtual 136) 79 := ⟨by decide +kernel, rfl⟩
theorem d_C_deal_79 : cd_Dk b_C_deal 79 (nI 101) 81 := Or.inr (Or.inl ⟨101, ⟨by decide +kernel, rfl⟩, by decide +kernel⟩)
theorem d_C_deal_81 : cd_D 1 b_C_deal 81 .irem 82 := ⟨by decide +kernel, rfl⟩
theorem d_C_deal_82 : cd_D_istore b_C_deal 82 7 84 := Or.inl ⟨by decide +kernel, rfl⟩
theorem d_C_deal_84 : cd_D_aload b_C_deal 84 0 85 := Or.inr ⟨0, ⟨by decide +kernel, rfl⟩, rfl⟩
theorem d_C_deal_85 : cd_D 3 b_C_deal 85 (.getfield 10) 88 := ⟨by decide +kernel, rfl⟩
theorem d_C_deal_88 : cd_D_iload b_C_deal 88 4 90 := Or.inl ⟨by decide +kernel, rfl⟩
theorem d_C_deal_90 : cd_D_iload b_C_deal 90 5 92 := Or.inl ⟨by decide +kernel, rfl⟩
theorem d_C_deal_92 : cd_D_iload b_C_deal 92 6 94 := Or.inl ⟨by decide +kernel, rfl⟩
theorem d_C_deal_94 : cd_D_iload b_C_deal 94 7 96 := Or.inl ⟨by decide +kernel, rfl⟩
theorem d_C_deal_96 : cd_D 3 b_C_deal 96 (.invokevirtual 67) 99 := ⟨by decide +kernel, rfl⟩
theorem d_C_deal_99 : cd_D 1 b_C_deal 99 .pop 100 := ⟨by decide +kernel, rfl⟩
theorem d_C_deal_100 : cd_D 3 b_C_deal 100 (.iinc 3 (1)) 103 := ⟨by decide +kernel, rfl⟩
theorem d_C_deal_103 : cd_D_goto b_C_deal 103 31 := ⟨-72, by decide +kernel, by decide⟩
theorem d_C_deal_106 : cd_D_iload b_C_deal 106 2 107 := Or.inr ⟨2, ⟨by decide +kernel, rfl⟩, rfl⟩
theorem d_C_deal_107 : cd_D 1 b_C_deal 107 .ireturn 108 := ⟨by decide +kernel, rfl⟩
theorem c_C_deal {l : Launch} {w : cd_WT} {S : cd_Sp} {I : cd_Mem} (hC : cd_CD w S) {mm tc : Nat} {N : Nat → Int32} (hG : cd_HG w S I (w.1 + 1) N mm tc) (n : Int32) : cd_C l w m_C_deal 1 0 0 [.ref w.1, .int n] S I (cd_Pn w S I (sp_deal N mm n) tc) := by
  refine cd_intro (by decide) (by simp [Value.category]) (Nat.le_of_ble_eq_true rfl) ?_
  intro X hO hE
  show cd_J w X 0 0 S I 0 [some (.ref w.1), some (.int n), none, none, none, none, none, none] []
  obtain ⟨hH, hhd, hV, hIV, hR⟩ := id hG
  have hmm := hV.2.1
  have hm1 : I (w.1 + 1) 3 = nI mm := (hR.at 1 (by omega) rfl rfl).trans hV.1
  refine r_iload hO d_C_deal_0 rfl ?_
  refine r_k hO d_C_deal_1 ?_
  refine r_icmp_lt hO d_C_deal_2 (fun c_2 => ?_) (fun c_2 => ?_)
  · refine r_ldc hO k_C_62 d_C_deal_11 ?_
    refine r_iret hO hE (Nat.zero_le _) (Nat.zero_le _) d_C_deal_13 ?_
    exact cd_pn (by unfold sp_deal; rw [if_neg (by rintro ⟨q1, q2⟩; simp only [Int32.lt_iff_toInt_lt, Int32.le_iff_toInt_le] at *; omega)]) hG (cd_ofh.rf _ _ _)
  · refine r_iload hO d_C_deal_5 rfl ?_
    refine r_k hO d_C_deal_6 ?_
    refine r_icmp_le hO d_C_deal_8 (fun c_8 => ?_) (fun c_8 => ?_)
    · have c2 : nI 1 ≤ n := (by simp only [Int32.lt_iff_toInt_lt, Int32.le_iff_toInt_le] at *; omega)
      obtain ⟨q, hq1, hq, rfl⟩ := cd_in_ex ⟨c2, c_8⟩ (by decide) (by decide)
      obtain ⟨cm, hcm⟩ : ∃ cm, cm = min (12 - mm) q := ⟨_, rfl⟩
      have loop : ∀ (r i : Nat) (I0 : cd_Mem) (x4 x5 x6 x7 : Option Value), i + r = cm → cd_HG w S I0 (w.1 + 1) (cd_dl N mm i) (mm + i) tc → cd_ofh w (w.1 + 1) I I0 → cd_J w X 0 0 S I0 31 [some (.ref w.1), some (.int (nI q)), some (.int (nI cm)), some (.int (nI i)), x4, x5, x6, x7] [] := by
        intro r
        induction r with
        | zero =>
          intro i I0 x4 x5 x6 x7 hi hG0 ho0
          have him : i = cm := by omega
          subst him
          refine r_iload hO d_C_deal_31 rfl ?_
          refine r_iload hO d_C_deal_32 rfl ?_
          refine r_icmp_ge hO d_C_deal_33 (fun c_33 => ?_) (fun c_33 => ?_)
          · refine r_iload hO d_C_deal_106 rfl ?_
            refine r_iret hO hE (Nat.zero_le _) (Nat.zero_le _) d_C_deal_107 ?_
            exact cd_pn (by unfold sp_deal; rw [if_pos ⟨c2, c_8⟩, cd_tn_nI (show q < 2 ^ 31 by omega), Nat.min_comm, ← hcm]) hG0 ho0
          · exact absurd (nI_le (Nat.le_refl _) (by omega)) c_33
        | succ r ih =>
          intro i I0 x4 x5 x6 x7 hi hG0 ho0
          refine r_iload hO d_C_deal_31 rfl ?_
          refine r_iload hO d_C_deal_32 rfl ?_
          refine r_icmp_ge hO d_C_deal_33 (fun c_33 => ?_) (fun c_33 => ?_)
          · exact absurd c_33 (nI_ge (by omega) (by omega))
          · refine r_aload hO d_C_deal_36 rfl ?_
            refine r_getR hO f_C_10 rfl hC.1 hC.2.1 d_C_deal_37 ?_
            refine r_cV0fi hO hE (c_H_draw hH) mf_H_draw lk_C_136 hH.2.1 rfl (by decide) rfl (Nat.le_of_ble_eq_true rfl) d_C_deal_40 (Nat.zero_le _) (Nat.zero_le _) ?_
            refine r_tops (show _ = cd_dv (cd_dl N mm i) from by unfold cd_dv; rw [hG0.2.2.2.2.at (a := w.1 + 1) (k := 5) 0 (by omega) rfl rfl]) ?_
            have hG1 := cd_HG_dr hG0
            have ho1 := ho0.tr (cd_ofh.set I0 (a := w.1 + 1) (upd (I0 (w.1 + 1)) 5 (cd_z (I0 (w.1 + 1) 5))) (cd_wr_in (by omega) (by omega)))
            refine r_gen (fun I1 hI1 => ?_)
            rw [← hI1] at hG1 ho1
            clear hI1
            refine r_k hO d_C_deal_43 ?_
            refine r_irem hO d_C_deal_45 (by decide) ?_
            refine r_sI4 hO d_C_deal_46 rfl ?_
            refine r_aload hO d_C_deal_48 rfl ?_
            refine r_getR hO f_C_10 rfl hC.1 hC.2.1 d_C_deal_49 ?_
            refine r_cV0fi hO hE (c_H_draw hH) mf_H_draw lk_C_136 hH.2.1 rfl (by decide) rfl (Nat.le_of_ble_eq_true rfl) d_C_deal_52 (Nat.zero_le _) (Nat.zero_le _) ?_
            refine r_tops (show _ = cd_dv (cd_dr (cd_dl N mm i)) from by unfold cd_dv; rw [hG1.2.2.2.2.at (a := w.1 + 1) (k := 5) 0 (by omega) rfl rfl]) ?_
            have hG2 := cd_HG_dr hG1
            have ho2 := ho1.tr (cd_ofh.set I1 (a := w.1 + 1) (upd (I1 (w.1 + 1)) 5 (cd_z (I1 (w.1 + 1) 5))) (cd_wr_in (by omega) (by omega)))
            refine r_gen (fun I2 hI2 => ?_)
            rw [← hI2] at hG2 ho2
            clear hI2
            refine r_k hO d_C_deal_55 ?_
            refine r_irem hO d_C_deal_57 (by decide) ?_
            refine r_sI5 hO d_C_deal_58 rfl ?_
            refine r_aload hO d_C_deal_60 rfl ?_
            refine r_getR hO f_C_10 rfl hC.1 hC.2.1 d_C_deal_61 ?_
            refine r_cV0fi hO hE (c_H_draw hH) mf_H_draw lk_C_136 hH.2.1 rfl (by decide) rfl (Nat.le_of_ble_eq_true rfl) d_C_deal_64 (Nat.zero_le _) (Nat.zero_le _) ?_
            refine r_tops (show _ = cd_dv (cd_dr (cd_dr (cd_dl N mm i))) from by unfold cd_dv; rw [hG2.2.2.2.2.at (a := w.1 + 1) (k := 5) 0 (by omega) rfl rfl]) ?_
            have hG3 := cd_HG_dr hG2
            have ho3 := ho2.tr (cd_ofh.set I2 (a := w.1 + 1) (upd (I2 (w.1 + 1)) 5 (cd_z (I2 (w.1 + 1) 5))) (cd_wr_in (by omega) (by omega)))
            refine r_gen (fun I3 hI3 => ?_)
            rw [← hI3] at hG3 ho3
            clear hI3
            refine r_k hO d_C_deal_67 ?_
            refine r_irem hO d_C_deal_69 (by decide) ?_
            refine r_sI6 hO d_C_deal_70 rfl ?_
            refine r_aload hO d_C_deal_72 rfl ?_
            refine r_getR hO f_C_10 rfl hC.1 hC.2.1 d_C_deal_73 ?_
            refine r_cV0fi hO hE (c_H_draw hH) mf_H_draw lk_C_136 hH.2.1 rfl (by decide) rfl (Nat.le_of_ble_eq_true rfl) d_C_deal_76 (Nat.zero_le _) (Nat.zero_le _) ?_
            refine r_tops (show _ = cd_dv (cd_dr (cd_dr (cd_dr (cd_dl N mm i)))) from by unfold cd_dv; rw [hG3.2.2.2.2.at (a := w.1 + 1) (k := 5) 0 (by omega) rfl rfl]) ?_
            have hG4 := cd_HG_dr hG3
            have ho4 := ho3.tr (cd_ofh.set I3 (a := w.1 + 1) (upd (I3 (w.1 + 1)) 5 (cd_z (I3 (w.1 + 1) 5))) (cd_wr_in (by omega) (by omega)))
            refine r_gen (fun I4 hI4 => ?_)
            rw [← hI4] at hG4 ho4
            clear hI4
            refine r_k hO d_C_deal_79 ?_
            refine r_irem hO d_C_deal_81 (by decide) ?_
            refine r_sI7 hO d_C_deal_82 rfl ?_
            refine r_aload hO d_C_deal_84 rfl ?_
            refine r_getR hO f_C_10 rfl hC.1 hC.2.1 d_C_deal_85 ?_
            refine r_iload hO d_C_deal_88 rfl ?_
            refine r_iload hO d_C_deal_90 rfl ?_
            refine r_iload hO d_C_deal_92 rfl ?_
            refine r_iload hO d_C_deal_94 rfl ?_
            refine r_cV4i hO hE (c_H_adds hG4 (by omega) (cd_dv_rem _ 6 (by decide) (by decide)) (cd_dv_rem _ 24 (by decide) (by decide)) (cd_dv_rem _ 100 (by decide) (by decide)) (cd_dv_rem _ 101 (by decide) (by decide))) mf_H_adds lk_C_67 hH.2.1 rfl (by decide) rfl (Nat.le_of_ble_eq_true rfl) d_C_deal_96 (Nat.zero_le _) (Nat.zero_le _) ?_
            rintro x I5 ⟨hx, hG5, ho5⟩
            refine r_pop hO d_C_deal_99 rfl ?_
            refine r_incN3 hO d_C_deal_100 rfl ?_
            refine r_goto hO d_C_deal_103 ?_
            exact ih (i + 1) I5 _ _ _ _ (by omega) hG5 (ho4.tr ho5)
      refine r_iload hO d_C_deal_14 rfl ?_
      refine r_k hO d_C_deal_15 ?_
      refine r_aload hO d_C_deal_17 rfl ?_
      refine r_getR hO f_C_10 rfl hC.1 hC.2.1 d_C_deal_18 ?_
      refine r_getI hO f_C_63 rfl hH.2.1 d_C_deal_21 ?_
      refine r_tops hm1 ?_
      refine r_isubN hO d_C_deal_24 (by omega) ?_
      refine r_mmin hO hE lk_C_130 cd_mmin (by omega) rfl (Nat.le_of_ble_eq_true rfl) (Nat.zero_le _) (Nat.zero_le _) d_C_deal_25 ?_
      refine r_tops (show _ = nI cm from by rw [hcm]; exact cd_mn_nI (by omega) (by omega)) ?_
      refine r_sI2 hO d_C_deal_28 rfl ?_
      refine r_k hO d_C_deal_29 ?_
      refine r_sI3 hO d_C_deal_30 rfl ?_
      exact loop cm 0 I _ _ _ _ (by omega) hG (cd_ofh.rf _ _ _)
    · refine r_ldc hO k_C_62 d_C_deal_11 ?_
      refine r_iret hO hE (Nat.zero_le _) (Nat.zero_le _) d_C_deal_13 ?_
      exact cd_pn (by unfold sp_deal; rw [if_neg (by rintro ⟨q1, q2⟩; simp only [Int32.lt_iff_toInt_lt, Int32.le_iff_toInt_le] at *; omega)]) hG (cd_ofh.rf _ _ _)
theorem d_S_isMissing_0 : cd_D_aload b_S_isMissing 0 0 1 := Or.inr ⟨0, ⟨by decide +kernel, rfl⟩, rfl⟩
theorem d_S_isMissing_1 : cd_D 3 b_S_isMissing 1 (.getfield 9) 4 := ⟨by decide +kernel, rfl⟩
theorem d_S_isMissing_4 : cd_Dk b_S_isMissing 4 (-1) 5 := Or.inl ⟨-1, ⟨by decide +kernel, rfl⟩, by decide +kernel⟩
theorem d_S_isMissing_5 : cd_D_icmp_ne b_S_isMissing 5 12 8 := ⟨7, by decide +kernel, by decide, rfl⟩
theorem d_S_isMissing_8 : cd_Dk b_S_isMissing 8 (nI 1) 9 := Or.inl ⟨1, ⟨by decide +kernel, rfl⟩, by decide +kernel⟩
theorem d_S_isMissing_9 : cd_D_goto b_S_isMissing 9 13 := ⟨4, by decide +kernel, by decide⟩
theorem d_S_isMissing_12 : cd_Dk b_S_isMissing 12 (nI 0) 13 := Or.inl ⟨0, ⟨by decide +kernel, rfl⟩, by decide +kernel⟩
theorem d_S_isMissing_13 : cd_D 1 b_S_isMissing 13 .ireturn 14 := ⟨by decide +kernel, rfl⟩
theorem c_S_isMissing {l : Launch} {w : cd_WT} {S : cd_Sp} {I : cd_Mem} {s : Nat} (hSh : cd_SH S s) (hsl : w.1 ≤ s)  : cd_C l w m_S_isMissing 0 0 0 [.ref s] S I (cd_Fi S (cd_bI (I s 0 = (-1))) I) := by
  refine cd_intro (by decide) (by simp [Value.category]) (Nat.le_of_ble_eq_true rfl) ?_
  intro X hO hE
  show cd_J w X 0 0 S I 0 [some (.ref s)] []
  refine r_aload hO d_S_isMissing_0 rfl ?_
  refine r_getI hO f_S_9 rfl hSh.1 d_S_isMissing_1 ?_
  refine r_k hO d_S_isMissing_4 ?_
  refine r_icmp_ne hO d_S_isMissing_5 (fun c_5 => ?_) (fun c_5 => ?_)
  · refine r_k hO d_S_isMissing_12 ?_
    refine r_zret hO hE (by first | exact Or.inl rfl | exact Or.inr rfl) (Nat.zero_le _) (Nat.zero_le _) d_S_isMissing_13 ?_
    exact cd_ret0 c_5
  · refine r_k hO d_S_isMissing_8 ?_
    refine r_goto hO d_S_isMissing_9 ?_
    refine r_zret hO hE (by first | exact Or.inl rfl | exact Or.inr rfl) (Nat.zero_le _) (Nat.zero_le _) d_S_isMissing_13 ?_
    exact cd_ret1 c_5
theorem d_S_hasPlace_0 : cd_D_iload b_S_hasPlace 0 1 1 := Or.inr ⟨1, ⟨by decide +kernel, rfl⟩, rfl⟩
theorem d_S_hasPlace_1 : cd_D_if_lt b_S_hasPlace 1 16 4 := ⟨15, by decide +kernel, by decide, rfl⟩
theorem d_S_hasPlace_4 : cd_D_iload b_S_hasPlace 4 1 5 := Or.inr ⟨1, ⟨by decide +kernel, rfl⟩, rfl⟩
theorem d_S_hasPlace_5 : cd_D_aload b_S_hasPlace 5 0 6 := Or.inr ⟨0, ⟨by decide +kernel, rfl⟩, rfl⟩
theorem d_S_hasPlace_6 : cd_D 3 b_S_hasPlace 6 (.getfield 15) 9 := ⟨by decide +kernel, rfl⟩
theorem d_S_hasPlace_9 : cd_D_icmp_ge b_S_hasPlace 9 16 12 := ⟨7, by decide +kernel, by decide, rfl⟩
theorem d_S_hasPlace_12 : cd_Dk b_S_hasPlace 12 (nI 1) 13 := Or.inl ⟨1, ⟨by decide +kernel, rfl⟩, by decide +kernel⟩
theorem d_S_hasPlace_13 : cd_D_goto b_S_hasPlace 13 17 := ⟨4, by decide +kernel, by decide⟩
theorem d_S_hasPlace_16 : cd_Dk b_S_hasPlace 16 (nI 0) 17 := Or.inl ⟨0, ⟨by decide +kernel, rfl⟩, by decide +kernel⟩
theorem d_S_hasPlace_17 : cd_D 1 b_S_hasPlace 17 .ireturn 18 := ⟨by decide +kernel, rfl⟩
theorem c_S_hasPlace {l : Launch} {w : cd_WT} {S : cd_Sp} {I : cd_Mem} {s : Nat} (hSh : cd_SH S s) (hsl : w.1 ≤ s) (p : Int32) : cd_C l w m_S_hasPlace 0 0 0 [.ref s, .int p] S I (cd_Fi S (cd_bI (¬ p < 0 ∧ ¬ I s 1 ≤ p)) I) := by
  refine cd_intro (by decide) (by simp [Value.category]) (Nat.le_of_ble_eq_true rfl) ?_
  intro X hO hE
  show cd_J w X 0 0 S I 0 [some (.ref s), some (.int p)] []
  refine r_iload hO d_S_hasPlace_0 rfl ?_
  refine r_if_lt hO d_S_hasPlace_1 (fun c_1 => ?_) (fun c_1 => ?_)
  · refine r_k hO d_S_hasPlace_16 ?_
    refine r_zret hO hE (by first | exact Or.inl rfl | exact Or.inr rfl) (Nat.zero_le _) (Nat.zero_le _) d_S_hasPlace_17 ?_
    exact cd_ret0 (fun q => q.1 c_1)
  · refine r_iload hO d_S_hasPlace_4 rfl ?_
    refine r_aload hO d_S_hasPlace_5 rfl ?_
    refine r_getI hO f_S_15 rfl hSh.1 d_S_hasPlace_6 ?_
    refine r_icmp_ge hO d_S_hasPlace_9 (fun c_9 => ?_) (fun c_9 => ?_)
    · refine r_k hO d_S_hasPlace_16 ?_
      refine r_zret hO hE (by first | exact Or.inl rfl | exact Or.inr rfl) (Nat.zero_le _) (Nat.zero_le _) d_S_hasPlace_17 ?_
      exact cd_ret0 (fun q => q.2 c_9)
    · refine r_k hO d_S_hasPlace_12 ?_
      refine r_goto hO d_S_hasPlace_13 ?_
      refine r_zret hO hE (by first | exact Or.inl rfl | exact Or.inr rfl) (Nat.zero_le _) (Nat.zero_le _) d_S_hasPlace_17 ?_
      exact cd_ret1 ⟨c_1, c_9⟩
theorem d_S_hasPlaces_0 : cd_D_iload b_S_hasPlaces 0 1 1 := Or.inr ⟨1, ⟨by decide +kernel, rfl⟩, rfl⟩
theorem d_S_hasPlaces_1 : cd_D_if_lt b_S_hasPlaces 1 30 4 := ⟨29, by decide +kernel, by decide, rfl⟩
theorem d_S_hasPlaces_4 : cd_D_iload b_S_hasPlaces 4 2 5 := Or.inr ⟨2, ⟨by decide +kernel, rfl⟩, rfl⟩
theorem d_S_hasPlaces_5 : cd_D_if_lt b_S_hasPlaces 5 30 8 := ⟨25, by decide +kernel, by decide, rfl⟩
theorem d_S_hasPlaces_8 : cd_D_iload b_S_hasPlaces 8 1 9 := Or.inr ⟨1, ⟨by decide +kernel, rfl⟩, rfl⟩
theorem d_S_hasPlaces_9 : cd_D_aload b_S_hasPlaces 9 0 10 := Or.inr ⟨0, ⟨by decide +kernel, rfl⟩, rfl⟩
theorem d_S_hasPlaces_10 : cd_D 3 b_S_hasPlaces 10 (.getfield 15) 13 := ⟨by decide +kernel, rfl⟩
theorem d_S_hasPlaces_13 : cd_D_icmp_gt b_S_hasPlaces 13 30 16 := ⟨17, by decide +kernel, by decide, rfl⟩
theorem d_S_hasPlaces_16 : cd_D_iload b_S_hasPlaces 16 2 17 := Or.inr ⟨2, ⟨by decide +kernel, rfl⟩, rfl⟩
theorem d_S_hasPlaces_17 : cd_D_aload b_S_hasPlaces 17 0 18 := Or.inr ⟨0, ⟨by decide +kernel, rfl⟩, rfl⟩
theorem d_S_hasPlaces_18 : cd_D 3 b_S_hasPlaces 18 (.getfield 15) 21 := ⟨by decide +kernel, rfl⟩
theorem d_S_hasPlaces_21 : cd_D_iload b_S_hasPlaces 21 1 22 := Or.inr ⟨1, ⟨by decide +kernel, rfl⟩, rfl⟩
theorem d_S_hasPlaces_22 : cd_D 1 b_S_hasPlaces 22 .isub 23 := ⟨by decide +kernel, rfl⟩
theorem d_S_hasPlaces_23 : cd_D_icmp_gt b_S_hasPlaces 23 30 26 := ⟨7, by decide +kernel, by decide, rfl⟩
theorem d_S_hasPlaces_26 : cd_Dk b_S_hasPlaces 26 (nI 1) 27 := Or.inl ⟨1, ⟨by decide +kernel, rfl⟩, by decide +kernel⟩
theorem d_S_hasPlaces_27 : cd_D_goto b_S_hasPlaces 27 31 := ⟨4, by decide +kernel, by decide⟩
theorem d_S_hasPlaces_30 : cd_Dk b_S_hasPlaces 30 (nI 0) 31 := Or.inl ⟨0, ⟨by decide +kernel, rfl⟩, by decide +kernel⟩
theorem d_S_hasPlaces_31 : cd_D 1 b_S_hasPlaces 31 .ireturn 32 := ⟨by decide +kernel, rfl⟩
theorem c_S_hasPlaces {l : Launch} {w : cd_WT} {S : cd_Sp} {I : cd_Mem} {s : Nat} (hSh : cd_SH S s) (hsl : w.1 ≤ s) (p n : Int32) : cd_C l w m_S_hasPlaces 0 0 0 [.ref s, .int p, .int n] S I (cd_Fi S (cd_bI (¬ p < 0 ∧ ¬ n < 0 ∧ ¬ I s 1 < p ∧ ¬ I s 1 - p < n)) I) := by
  refine cd_intro (by decide) (by simp [Value.category]) (Nat.le_of_ble_eq_true rfl) ?_
  intro X hO hE
  show cd_J w X 0 0 S I 0 [some (.ref s), some (.int p), some (.int n)] []
  refine r_iload hO d_S_hasPlaces_0 rfl ?_
  refine r_if_lt hO d_S_hasPlaces_1 (fun c_1 => ?_) (fun c_1 => ?_)
  · refine r_k hO d_S_hasPlaces_30 ?_
    refine r_zret hO hE (by first | exact Or.inl rfl | exact Or.inr rfl) (Nat.zero_le _) (Nat.zero_le _) d_S_hasPlaces_31 ?_
    exact cd_ret0 (fun q => q.1 c_1)
  · refine r_iload hO d_S_hasPlaces_4 rfl ?_
    refine r_if_lt hO d_S_hasPlaces_5 (fun c_5 => ?_) (fun c_5 => ?_)
    · refine r_k hO d_S_hasPlaces_30 ?_
      refine r_zret hO hE (by first | exact Or.inl rfl | exact Or.inr rfl) (Nat.zero_le _) (Nat.zero_le _) d_S_hasPlaces_31 ?_
      exact cd_ret0 (fun q => q.2.1 c_5)
    · refine r_iload hO d_S_hasPlaces_8 rfl ?_
      refine r_aload hO d_S_hasPlaces_9 rfl ?_
      refine r_getI hO f_S_15 rfl hSh.1 d_S_hasPlaces_10 ?_
      refine r_icmp_gt hO d_S_hasPlaces_13 (fun c_13 => ?_) (fun c_13 => ?_)
      · refine r_k hO d_S_hasPlaces_30 ?_
        refine r_zret hO hE (by first | exact Or.inl rfl | exact Or.inr rfl) (Nat.zero_le _) (Nat.zero_le _) d_S_hasPlaces_31 ?_
        exact cd_ret0 (fun q => q.2.2.1 c_13)
      · refine r_iload hO d_S_hasPlaces_16 rfl ?_
        refine r_aload hO d_S_hasPlaces_17 rfl ?_
        refine r_getI hO f_S_15 rfl hSh.1 d_S_hasPlaces_18 ?_
        refine r_iload hO d_S_hasPlaces_21 rfl ?_
        refine r_isub hO d_S_hasPlaces_22 ?_
        refine r_icmp_gt hO d_S_hasPlaces_23 (fun c_23 => ?_) (fun c_23 => ?_)
        · refine r_k hO d_S_hasPlaces_30 ?_
          refine r_zret hO hE (by first | exact Or.inl rfl | exact Or.inr rfl) (Nat.zero_le _) (Nat.zero_le _) d_S_hasPlaces_31 ?_
          exact cd_ret0 (fun q => q.2.2.2 c_23)
        · refine r_k hO d_S_hasPlaces_26 ?_
          refine r_goto hO d_S_hasPlaces_27 ?_
          refine r_zret hO hE (by first | exact Or.inl rfl | exact Or.inr rfl) (Nat.zero_le _) (Nat.zero_le _) d_S_hasPlaces_31 ?_
          exact cd_ret1 ⟨c_1, c_5, c_13, c_23⟩
