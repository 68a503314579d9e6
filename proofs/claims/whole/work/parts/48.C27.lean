theorem d_C_item_0 : cd_D_iload b_C_item 0 1 1 := Or.inr ⟨1, ⟨by decide +kernel, rfl⟩, rfl⟩
theorem d_C_item_1 : cd_Dk b_C_item 1 (nI 4) 2 := Or.inl ⟨4, ⟨by decide +kernel, rfl⟩, by decide +kernel⟩
theorem d_C_item_2 : cd_D 3 b_C_item 2 (.invokestatic 58) 5 := ⟨by decide +kernel, rfl⟩
theorem d_C_item_5 : cd_D_if_ne b_C_item 5 11 8 := ⟨6, by decide +kernel, by decide, rfl⟩
theorem d_C_item_8 : cd_D 2 b_C_item 8 (.ldc 62) 10 := ⟨by decide +kernel, rfl⟩
theorem d_C_item_10 : cd_D 1 b_C_item 10 .ireturn 11 := ⟨by decide +kernel, rfl⟩
theorem d_C_item_11 : cd_D_aload b_C_item 11 0 12 := Or.inr ⟨0, ⟨by decide +kernel, rfl⟩, rfl⟩
theorem d_C_item_12 : cd_D 3 b_C_item 12 (.getfield 41) 15 := ⟨by decide +kernel, rfl⟩
theorem d_C_item_15 : cd_D_iload b_C_item 15 1 16 := Or.inr ⟨1, ⟨by decide +kernel, rfl⟩, rfl⟩
theorem d_C_item_16 : cd_D 1 b_C_item 16 .aaload 17 := ⟨by decide +kernel, rfl⟩
theorem d_C_item_17 : cd_Dk b_C_item 17 (nI 2) 18 := Or.inl ⟨2, ⟨by decide +kernel, rfl⟩, by decide +kernel⟩
theorem d_C_item_18 : cd_D 3 b_C_item 18 (.invokevirtual 280) 21 := ⟨by decide +kernel, rfl⟩
theorem d_C_item_21 : cd_D_istore b_C_item 21 3 22 := Or.inr ⟨3, ⟨by decide +kernel, rfl⟩, rfl⟩
theorem d_C_item_22 : cd_D_iload b_C_item 22 3 23 := Or.inr ⟨3, ⟨by decide +kernel, rfl⟩, rfl⟩
theorem d_C_item_23 : cd_D_if_eq b_C_item 23 28 26 := ⟨5, by decide +kernel, by decide, rfl⟩
theorem d_C_item_26 : cd_D_iload b_C_item 26 3 27 := Or.inr ⟨3, ⟨by decide +kernel, rfl⟩, rfl⟩
theorem d_C_item_27 : cd_D 1 b_C_item 27 .ireturn 28 := ⟨by decide +kernel, rfl⟩
theorem d_C_item_28 : cd_D_aload b_C_item 28 0 29 := Or.inr ⟨0, ⟨by decide +kernel, rfl⟩, rfl⟩
theorem d_C_item_29 : cd_D 3 b_C_item 29 (.getfield 41) 32 := ⟨by decide +kernel, rfl⟩
theorem d_C_item_32 : cd_D_iload b_C_item 32 1 33 := Or.inr ⟨1, ⟨by decide +kernel, rfl⟩, rfl⟩
theorem d_C_item_33 : cd_D 1 b_C_item 33 .aaload 34 := ⟨by decide +kernel, rfl⟩
theorem d_C_item_34 : cd_D 3 b_C_item 34 (.getfield 271) 37 := ⟨by decide +kernel, rfl⟩
theorem d_C_item_37 : cd_D_astore b_C_item 37 4 39 := Or.inl ⟨by decide +kernel, rfl⟩
theorem d_C_item_39 : cd_D_aload b_C_item 39 4 41 := Or.inl ⟨by decide +kernel, rfl⟩
theorem d_C_item_41 : cd_D_iload b_C_item 41 2 42 := Or.inr ⟨2, ⟨by decide +kernel, rfl⟩, rfl⟩
theorem d_C_item_42 : cd_D 3 b_C_item 42 (.invokevirtual 240) 45 := ⟨by decide +kernel, rfl⟩
theorem d_C_item_45 : cd_D_if_ne b_C_item 45 51 48 := ⟨6, by decide +kernel, by decide, rfl⟩
theorem d_C_item_48 : cd_D 2 b_C_item 48 (.ldc 243) 50 := ⟨by decide +kernel, rfl⟩
theorem d_C_item_50 : cd_D 1 b_C_item 50 .ireturn 51 := ⟨by decide +kernel, rfl⟩
theorem d_C_item_51 : cd_D_aload b_C_item 51 4 53 := Or.inl ⟨by decide +kernel, rfl⟩
theorem d_C_item_53 : cd_D_iload b_C_item 53 2 54 := Or.inr ⟨2, ⟨by decide +kernel, rfl⟩, rfl⟩
theorem d_C_item_54 : cd_D 3 b_C_item 54 (.invokevirtual 179) 57 := ⟨by decide +kernel, rfl⟩
theorem d_C_item_57 : cd_D_if_eq b_C_item 57 70 60 := ⟨13, by decide +kernel, by decide, rfl⟩
theorem d_C_item_60 : cd_D_aload b_C_item 60 4 62 := Or.inl ⟨by decide +kernel, rfl⟩
theorem d_C_item_62 : cd_D 3 b_C_item 62 (.getfield 182) 65 := ⟨by decide +kernel, rfl⟩
theorem d_C_item_65 : cd_D_iload b_C_item 65 2 66 := Or.inr ⟨2, ⟨by decide +kernel, rfl⟩, rfl⟩
theorem d_C_item_66 : cd_D 1 b_C_item 66 .iaload 67 := ⟨by decide +kernel, rfl⟩
theorem d_C_item_67 : cd_D_goto b_C_item 67 72 := ⟨5, by decide +kernel, by decide⟩
theorem d_C_item_70 : cd_D 2 b_C_item 70 (.ldc 119) 72 := ⟨by decide +kernel, rfl⟩
theorem d_C_item_72 : cd_D 1 b_C_item 72 .ireturn 73 := ⟨by decide +kernel, rfl⟩
theorem c_C_item {l : Launch} {w : cd_WT} {S : cd_Sp} {I : cd_Mem} (hC : cd_CD w S) {ho hA hB hc : Nat → Int32} (hL : cd_LR w I ho hA hB hc) (hVL : cd_VL ho hA) (z p : Int32) : cd_C l w m_C_item 2 0 0 [.ref w.1, .int z, .int p] S I (cd_Fi S (sp_item ho hA hc z p) I) := by
  refine cd_intro (by decide) (by simp [Value.category]) (Nat.le_of_ble_eq_true rfl) ?_
  intro X hO hE
  show cd_J w X 0 0 S I 0 [some (.ref w.1), some (.int z), some (.int p), none, none] []
  refine r_iload hO d_C_item_0 rfl ?_
  refine r_k hO d_C_item_1 ?_
  refine r_cS2fi hO hE (c_C_isWithin _ _) mf_C_isWithin lk_C_58 (by decide) rfl (Nat.le_of_ble_eq_true rfl) d_C_item_2 (Nat.zero_le _) (Nat.zero_le _) ?_
  refine r_if_neB hO d_C_item_5 (fun c_5 => ?_) (fun c_5 => ?_)
  · obtain ⟨s, -, hs3, rfl⟩ := cd_in_ex c_5 (by decide) (by decide)
    obtain ⟨ha0, ha1, ha2, ha3⟩ := hL s (by omega)
    refine r_aload hO d_C_item_11 rfl ?_
    refine r_getR hO f_C_41 rfl hC.1 hC.2.2.2.2.2.2.1 d_C_item_12 ?_
    refine r_iload hO d_C_item_15 rfl ?_
    refine r_aald (t := 7) hO hC.2.2.2.2.2.2.2.2.2.2.2.2.2.2.1 (by decide) (by decide) (by omega) (by decide) (hC.2.2.2.2.2.2.2.2.2.2.2.2.2.2.2.2.2.2 _ (by omega)).1 d_C_item_16 ?_
    refine r_k hO d_C_item_17 ?_
    refine r_cV1fi hO hE (c_L_refuses (hC.2.2.2.2.2.2.2.2.2.2.2.2.2.2.2.2.2.2 _ (by omega)).2.1 _) mf_L_refuses lk_C_280 (hC.2.2.2.2.2.2.2.2.2.2.2.2.2.2.2.2.2.2 _ (by omega)).2.1 rfl (by decide) rfl (Nat.le_of_ble_eq_true rfl) d_C_item_18 (Nat.zero_le _) (Nat.zero_le _) ?_
    rw [ha0]
    refine r_sI3 hO d_C_item_21 rfl ?_
    refine r_iload hO d_C_item_22 rfl ?_
    refine r_if_eq hO d_C_item_23 (fun c_23 => ?_) (fun c_23 => ?_)
    · have hy := cd_ref_y c_23
      obtain ⟨hq1, hq2⟩ := ha2 hy.2
      obtain ⟨n, hn24, hn⟩ := hVL s (by omega) hy.2
      refine r_aload hO d_C_item_28 rfl ?_
      refine r_getR hO f_C_41 rfl hC.1 hC.2.2.2.2.2.2.1 d_C_item_29 ?_
      refine r_iload hO d_C_item_32 rfl ?_
      refine r_aald (t := 7) hO hC.2.2.2.2.2.2.2.2.2.2.2.2.2.2.1 (by decide) (by decide) (by omega) (by decide) (hC.2.2.2.2.2.2.2.2.2.2.2.2.2.2.2.2.2.2 _ (by omega)).1 d_C_item_33 ?_
      refine r_getR hO f_C_271 rfl (hC.2.2.2.2.2.2.2.2.2.2.2.2.2.2.2.2.2.2 _ (by omega)).2.1 (hC.2.2.2.2.2.2.2.2.2.2.2.2.2.2.2.2.2.2 _ (by omega)).2.2.2.1 d_C_item_34 ?_
      refine r_sA4 hO d_C_item_37 rfl ?_
      refine r_aload hO d_C_item_39 rfl ?_
      refine r_iload hO d_C_item_41 rfl ?_
      refine r_cV1fi hO hE (c_S_hasPlace (hC.2.2.2.2.2.2.2.2.2.2.2.2.2.2.2.2.2.2 _ (by omega)).2.2.2.2.2 (by omega) _) mf_S_hasPlace lk_C_240 (hC.2.2.2.2.2.2.2.2.2.2.2.2.2.2.2.2.2.2 _ (by omega)).2.2.2.2.2.1 rfl (by decide) rfl (Nat.le_of_ble_eq_true rfl) d_C_item_42 (Nat.zero_le _) (Nat.zero_le _) ?_
      rw [hq1, hn]
      refine r_if_neB hO d_C_item_45 (fun c_45 => ?_) (fun c_45 => ?_)
      · obtain ⟨j, hj, rfl⟩ := cd_lt_ex c_45.1 (show p < nI n from Int32.not_le.mp c_45.2) (by omega)
        refine r_aload hO d_C_item_51 rfl ?_
        refine r_iload hO d_C_item_53 rfl ?_
        refine r_cV1fi hO hE (c_S_isNumber (hC.2.2.2.2.2.2.2.2.2.2.2.2.2.2.2.2.2.2 _ (by omega)).2.2.2.2.2 (by omega) (hq1.trans hn) hn24 _) mf_S_isNumber lk_C_179 (hC.2.2.2.2.2.2.2.2.2.2.2.2.2.2.2.2.2.2 _ (by omega)).2.2.2.2.2.1 rfl (by decide) rfl (Nat.le_of_ble_eq_true rfl) d_C_item_54 (Nat.zero_le _) (Nat.zero_le _) ?_
        refine r_if_eqB hO d_C_item_57 (fun c_57 => ?_) (fun c_57 => ?_)
        · refine r_ldc hO k_C_119 d_C_item_70 ?_
          refine r_iret hO hE (Nat.zero_le _) (Nat.zero_le _) d_C_item_72 ?_
          exact ⟨by unfold sp_item; rw [if_pos c_5, cd_tn_nI (show s < 2 ^ 31 by omega), if_neg hy.1, if_pos hy.2, if_pos ((cd_isP_lt hn hn24).mpr c_45), cd_tn_nI (show j < 2 ^ 31 by omega), if_pos (by rw [← hq2 j (by omega)]; exact Decidable.not_not.mp (fun q => c_57 ⟨c_45.1, c_45.2, by rw [cd_tn_nI (show j < 2 ^ 31 by omega)]; exact q⟩))], rfl, rfl⟩
        · refine r_aload hO d_C_item_60 rfl ?_
          refine r_getR hO f_C_182 rfl (hC.2.2.2.2.2.2.2.2.2.2.2.2.2.2.2.2.2.2 _ (by omega)).2.2.2.2.2.1 (hC.2.2.2.2.2.2.2.2.2.2.2.2.2.2.2.2.2.2 _ (by omega)).2.2.2.2.2.2.1 d_C_item_62 ?_
          refine r_iload hO d_C_item_65 rfl ?_
          refine r_iald hO (hC.2.2.2.2.2.2.2.2.2.2.2.2.2.2.2.2.2.2 _ (by omega)).2.2.2.2.2.2.2 (by omega) (by decide) d_C_item_66 ?_
          rw [hq2 j (by omega)]
          refine r_goto hO d_C_item_67 ?_
          refine r_iret hO hE (Nat.zero_le _) (Nat.zero_le _) d_C_item_72 ?_
          exact ⟨by unfold sp_item; rw [if_pos c_5, cd_tn_nI (show s < 2 ^ 31 by omega), if_neg hy.1, if_pos hy.2, if_pos ((cd_isP_lt hn hn24).mpr c_45), cd_tn_nI (show j < 2 ^ 31 by omega), if_neg (by have := c_57.2.2; rw [cd_tn_nI (show j < 2 ^ 31 by omega), hq2 j (by omega)] at this; exact this)], rfl, rfl⟩
      · refine r_ldc hO k_C_243 d_C_item_48 ?_
        refine r_iret hO hE (Nat.zero_le _) (Nat.zero_le _) d_C_item_50 ?_
        exact ⟨by unfold sp_item; rw [if_pos c_5, cd_tn_nI (show s < 2 ^ 31 by omega), if_neg hy.1, if_pos hy.2, if_neg (fun q => c_45 ((cd_isP_lt hn hn24).mp q))], rfl, rfl⟩
    · refine r_iload hO d_C_item_26 rfl ?_
      refine r_iret hO hE (Nat.zero_le _) (Nat.zero_le _) d_C_item_27 ?_
      exact ⟨by unfold sp_item; rw [if_pos c_5, cd_tn_nI (show s < 2 ^ 31 by omega)]; exact congrArg (fun v => some (Value.int v)) (cd_ref_n _ c_23).symm, rfl, rfl⟩
  · refine r_ldc hO k_C_62 d_C_item_8 ?_
    refine r_iret hO hE (Nat.zero_le _) (Nat.zero_le _) d_C_item_10 ?_
    exact ⟨by unfold sp_item; rw [if_neg c_5], rfl, rfl⟩
