theorem cd_not13 {q : Int32} (h1 : ¬ q = nI 1) (h2 : ¬ q = nI 2) (h3 : ¬ q = nI 3) : ¬ (nI 1 ≤ q ∧ q ≤ nI 3) := by
  intro h
  obtain ⟨k, k1, k2, rfl⟩ := cd_in_ex h (by decide) (by decide)
  rcases (show k = 1 ∨ k = 2 ∨ k = 3 by omega) with rfl | rfl | rfl
  · exact h1 rfl
  · exact h2 rfl
  · exact h3 rfl
theorem cd_mea_me {N : Nat → Int32} (i : Nat) : cd_mea N i = cd_me (N (16 + 5 * i + 0)) (N (16 + 5 * i + 3)) (N 7) (N 8) := rfl
theorem cd_not07 {q : Int32} (h0 : ¬ q = nI 0) (h1 : ¬ q = nI 1) (h2 : ¬ q = nI 2) (h3 : ¬ q = nI 3) (h4 : ¬ q = nI 4) (h5 : ¬ q = nI 5) (h6 : ¬ q = nI 6) (h7 : ¬ q = nI 7) : ¬ (nI 0 ≤ q ∧ q ≤ nI 7) := by
  intro h
  obtain ⟨k, k1, k2, rfl⟩ := cd_in_ex h (by decide) (by decide)
  rcases (show k = 0 ∨ k = 1 ∨ k = 2 ∨ k = 3 ∨ k = 4 ∨ k = 5 ∨ k = 6 ∨ k = 7 by omega) with rfl | rfl | rfl | rfl | rfl | rfl | rfl | rfl <;> contradiction
theorem d_C_set_0 : cd_D_aload b_C_set 0 0 1 := Or.inr ⟨0, ⟨by decide +kernel, rfl⟩, rfl⟩
theorem d_C_set_1 : cd_D_iload b_C_set 1 1 2 := Or.inr ⟨1, ⟨by decide +kernel, rfl⟩, rfl⟩
theorem d_C_set_2 : cd_D 3 b_C_set 2 (.invokevirtual 71) 5 := ⟨by decide +kernel, rfl⟩
theorem d_C_set_5 : cd_D_if_ne b_C_set 5 11 8 := ⟨6, by decide +kernel, by decide, rfl⟩
theorem d_C_set_8 : cd_D 2 b_C_set 8 (.ldc 62) 10 := ⟨by decide +kernel, rfl⟩
theorem d_C_set_10 : cd_D 1 b_C_set 10 .ireturn 11 := ⟨by decide +kernel, rfl⟩
theorem d_C_set_11 : cd_D_aload b_C_set 11 0 12 := Or.inr ⟨0, ⟨by decide +kernel, rfl⟩, rfl⟩
theorem d_C_set_12 : cd_D 3 b_C_set 12 (.getfield 10) 15 := ⟨by decide +kernel, rfl⟩
theorem d_C_set_15 : cd_D 3 b_C_set 15 (.getfield 75) 18 := ⟨by decide +kernel, rfl⟩
theorem d_C_set_18 : cd_D_iload b_C_set 18 1 19 := Or.inr ⟨1, ⟨by decide +kernel, rfl⟩, rfl⟩
theorem d_C_set_19 : cd_D 1 b_C_set 19 .aaload 20 := ⟨by decide +kernel, rfl⟩
theorem d_C_set_20 : cd_D_astore b_C_set 20 4 22 := Or.inl ⟨by decide +kernel, rfl⟩
theorem d_C_set_22 : cd_D 2 b_C_set 22 (.ldc 62) 24 := ⟨by decide +kernel, rfl⟩
theorem d_C_set_24 : cd_D_istore b_C_set 24 5 26 := Or.inl ⟨by decide +kernel, rfl⟩
theorem d_C_set_26 : cd_D_iload b_C_set 26 2 27 := Or.inr ⟨2, ⟨by decide +kernel, rfl⟩, rfl⟩
theorem d_C_set_27 : cd_Dk b_C_set 27 (nI 1) 28 := Or.inl ⟨1, ⟨by decide +kernel, rfl⟩, by decide +kernel⟩
theorem d_C_set_28 : cd_D_icmp_ne b_C_set 28 56 31 := ⟨28, by decide +kernel, by decide, rfl⟩
theorem d_C_set_31 : cd_D_iload b_C_set 31 3 32 := Or.inr ⟨3, ⟨by decide +kernel, rfl⟩, rfl⟩
theorem d_C_set_32 : cd_Dk b_C_set 32 (nI 23) 34 := Or.inr (Or.inl ⟨23, ⟨by decide +kernel, rfl⟩, by decide +kernel⟩)
theorem d_C_set_34 : cd_D 3 b_C_set 34 (.invokestatic 58) 37 := ⟨by decide +kernel, rfl⟩
theorem d_C_set_37 : cd_D_if_eq b_C_set 37 56 40 := ⟨19, by decide +kernel, by decide, rfl⟩
theorem d_C_set_40 : cd_D_aload b_C_set 40 4 42 := Or.inl ⟨by decide +kernel, rfl⟩
theorem d_C_set_42 : cd_D 3 b_C_set 42 (.getfield 84) 45 := ⟨by decide +kernel, rfl⟩
theorem d_C_set_45 : cd_D_istore b_C_set 45 5 47 := Or.inl ⟨by decide +kernel, rfl⟩
theorem d_C_set_47 : cd_D_aload b_C_set 47 4 49 := Or.inl ⟨by decide +kernel, rfl⟩
theorem d_C_set_49 : cd_D_iload b_C_set 49 3 50 := Or.inr ⟨3, ⟨by decide +kernel, rfl⟩, rfl⟩
theorem d_C_set_50 : cd_D 3 b_C_set 50 (.putfield 84) 53 := ⟨by decide +kernel, rfl⟩
theorem d_C_set_53 : cd_D_goto b_C_set 53 113 := ⟨60, by decide +kernel, by decide⟩
theorem d_C_set_56 : cd_D_iload b_C_set 56 2 57 := Or.inr ⟨2, ⟨by decide +kernel, rfl⟩, rfl⟩
theorem d_C_set_57 : cd_Dk b_C_set 57 (nI 2) 58 := Or.inl ⟨2, ⟨by decide +kernel, rfl⟩, by decide +kernel⟩
theorem d_C_set_58 : cd_D_icmp_ne b_C_set 58 86 61 := ⟨28, by decide +kernel, by decide, rfl⟩
theorem d_C_set_61 : cd_D_iload b_C_set 61 3 62 := Or.inr ⟨3, ⟨by decide +kernel, rfl⟩, rfl⟩
theorem d_C_set_62 : cd_Dk b_C_set 62 (nI 99) 64 := Or.inr (Or.inl ⟨99, ⟨by decide +kernel, rfl⟩, by decide +kernel⟩)
theorem d_C_set_64 : cd_D 3 b_C_set 64 (.invokestatic 58) 67 := ⟨by decide +kernel, rfl⟩
theorem d_C_set_67 : cd_D_if_eq b_C_set 67 86 70 := ⟨19, by decide +kernel, by decide, rfl⟩
theorem d_C_set_70 : cd_D_aload b_C_set 70 4 72 := Or.inl ⟨by decide +kernel, rfl⟩
theorem d_C_set_72 : cd_D 3 b_C_set 72 (.getfield 87) 75 := ⟨by decide +kernel, rfl⟩
theorem d_C_set_75 : cd_D_istore b_C_set 75 5 77 := Or.inl ⟨by decide +kernel, rfl⟩
theorem d_C_set_77 : cd_D_aload b_C_set 77 4 79 := Or.inl ⟨by decide +kernel, rfl⟩
theorem d_C_set_79 : cd_D_iload b_C_set 79 3 80 := Or.inr ⟨3, ⟨by decide +kernel, rfl⟩, rfl⟩
theorem d_C_set_80 : cd_D 3 b_C_set 80 (.putfield 87) 83 := ⟨by decide +kernel, rfl⟩
theorem d_C_set_83 : cd_D_goto b_C_set 83 113 := ⟨30, by decide +kernel, by decide⟩
theorem d_C_set_86 : cd_D_iload b_C_set 86 2 87 := Or.inr ⟨2, ⟨by decide +kernel, rfl⟩, rfl⟩
theorem d_C_set_87 : cd_Dk b_C_set 87 (nI 3) 88 := Or.inl ⟨3, ⟨by decide +kernel, rfl⟩, by decide +kernel⟩
theorem d_C_set_88 : cd_D_icmp_ne b_C_set 88 113 91 := ⟨25, by decide +kernel, by decide, rfl⟩
theorem d_C_set_91 : cd_D_iload b_C_set 91 3 92 := Or.inr ⟨3, ⟨by decide +kernel, rfl⟩, rfl⟩
theorem d_C_set_92 : cd_Dk b_C_set 92 (nI 100) 94 := Or.inr (Or.inl ⟨100, ⟨by decide +kernel, rfl⟩, by decide +kernel⟩)
theorem d_C_set_94 : cd_D 3 b_C_set 94 (.invokestatic 58) 97 := ⟨by decide +kernel, rfl⟩
theorem d_C_set_97 : cd_D_if_eq b_C_set 97 113 100 := ⟨16, by decide +kernel, by decide, rfl⟩
theorem d_C_set_100 : cd_D_aload b_C_set 100 4 102 := Or.inl ⟨by decide +kernel, rfl⟩
theorem d_C_set_102 : cd_D 3 b_C_set 102 (.getfield 90) 105 := ⟨by decide +kernel, rfl⟩
theorem d_C_set_105 : cd_D_istore b_C_set 105 5 107 := Or.inl ⟨by decide +kernel, rfl⟩
theorem d_C_set_107 : cd_D_aload b_C_set 107 4 109 := Or.inl ⟨by decide +kernel, rfl⟩
theorem d_C_set_109 : cd_D_iload b_C_set 109 3 110 := Or.inr ⟨3, ⟨by decide +kernel, rfl⟩, rfl⟩
theorem d_C_set_110 : cd_D 3 b_C_set 110 (.putfield 90) 113 := ⟨by decide +kernel, rfl⟩
theorem d_C_set_113 : cd_D_iload b_C_set 113 5 115 := Or.inl ⟨by decide +kernel, rfl⟩
theorem d_C_set_115 : cd_D 1 b_C_set 115 .ireturn 116 := ⟨by decide +kernel, rfl⟩
theorem c_C_set {l : Launch} {w : cd_WT} {S : cd_Sp} {I : cd_Mem} (hC : cd_CD w S) {mm tc : Nat} {N : Nat → Int32} (hG : cd_HG w S I (w.1 + 1) N mm tc) (a z v : Int32) : cd_C l w m_C_set 1 0 0 [.ref w.1, .int a, .int z, .int v] S I (cd_Pn w S I (sp_set N a z v) tc) := by
  refine cd_intro (by decide) (by simp [Value.category]) (Nat.le_of_ble_eq_true rfl) ?_
  intro X hO hE
  show cd_J w X 0 0 S I 0 [some (.ref w.1), some (.int a), some (.int z), some (.int v), none, none] []
  obtain ⟨hH, hhd, hV, hIV, hR⟩ := id hG
  have hmm := hV.2.1
  have hm1 : I (w.1 + 1) 3 = nI mm := (hR.at 1 (by omega) rfl rfl).trans hV.1
  refine r_aload hO d_C_set_0 rfl ?_
  refine r_iload hO d_C_set_1 rfl ?_
  refine r_cV1fi hO hE (c_C_isAsking hC hG _) mf_C_isAsking lk_C_71 hC.1 rfl (by decide) rfl (Nat.le_of_ble_eq_true rfl) d_C_set_2 (Nat.zero_le _) (Nat.zero_le _) ?_
  refine r_if_neB hO d_C_set_5 (fun c_5 => ?_) (fun c_5 => ?_)
  · obtain ⟨i, hi, rfl⟩ := cd_isA_ex hV.1 hV.2.1 c_5
    refine r_aload hO d_C_set_11 rfl ?_
    refine r_getR hO f_C_10 rfl hC.1 hC.2.1 d_C_set_12 ?_
    refine r_getR hO f_C_75 rfl hH.2.1 hH.2.2.2.2.1.1 d_C_set_15 ?_
    refine r_iload hO d_C_set_18 rfl ?_
    refine r_aald (t := 4) hO hH.2.2.2.2.1.2 (by decide) (by decide) (by omega) (by decide) (hH.2.2.2.2.2.2.2 _ (by omega)).1 d_C_set_19 ?_
    refine r_sA4 hO d_C_set_20 rfl ?_
    refine r_ldc hO k_C_62 d_C_set_22 ?_
    refine r_sI5 hO d_C_set_24 rfl ?_
    refine r_iload hO d_C_set_26 rfl ?_
    refine r_k hO d_C_set_27 ?_
    refine r_icmp_ne hO d_C_set_28 (fun c_28 => ?_) (fun c_28 => ?_)
    · refine r_iload hO d_C_set_56 rfl ?_
      refine r_k hO d_C_set_57 ?_
      refine r_icmp_ne hO d_C_set_58 (fun c_58 => ?_) (fun c_58 => ?_)
      · refine r_iload hO d_C_set_86 rfl ?_
        refine r_k hO d_C_set_87 ?_
        refine r_icmp_ne hO d_C_set_88 (fun c_88 => ?_) (fun c_88 => ?_)
        · refine r_iload hO d_C_set_113 rfl ?_
          refine r_iret hO hE (Nat.zero_le _) (Nat.zero_le _) d_C_set_115 ?_
          exact cd_pn (by unfold sp_set; rw [if_pos c_5, if_neg (cd_not13 c_28 c_58 c_88)]) hG (cd_ofh.rf _ _ _)
        · subst c_88
          refine r_iload hO d_C_set_91 rfl ?_
          refine r_k hO d_C_set_92 ?_
          refine r_cS2fi hO hE (c_C_isWithin _ _) mf_C_isWithin lk_C_58 (by decide) rfl (Nat.le_of_ble_eq_true rfl) d_C_set_94 (Nat.zero_le _) (Nat.zero_le _) ?_
          refine r_if_eqB hO d_C_set_97 (fun c_97 => ?_) (fun c_97 => ?_)
          · refine r_iload hO d_C_set_113 rfl ?_
            refine r_iret hO hE (Nat.zero_le _) (Nat.zero_le _) d_C_set_115 ?_
            exact cd_pn (by unfold sp_set; rw [if_pos c_5, if_pos (by decide), if_neg (show ¬ cd_isOf (nI 3) v from c_97)]) hG (cd_ofh.rf _ _ _)
          · refine r_aload hO d_C_set_100 rfl ?_
            refine r_getI hO f_C_90 rfl (hH.2.2.2.2.2.2.2 _ (by omega)).2 d_C_set_102 ?_
            rw [hR.ask hi 3 (by decide)]
            refine r_sI5 hO d_C_set_105 rfl ?_
            refine r_aload hO d_C_set_107 rfl ?_
            refine r_iload hO d_C_set_109 rfl ?_
            refine r_putI hO f_C_90 rfl (hH.2.2.2.2.2.2.2 _ (by omega)).2 (Nat.le_trans hH.1 (Nat.le_trans (Nat.le_add_right _ 6) (Nat.le_add_right _ _))) d_C_set_110 ?_
            refine r_iload hO d_C_set_113 rfl ?_
            refine r_iret hO hE (Nat.zero_le _) (Nat.zero_le _) d_C_set_115 ?_
            exact cd_pn (by unfold sp_set; rw [if_pos c_5, if_pos (by decide), if_pos (show cd_isOf (nI 3) v from c_97), cd_tn_nI (show _ < 2 ^ 31 by omega), cd_tn_nI (i := 3) (by decide)]) (cd_HG_ask hG hi 3 (by decide) v (by obtain ⟨q, -, q1, q2⟩ := cd_in_ex (lo := 0) (hi := 100) c_97 (by decide) (by decide); exact ⟨q, q1, q2⟩)) (cd_ofh.set _ _ (cd_wr_in (by omega) (by omega)))
      · subst c_58
        refine r_iload hO d_C_set_61 rfl ?_
        refine r_k hO d_C_set_62 ?_
        refine r_cS2fi hO hE (c_C_isWithin _ _) mf_C_isWithin lk_C_58 (by decide) rfl (Nat.le_of_ble_eq_true rfl) d_C_set_64 (Nat.zero_le _) (Nat.zero_le _) ?_
        refine r_if_eqB hO d_C_set_67 (fun c_67 => ?_) (fun c_67 => ?_)
        · refine r_iload hO d_C_set_86 rfl ?_
          refine r_k hO d_C_set_87 ?_
          refine r_icmp_ne hO d_C_set_88 (fun c_88 => ?_) (fun c_88 => ?_)
          · refine r_iload hO d_C_set_113 rfl ?_
            refine r_iret hO hE (Nat.zero_le _) (Nat.zero_le _) d_C_set_115 ?_
            exact cd_pn (by unfold sp_set; rw [if_pos c_5, if_pos (by decide), if_neg (show ¬ cd_isOf (nI 2) v from c_67)]) hG (cd_ofh.rf _ _ _)
          · exact absurd c_88 (by decide)
        · refine r_aload hO d_C_set_70 rfl ?_
          refine r_getI hO f_C_87 rfl (hH.2.2.2.2.2.2.2 _ (by omega)).2 d_C_set_72 ?_
          rw [hR.ask hi 2 (by decide)]
          refine r_sI5 hO d_C_set_75 rfl ?_
          refine r_aload hO d_C_set_77 rfl ?_
          refine r_iload hO d_C_set_79 rfl ?_
          refine r_putI hO f_C_87 rfl (hH.2.2.2.2.2.2.2 _ (by omega)).2 (Nat.le_trans hH.1 (Nat.le_trans (Nat.le_add_right _ 6) (Nat.le_add_right _ _))) d_C_set_80 ?_
          refine r_goto hO d_C_set_83 ?_
          refine r_iload hO d_C_set_113 rfl ?_
          refine r_iret hO hE (Nat.zero_le _) (Nat.zero_le _) d_C_set_115 ?_
          exact cd_pn (by unfold sp_set; rw [if_pos c_5, if_pos (by decide), if_pos (show cd_isOf (nI 2) v from c_67), cd_tn_nI (show _ < 2 ^ 31 by omega), cd_tn_nI (i := 2) (by decide)]) (cd_HG_ask hG hi 2 (by decide) v (by obtain ⟨q, -, q1, q2⟩ := cd_in_ex (lo := 0) (hi := 99) c_67 (by decide) (by decide); exact ⟨q, q1, q2⟩)) (cd_ofh.set _ _ (cd_wr_in (by omega) (by omega)))
    · subst c_28
      refine r_iload hO d_C_set_31 rfl ?_
      refine r_k hO d_C_set_32 ?_
      refine r_cS2fi hO hE (c_C_isWithin _ _) mf_C_isWithin lk_C_58 (by decide) rfl (Nat.le_of_ble_eq_true rfl) d_C_set_34 (Nat.zero_le _) (Nat.zero_le _) ?_
      refine r_if_eqB hO d_C_set_37 (fun c_37 => ?_) (fun c_37 => ?_)
      · refine r_iload hO d_C_set_56 rfl ?_
        refine r_k hO d_C_set_57 ?_
        refine r_icmp_ne hO d_C_set_58 (fun c_58 => ?_) (fun c_58 => ?_)
        · refine r_iload hO d_C_set_86 rfl ?_
          refine r_k hO d_C_set_87 ?_
          refine r_icmp_ne hO d_C_set_88 (fun c_88 => ?_) (fun c_88 => ?_)
          · refine r_iload hO d_C_set_113 rfl ?_
            refine r_iret hO hE (Nat.zero_le _) (Nat.zero_le _) d_C_set_115 ?_
            exact cd_pn (by unfold sp_set; rw [if_pos c_5, if_pos (by decide), if_neg (show ¬ cd_isOf (nI 1) v from c_37)]) hG (cd_ofh.rf _ _ _)
          · exact absurd c_88 (by decide)
        · exact absurd c_58 (by decide)
      · refine r_aload hO d_C_set_40 rfl ?_
        refine r_getI hO f_C_84 rfl (hH.2.2.2.2.2.2.2 _ (by omega)).2 d_C_set_42 ?_
        rw [hR.ask hi 1 (by decide)]
        refine r_sI5 hO d_C_set_45 rfl ?_
        refine r_aload hO d_C_set_47 rfl ?_
        refine r_iload hO d_C_set_49 rfl ?_
        refine r_putI hO f_C_84 rfl (hH.2.2.2.2.2.2.2 _ (by omega)).2 (Nat.le_trans hH.1 (Nat.le_trans (Nat.le_add_right _ 6) (Nat.le_add_right _ _))) d_C_set_50 ?_
        refine r_goto hO d_C_set_53 ?_
        refine r_iload hO d_C_set_113 rfl ?_
        refine r_iret hO hE (Nat.zero_le _) (Nat.zero_le _) d_C_set_115 ?_
        exact cd_pn (by unfold sp_set; rw [if_pos c_5, if_pos (by decide), if_pos (show cd_isOf (nI 1) v from c_37), cd_tn_nI (show _ < 2 ^ 31 by omega), cd_tn_nI (i := 1) (by decide)]) (cd_HG_ask hG hi 1 (by decide) v (by obtain ⟨q, -, q1, q2⟩ := cd_in_ex (lo := 0) (hi := 23) c_37 (by decide) (by decide); exact ⟨q, q1, q2⟩)) (cd_ofh.set _ _ (cd_wr_in (by omega) (by omega)))
  · refine r_ldc hO k_C_62 d_C_set_8 ?_
    refine r_iret hO hE (Nat.zero_le _) (Nat.zero_le _) d_C_set_10 ?_
    exact cd_pn (by unfold sp_set; rw [if_neg c_5]) hG (cd_ofh.rf _ _ _)
theorem d_C_told_0 : cd_D_aload b_C_told 0 0 1 := Or.inr ⟨0, ⟨by decide +kernel, rfl⟩, rfl⟩
theorem d_C_told_1 : cd_D_iload b_C_told 1 1 2 := Or.inr ⟨1, ⟨by decide +kernel, rfl⟩, rfl⟩
theorem d_C_told_2 : cd_D 3 b_C_told 2 (.invokevirtual 71) 5 := ⟨by decide +kernel, rfl⟩
theorem d_C_told_5 : cd_D_if_ne b_C_told 5 11 8 := ⟨6, by decide +kernel, by decide, rfl⟩
theorem d_C_told_8 : cd_D 2 b_C_told 8 (.ldc 62) 10 := ⟨by decide +kernel, rfl⟩
theorem d_C_told_10 : cd_D 1 b_C_told 10 .ireturn 11 := ⟨by decide +kernel, rfl⟩
theorem d_C_told_11 : cd_D_aload b_C_told 11 0 12 := Or.inr ⟨0, ⟨by decide +kernel, rfl⟩, rfl⟩
theorem d_C_told_12 : cd_D 3 b_C_told 12 (.getfield 10) 15 := ⟨by decide +kernel, rfl⟩
theorem d_C_told_15 : cd_D 3 b_C_told 15 (.getfield 75) 18 := ⟨by decide +kernel, rfl⟩
theorem d_C_told_18 : cd_D_iload b_C_told 18 1 19 := Or.inr ⟨1, ⟨by decide +kernel, rfl⟩, rfl⟩
theorem d_C_told_19 : cd_D 1 b_C_told 19 .aaload 20 := ⟨by decide +kernel, rfl⟩
theorem d_C_told_20 : cd_D_astore b_C_told 20 3 21 := Or.inr ⟨3, ⟨by decide +kernel, rfl⟩, rfl⟩
theorem d_C_told_21 : cd_D_iload b_C_told 21 2 22 := Or.inr ⟨2, ⟨by decide +kernel, rfl⟩, rfl⟩
theorem d_C_told_22 : decode b_C_told 22 = .ok (.tableswitch (133) (0) (10) #[58, 63, 68, 73, 78, 83, 92, 101, 110, 119, 128], 58) := by decide +kernel
theorem d_C_told_80 : cd_D_aload b_C_told 80 3 81 := Or.inr ⟨3, ⟨by decide +kernel, rfl⟩, rfl⟩
theorem d_C_told_81 : cd_D 3 b_C_told 81 (.getfield 79) 84 := ⟨by decide +kernel, rfl⟩
theorem d_C_told_84 : cd_D 1 b_C_told 84 .ireturn 85 := ⟨by decide +kernel, rfl⟩
theorem d_C_told_85 : cd_D_aload b_C_told 85 3 86 := Or.inr ⟨3, ⟨by decide +kernel, rfl⟩, rfl⟩
theorem d_C_told_86 : cd_D 3 b_C_told 86 (.getfield 84) 89 := ⟨by decide +kernel, rfl⟩
theorem d_C_told_89 : cd_D 1 b_C_told 89 .ireturn 90 := ⟨by decide +kernel, rfl⟩
theorem d_C_told_90 : cd_D_aload b_C_told 90 3 91 := Or.inr ⟨3, ⟨by decide +kernel, rfl⟩, rfl⟩
theorem d_C_told_91 : cd_D 3 b_C_told 91 (.getfield 87) 94 := ⟨by decide +kernel, rfl⟩
theorem d_C_told_94 : cd_D 1 b_C_told 94 .ireturn 95 := ⟨by decide +kernel, rfl⟩
theorem d_C_told_95 : cd_D_aload b_C_told 95 3 96 := Or.inr ⟨3, ⟨by decide +kernel, rfl⟩, rfl⟩
theorem d_C_told_96 : cd_D 3 b_C_told 96 (.getfield 90) 99 := ⟨by decide +kernel, rfl⟩
theorem d_C_told_99 : cd_D 1 b_C_told 99 .ireturn 100 := ⟨by decide +kernel, rfl⟩
theorem d_C_told_100 : cd_D_aload b_C_told 100 3 101 := Or.inr ⟨3, ⟨by decide +kernel, rfl⟩, rfl⟩
theorem d_C_told_101 : cd_D 3 b_C_told 101 (.getfield 93) 104 := ⟨by decide +kernel, rfl⟩
theorem d_C_told_104 : cd_D 1 b_C_told 104 .ireturn 105 := ⟨by decide +kernel, rfl⟩
theorem d_C_told_105 : cd_D_aload b_C_told 105 3 106 := Or.inr ⟨3, ⟨by decide +kernel, rfl⟩, rfl⟩
theorem d_C_told_106 : cd_D_aload b_C_told 106 0 107 := Or.inr ⟨0, ⟨by decide +kernel, rfl⟩, rfl⟩
theorem d_C_told_107 : cd_D 3 b_C_told 107 (.getfield 10) 110 := ⟨by decide +kernel, rfl⟩
theorem d_C_told_110 : cd_D 3 b_C_told 110 (.invokevirtual 96) 113 := ⟨by decide +kernel, rfl⟩
theorem d_C_told_113 : cd_D 1 b_C_told 113 .ireturn 114 := ⟨by decide +kernel, rfl⟩
theorem d_C_told_114 : cd_D 3 b_C_told 114 (.getstatic 100) 117 := ⟨by decide +kernel, rfl⟩
theorem d_C_told_117 : cd_D_aload b_C_told 117 3 118 := Or.inr ⟨3, ⟨by decide +kernel, rfl⟩, rfl⟩
theorem d_C_told_118 : cd_D 3 b_C_told 118 (.getfield 79) 121 := ⟨by decide +kernel, rfl⟩
theorem d_C_told_121 : cd_D 1 b_C_told 121 .iaload 122 := ⟨by decide +kernel, rfl⟩
theorem d_C_told_122 : cd_D 1 b_C_told 122 .ireturn 123 := ⟨by decide +kernel, rfl⟩
theorem d_C_told_123 : cd_D 3 b_C_told 123 (.getstatic 103) 126 := ⟨by decide +kernel, rfl⟩
theorem d_C_told_126 : cd_D_aload b_C_told 126 3 127 := Or.inr ⟨3, ⟨by decide +kernel, rfl⟩, rfl⟩
theorem d_C_told_127 : cd_D 3 b_C_told 127 (.getfield 79) 130 := ⟨by decide +kernel, rfl⟩
theorem d_C_told_130 : cd_D 1 b_C_told 130 .iaload 131 := ⟨by decide +kernel, rfl⟩
theorem d_C_told_131 : cd_D 1 b_C_told 131 .ireturn 132 := ⟨by decide +kernel, rfl⟩
theorem d_C_told_132 : cd_D 3 b_C_told 132 (.getstatic 106) 135 := ⟨by decide +kernel, rfl⟩
theorem d_C_told_135 : cd_D_aload b_C_told 135 3 136 := Or.inr ⟨3, ⟨by decide +kernel, rfl⟩, rfl⟩
theorem d_C_told_136 : cd_D 3 b_C_told 136 (.getfield 79) 139 := ⟨by decide +kernel, rfl⟩
theorem d_C_told_139 : cd_D 1 b_C_told 139 .iaload 140 := ⟨by decide +kernel, rfl⟩
theorem d_C_told_140 : cd_D 1 b_C_told 140 .ireturn 141 := ⟨by decide +kernel, rfl⟩
theorem d_C_told_141 : cd_D_aload b_C_told 141 3 142 := Or.inr ⟨3, ⟨by decide +kernel, rfl⟩, rfl⟩
theorem d_C_told_142 : cd_D_aload b_C_told 142 0 143 := Or.inr ⟨0, ⟨by decide +kernel, rfl⟩, rfl⟩
theorem d_C_told_143 : cd_D 3 b_C_told 143 (.getfield 10) 146 := ⟨by decide +kernel, rfl⟩
theorem d_C_told_146 : cd_D 3 b_C_told 146 (.invokevirtual 109) 149 := ⟨by decide +kernel, rfl⟩
theorem d_C_told_149 : cd_D 1 b_C_told 149 .ireturn 150 := ⟨by decide +kernel, rfl⟩
theorem d_C_told_150 : cd_D_aload b_C_told 150 3 151 := Or.inr ⟨3, ⟨by decide +kernel, rfl⟩, rfl⟩
theorem d_C_told_151 : cd_D 3 b_C_told 151 (.invokevirtual 112) 154 := ⟨by decide +kernel, rfl⟩
theorem d_C_told_154 : cd_D 1 b_C_told 154 .ireturn 155 := ⟨by decide +kernel, rfl⟩
theorem d_C_told_155 : cd_D 2 b_C_told 155 (.ldc 62) 157 := ⟨by decide +kernel, rfl⟩
theorem d_C_told_157 : cd_D 1 b_C_told 157 .ireturn 158 := ⟨by decide +kernel, rfl⟩
theorem c_C_told {l : Launch} {w : cd_WT} {S : cd_Sp} {I : cd_Mem} (hC : cd_CD w S) {mm tc : Nat} {N : Nat → Int32} (hG : cd_HG w S I (w.1 + 1) N mm tc) (a z : Int32) : cd_C l w m_C_told 4 0 0 [.ref w.1, .int a, .int z] S I (cd_Pn w S I (sp_told N tc a z, N) tc) := by
  refine cd_intro (by decide) (by simp [Value.category]) (Nat.le_of_ble_eq_true rfl) ?_
  intro X hO hE
  show cd_J w X 0 0 S I 0 [some (.ref w.1), some (.int a), some (.int z), none] []
  obtain ⟨hH, hhd, hV, hIV, hR⟩ := id hG
  have hmm := hV.2.1
  have hm1 : I (w.1 + 1) 3 = nI mm := (hR.at 1 (by omega) rfl rfl).trans hV.1
  have hcat : I (w.1 + 1 + 1) 4 = 0 ∨ I (w.1 + 1 + 1) 4 = nI 1 := by
    rw [show I (w.1 + 1 + 1) 4 = N 7 from hR.at 7 (by omega) rfl rfl]
    exact hIV.2.2.2.1
  refine r_aload hO d_C_told_0 rfl ?_
  refine r_iload hO d_C_told_1 rfl ?_
  refine r_cV1fi hO hE (c_C_isAsking hC hG _) mf_C_isAsking lk_C_71 hC.1 rfl (by decide) rfl (Nat.le_of_ble_eq_true rfl) d_C_told_2 (Nat.zero_le _) (Nat.zero_le _) ?_
  refine r_if_neB hO d_C_told_5 (fun c_5 => ?_) (fun c_5 => ?_)
  · obtain ⟨i, hi, rfl⟩ := cd_isA_ex hV.1 hV.2.1 c_5
    obtain ⟨kd, hk5, hkd⟩ := (hIV.1 i hi).1
    have ek : I (w.1 + 1 + 6 + i) 0 = nI kd := (hR.ask hi 0 (by decide)).trans hkd
    refine r_aload hO d_C_told_11 rfl ?_
    refine r_getR hO f_C_10 rfl hC.1 hC.2.1 d_C_told_12 ?_
    refine r_getR hO f_C_75 rfl hH.2.1 hH.2.2.2.2.1.1 d_C_told_15 ?_
    refine r_iload hO d_C_told_18 rfl ?_
    refine r_aald (t := 4) hO hH.2.2.2.2.1.2 (by decide) (by decide) (by omega) (by decide) (hH.2.2.2.2.2.2.2 _ (by omega)).1 d_C_told_19 ?_
    refine r_sA3 hO d_C_told_20 rfl ?_
    refine r_iload hO d_C_told_21 rfl ?_
    by_cases c_22_0 : z = nI 0
    · refine r_tabE hO d_C_told_22 c_22_0 (off := 58) (by decide) (by decide) (by decide) (tgt := 80) (by decide) ?_
      refine r_aload hO d_C_told_80 rfl ?_
      refine r_getI hO f_C_79 rfl (hH.2.2.2.2.2.2.2 _ (by omega)).2 d_C_told_81 ?_
      rw [hR.ask hi 0 (by decide)]
      refine r_iret hO hE (Nat.zero_le _) (Nat.zero_le _) d_C_told_84 ?_
      exact cd_pn (sp := (sp_told N tc (nI i) z, N)) (by unfold sp_told; rw [if_pos c_5, if_pos c_22_0, cd_tn_nI (show _ < 2 ^ 31 by omega)]) hG (cd_ofh.rf _ _ _)
    by_cases c_22_1 : z = nI 1
    · refine r_tabE hO d_C_told_22 c_22_1 (off := 63) (by decide) (by decide) (by decide) (tgt := 85) (by decide) ?_
      refine r_aload hO d_C_told_85 rfl ?_
      refine r_getI hO f_C_84 rfl (hH.2.2.2.2.2.2.2 _ (by omega)).2 d_C_told_86 ?_
      rw [hR.ask hi 1 (by decide)]
      refine r_iret hO hE (Nat.zero_le _) (Nat.zero_le _) d_C_told_89 ?_
      exact cd_pn (sp := (sp_told N tc (nI i) z, N)) (by unfold sp_told; rw [if_pos c_5, if_neg c_22_0, if_pos c_22_1, cd_tn_nI (show _ < 2 ^ 31 by omega)]) hG (cd_ofh.rf _ _ _)
    by_cases c_22_2 : z = nI 2
    · refine r_tabE hO d_C_told_22 c_22_2 (off := 68) (by decide) (by decide) (by decide) (tgt := 90) (by decide) ?_
      refine r_aload hO d_C_told_90 rfl ?_
      refine r_getI hO f_C_87 rfl (hH.2.2.2.2.2.2.2 _ (by omega)).2 d_C_told_91 ?_
      rw [hR.ask hi 2 (by decide)]
      refine r_iret hO hE (Nat.zero_le _) (Nat.zero_le _) d_C_told_94 ?_
      exact cd_pn (sp := (sp_told N tc (nI i) z, N)) (by unfold sp_told; rw [if_pos c_5, if_neg c_22_0, if_neg c_22_1, if_pos c_22_2, cd_tn_nI (show _ < 2 ^ 31 by omega)]) hG (cd_ofh.rf _ _ _)
    by_cases c_22_3 : z = nI 3
    · refine r_tabE hO d_C_told_22 c_22_3 (off := 73) (by decide) (by decide) (by decide) (tgt := 95) (by decide) ?_
      refine r_aload hO d_C_told_95 rfl ?_
      refine r_getI hO f_C_90 rfl (hH.2.2.2.2.2.2.2 _ (by omega)).2 d_C_told_96 ?_
      rw [hR.ask hi 3 (by decide)]
      refine r_iret hO hE (Nat.zero_le _) (Nat.zero_le _) d_C_told_99 ?_
      exact cd_pn (sp := (sp_told N tc (nI i) z, N)) (by unfold sp_told; rw [if_pos c_5, if_neg c_22_0, if_neg c_22_1, if_neg c_22_2, if_pos c_22_3, cd_tn_nI (show _ < 2 ^ 31 by omega)]) hG (cd_ofh.rf _ _ _)
    by_cases c_22_4 : z = nI 4
    · refine r_tabE hO d_C_told_22 c_22_4 (off := 78) (by decide) (by decide) (by decide) (tgt := 100) (by decide) ?_
      refine r_aload hO d_C_told_100 rfl ?_
      refine r_getI hO f_C_93 rfl (hH.2.2.2.2.2.2.2 _ (by omega)).2 d_C_told_101 ?_
      rw [hR.ask hi 4 (by decide)]
      refine r_iret hO hE (Nat.zero_le _) (Nat.zero_le _) d_C_told_104 ?_
      exact cd_pn (sp := (sp_told N tc (nI i) z, N)) (by unfold sp_told; rw [if_pos c_5, if_neg c_22_0, if_neg c_22_1, if_neg c_22_2, if_neg c_22_3, if_pos c_22_4, cd_tn_nI (show _ < 2 ^ 31 by omega)]) hG (cd_ofh.rf _ _ _)
    by_cases c_22_5 : z = nI 5
    · refine r_tabE hO d_C_told_22 c_22_5 (off := 83) (by decide) (by decide) (by decide) (tgt := 105) (by decide) ?_
      refine r_aload hO d_C_told_105 rfl ?_
      refine r_aload hO d_C_told_106 rfl ?_
      refine r_getR hO f_C_10 rfl hC.1 hC.2.1 d_C_told_107 ?_
      refine r_cV1i hO hE (c_A_presses hG hi) mf_A_presses lk_C_96 (hH.2.2.2.2.2.2.2 _ (by omega)).2 rfl (by decide) rfl (Nat.le_of_ble_eq_true rfl) d_C_told_110 (Nat.zero_le _) (Nat.zero_le _) ?_
      rintro x I2 ⟨hx, hG2, ho2⟩
      subst hx
      refine r_iret hO hE (Nat.zero_le _) (Nat.zero_le _) d_C_told_113 ?_
      exact cd_pn (sp := (sp_told N tc (nI i) z, N)) (by unfold sp_told; rw [if_pos c_5, if_neg c_22_0, if_neg c_22_1, if_neg c_22_2, if_neg c_22_3, if_neg c_22_4, if_pos c_22_5, cd_tn_nI (show _ < 2 ^ 31 by omega)]) hG2 ho2
    by_cases c_22_6 : z = nI 6
    · refine r_tabE hO d_C_told_22 c_22_6 (off := 92) (by decide) (by decide) (by decide) (tgt := 114) (by decide) ?_
      refine r_gets hO 1 (by decide) gs_100 d_C_told_114 ?_
      refine r_aload hO d_C_told_117 rfl ?_
      refine r_getI hO f_C_79 rfl (hH.2.2.2.2.2.2.2 _ (by omega)).2 d_C_told_118 ?_
      refine r_tops ek ?_
      refine r_stald hO (i := 1) (by decide) (show _ < 6 by omega) d_C_told_121 ?_
      rw [(cd_lea_sv hk5).1, ← hkd]
      refine r_iret hO hE (Nat.zero_le _) (Nat.zero_le _) d_C_told_122 ?_
      exact cd_pn (sp := (sp_told N tc (nI i) z, N)) (by unfold sp_told; rw [if_pos c_5, if_neg c_22_0, if_neg c_22_1, if_neg c_22_2, if_neg c_22_3, if_neg c_22_4, if_neg c_22_5, if_pos c_22_6, cd_tn_nI (show _ < 2 ^ 31 by omega)]) hG (cd_ofh.rf _ _ _)
    by_cases c_22_7 : z = nI 7
    · refine r_tabE hO d_C_told_22 c_22_7 (off := 101) (by decide) (by decide) (by decide) (tgt := 123) (by decide) ?_
      refine r_gets hO 2 (by decide) gs_103 d_C_told_123 ?_
      refine r_aload hO d_C_told_126 rfl ?_
      refine r_getI hO f_C_79 rfl (hH.2.2.2.2.2.2.2 _ (by omega)).2 d_C_told_127 ?_
      refine r_tops ek ?_
      refine r_stald hO (i := 2) (by decide) (show _ < 6 by omega) d_C_told_130 ?_
      rw [(cd_lea_sv hk5).2.1, ← hkd]
      refine r_iret hO hE (Nat.zero_le _) (Nat.zero_le _) d_C_told_131 ?_
      exact cd_pn (sp := (sp_told N tc (nI i) z, N)) (by unfold sp_told; rw [if_pos c_5, if_neg c_22_0, if_neg c_22_1, if_neg c_22_2, if_neg c_22_3, if_neg c_22_4, if_neg c_22_5, if_neg c_22_6, if_pos c_22_7, cd_tn_nI (show _ < 2 ^ 31 by omega)]) hG (cd_ofh.rf _ _ _)
    by_cases c_22_8 : z = nI 8
    · refine r_tabE hO d_C_told_22 c_22_8 (off := 110) (by decide) (by decide) (by decide) (tgt := 132) (by decide) ?_
      refine r_gets hO 3 (by decide) gs_106 d_C_told_132 ?_
      refine r_aload hO d_C_told_135 rfl ?_
      refine r_getI hO f_C_79 rfl (hH.2.2.2.2.2.2.2 _ (by omega)).2 d_C_told_136 ?_
      refine r_tops ek ?_
      refine r_stald hO (i := 3) (by decide) (show _ < 6 by omega) d_C_told_139 ?_
      rw [(cd_lea_sv hk5).2.2, ← hkd]
      refine r_iret hO hE (Nat.zero_le _) (Nat.zero_le _) d_C_told_140 ?_
      exact cd_pn (sp := (sp_told N tc (nI i) z, N)) (by unfold sp_told; rw [if_pos c_5, if_neg c_22_0, if_neg c_22_1, if_neg c_22_2, if_neg c_22_3, if_neg c_22_4, if_neg c_22_5, if_neg c_22_6, if_neg c_22_7, if_pos c_22_8, cd_tn_nI (show _ < 2 ^ 31 by omega)]) hG (cd_ofh.rf _ _ _)
    by_cases c_22_9 : z = nI 9
    · refine r_tabE hO d_C_told_22 c_22_9 (off := 119) (by decide) (by decide) (by decide) (tgt := 141) (by decide) ?_
      refine r_aload hO d_C_told_141 rfl ?_
      refine r_aload hO d_C_told_142 rfl ?_
      refine r_getR hO f_C_10 rfl hC.1 hC.2.1 d_C_told_143 ?_
      refine r_cV1fi hO hE (c_A_meansIt (hH.2.2.2.2.2.2.2 _ (by omega)).2 (Nat.le_trans hH.1 (by omega)) hH hcat) mf_A_meansIt lk_C_109 (hH.2.2.2.2.2.2.2 _ (by omega)).2 rfl (by decide) rfl (Nat.le_of_ble_eq_true rfl) d_C_told_146 (Nat.zero_le _) (Nat.zero_le _) ?_
      rw [hR.ask hi 0 (by decide), hR.ask hi 3 (by decide), show I (w.1 + 1 + 1) 4 = N 7 from hR.at 7 (by omega) rfl rfl, show I (w.1 + 1 + 1) 5 = N 8 from hR.at 8 (by omega) rfl rfl, ← cd_mea_me]
      refine r_iret hO hE (Nat.zero_le _) (Nat.zero_le _) d_C_told_149 ?_
      exact cd_pn (sp := (sp_told N tc (nI i) z, N)) (by unfold sp_told; rw [if_pos c_5, if_neg c_22_0, if_neg c_22_1, if_neg c_22_2, if_neg c_22_3, if_neg c_22_4, if_neg c_22_5, if_neg c_22_6, if_neg c_22_7, if_neg c_22_8, if_pos c_22_9, cd_tn_nI (show _ < 2 ^ 31 by omega)]) hG (cd_ofh.rf _ _ _)
    by_cases c_22_10 : z = nI 10
    · refine r_tabE hO d_C_told_22 c_22_10 (off := 128) (by decide) (by decide) (by decide) (tgt := 150) (by decide) ?_
      refine r_aload hO d_C_told_150 rfl ?_
      refine r_cV0fi hO hE (c_A_worth (hH.2.2.2.2.2.2.2 _ (by omega)).2 (Nat.le_trans hH.1 (by omega))) mf_A_worth lk_C_112 (hH.2.2.2.2.2.2.2 _ (by omega)).2 rfl (by decide) rfl (Nat.le_of_ble_eq_true rfl) d_C_told_151 (Nat.zero_le _) (Nat.zero_le _) ?_
      rw [hR.ask hi 0 (by decide), hR.ask hi 2 (by decide)]
      refine r_iret hO hE (Nat.zero_le _) (Nat.zero_le _) d_C_told_154 ?_
      exact cd_pn (sp := (sp_told N tc (nI i) z, N)) (by unfold sp_told; rw [if_pos c_5, if_neg c_22_0, if_neg c_22_1, if_neg c_22_2, if_neg c_22_3, if_neg c_22_4, if_neg c_22_5, if_neg c_22_6, if_neg c_22_7, if_neg c_22_8, if_neg c_22_9, if_pos c_22_10, cd_tn_nI (show _ < 2 ^ 31 by omega)]) hG (cd_ofh.rf _ _ _)
    refine r_tabN hO d_C_told_22 (by decide) (fun j hj => ?_) (tgt := 155) (by decide) ?_
    · have hj2 : j < 11 := hj
      rcases (show j = 0 ∨ j = 1 ∨ j = 2 ∨ j = 3 ∨ j = 4 ∨ j = 5 ∨ j = 6 ∨ j = 7 ∨ j = 8 ∨ j = 9 ∨ j = 10 by omega) with rfl | rfl | rfl | rfl | rfl | rfl | rfl | rfl | rfl | rfl | rfl
      · exact Or.inl (fun e => c_22_0 (e.trans (by decide)))
      · exact Or.inl (fun e => c_22_1 (e.trans (by decide)))
      · exact Or.inl (fun e => c_22_2 (e.trans (by decide)))
      · exact Or.inl (fun e => c_22_3 (e.trans (by decide)))
      · exact Or.inl (fun e => c_22_4 (e.trans (by decide)))
      · exact Or.inl (fun e => c_22_5 (e.trans (by decide)))
      · exact Or.inl (fun e => c_22_6 (e.trans (by decide)))
      · exact Or.inl (fun e => c_22_7 (e.trans (by decide)))
      · exact Or.inl (fun e => c_22_8 (e.trans (by decide)))
      · exact Or.inl (fun e => c_22_9 (e.trans (by decide)))
      · exact Or.inl (fun e => c_22_10 (e.trans (by decide)))
    refine r_ldc hO k_C_62 d_C_told_155 ?_
    refine r_iret hO hE (Nat.zero_le _) (Nat.zero_le _) d_C_told_157 ?_
    exact cd_pn (sp := (sp_told N tc (nI i) z, N)) (by unfold sp_told; rw [if_pos c_5, if_neg c_22_0, if_neg c_22_1, if_neg c_22_2, if_neg c_22_3, if_neg c_22_4, if_neg c_22_5, if_neg c_22_6, if_neg c_22_7, if_neg c_22_8, if_neg c_22_9, if_neg c_22_10]) hG (cd_ofh.rf _ _ _)
  · refine r_ldc hO k_C_62 d_C_told_8 ?_
    refine r_iret hO hE (Nat.zero_le _) (Nat.zero_le _) d_C_told_10 ?_
    exact cd_pn (sp := (sp_told N tc a z, N)) (by unfold sp_told; rw [if_neg c_5]) hG (cd_ofh.rf _ _ _)
theorem d_C_house_0 : cd_D_iload b_C_house 0 1 1 := Or.inr ⟨1, ⟨by decide +kernel, rfl⟩, rfl⟩
theorem d_C_house_1 : decode b_C_house 1 = .ok (.tableswitch (123) (0) (7) #[47, 57, 67, 77, 87, 97, 107, 115], 47) := by decide +kernel
theorem d_C_house_48 : cd_D_aload b_C_house 48 0 49 := Or.inr ⟨0, ⟨by decide +kernel, rfl⟩, rfl⟩
theorem d_C_house_49 : cd_D 3 b_C_house 49 (.getfield 10) 52 := ⟨by decide +kernel, rfl⟩
theorem d_C_house_52 : cd_D 3 b_C_house 52 (.getfield 123) 55 := ⟨by decide +kernel, rfl⟩
theorem d_C_house_55 : cd_Dk b_C_house 55 (nI 4) 56 := Or.inl ⟨4, ⟨by decide +kernel, rfl⟩, by decide +kernel⟩
theorem d_C_house_56 : cd_D 1 b_C_house 56 .iaload 57 := ⟨by decide +kernel, rfl⟩
theorem d_C_house_57 : cd_D 1 b_C_house 57 .ireturn 58 := ⟨by decide +kernel, rfl⟩
theorem d_C_house_58 : cd_D_aload b_C_house 58 0 59 := Or.inr ⟨0, ⟨by decide +kernel, rfl⟩, rfl⟩
theorem d_C_house_59 : cd_D 3 b_C_house 59 (.getfield 10) 62 := ⟨by decide +kernel, rfl⟩
theorem d_C_house_62 : cd_D 3 b_C_house 62 (.getfield 142) 65 := ⟨by decide +kernel, rfl⟩
theorem d_C_house_65 : cd_Dk b_C_house 65 (nI 0) 66 := Or.inl ⟨0, ⟨by decide +kernel, rfl⟩, by decide +kernel⟩
theorem d_C_house_66 : cd_D 1 b_C_house 66 .iaload 67 := ⟨by decide +kernel, rfl⟩
theorem d_C_house_67 : cd_D 1 b_C_house 67 .ireturn 68 := ⟨by decide +kernel, rfl⟩
theorem d_C_house_68 : cd_D_aload b_C_house 68 0 69 := Or.inr ⟨0, ⟨by decide +kernel, rfl⟩, rfl⟩
theorem d_C_house_69 : cd_D 3 b_C_house 69 (.getfield 10) 72 := ⟨by decide +kernel, rfl⟩
theorem d_C_house_72 : cd_D 3 b_C_house 72 (.getfield 142) 75 := ⟨by decide +kernel, rfl⟩
theorem d_C_house_75 : cd_Dk b_C_house 75 (nI 1) 76 := Or.inl ⟨1, ⟨by decide +kernel, rfl⟩, by decide +kernel⟩
theorem d_C_house_76 : cd_D 1 b_C_house 76 .iaload 77 := ⟨by decide +kernel, rfl⟩
theorem d_C_house_77 : cd_D 1 b_C_house 77 .ireturn 78 := ⟨by decide +kernel, rfl⟩
theorem d_C_house_78 : cd_D_aload b_C_house 78 0 79 := Or.inr ⟨0, ⟨by decide +kernel, rfl⟩, rfl⟩
theorem d_C_house_79 : cd_D 3 b_C_house 79 (.getfield 10) 82 := ⟨by decide +kernel, rfl⟩
theorem d_C_house_82 : cd_D 3 b_C_house 82 (.getfield 142) 85 := ⟨by decide +kernel, rfl⟩
theorem d_C_house_85 : cd_Dk b_C_house 85 (nI 2) 86 := Or.inl ⟨2, ⟨by decide +kernel, rfl⟩, by decide +kernel⟩
theorem d_C_house_86 : cd_D 1 b_C_house 86 .iaload 87 := ⟨by decide +kernel, rfl⟩
theorem d_C_house_87 : cd_D 1 b_C_house 87 .ireturn 88 := ⟨by decide +kernel, rfl⟩
theorem d_C_house_88 : cd_D_aload b_C_house 88 0 89 := Or.inr ⟨0, ⟨by decide +kernel, rfl⟩, rfl⟩
theorem d_C_house_89 : cd_D 3 b_C_house 89 (.getfield 10) 92 := ⟨by decide +kernel, rfl⟩
theorem d_C_house_92 : cd_D 3 b_C_house 92 (.getfield 142) 95 := ⟨by decide +kernel, rfl⟩
theorem d_C_house_95 : cd_Dk b_C_house 95 (nI 3) 96 := Or.inl ⟨3, ⟨by decide +kernel, rfl⟩, by decide +kernel⟩
theorem d_C_house_96 : cd_D 1 b_C_house 96 .iaload 97 := ⟨by decide +kernel, rfl⟩
theorem d_C_house_97 : cd_D 1 b_C_house 97 .ireturn 98 := ⟨by decide +kernel, rfl⟩
theorem d_C_house_98 : cd_D_aload b_C_house 98 0 99 := Or.inr ⟨0, ⟨by decide +kernel, rfl⟩, rfl⟩
theorem d_C_house_99 : cd_D 3 b_C_house 99 (.getfield 10) 102 := ⟨by decide +kernel, rfl⟩
theorem d_C_house_102 : cd_D 3 b_C_house 102 (.getfield 142) 105 := ⟨by decide +kernel, rfl⟩
theorem d_C_house_105 : cd_Dk b_C_house 105 (nI 4) 106 := Or.inl ⟨4, ⟨by decide +kernel, rfl⟩, by decide +kernel⟩
theorem d_C_house_106 : cd_D 1 b_C_house 106 .iaload 107 := ⟨by decide +kernel, rfl⟩
theorem d_C_house_107 : cd_D 1 b_C_house 107 .ireturn 108 := ⟨by decide +kernel, rfl⟩
theorem d_C_house_108 : cd_D_aload b_C_house 108 0 109 := Or.inr ⟨0, ⟨by decide +kernel, rfl⟩, rfl⟩
theorem d_C_house_109 : cd_D 3 b_C_house 109 (.getfield 10) 112 := ⟨by decide +kernel, rfl⟩
theorem d_C_house_112 : cd_D 3 b_C_house 112 (.invokevirtual 150) 115 := ⟨by decide +kernel, rfl⟩
theorem d_C_house_115 : cd_D 1 b_C_house 115 .ireturn 116 := ⟨by decide +kernel, rfl⟩
theorem d_C_house_116 : cd_D_aload b_C_house 116 0 117 := Or.inr ⟨0, ⟨by decide +kernel, rfl⟩, rfl⟩
theorem d_C_house_117 : cd_D 3 b_C_house 117 (.getfield 10) 120 := ⟨by decide +kernel, rfl⟩
theorem d_C_house_120 : cd_D 3 b_C_house 120 (.invokevirtual 153) 123 := ⟨by decide +kernel, rfl⟩
theorem d_C_house_123 : cd_D 1 b_C_house 123 .ireturn 124 := ⟨by decide +kernel, rfl⟩
theorem d_C_house_124 : cd_D 2 b_C_house 124 (.ldc 62) 126 := ⟨by decide +kernel, rfl⟩
theorem d_C_house_126 : cd_D 1 b_C_house 126 .ireturn 127 := ⟨by decide +kernel, rfl⟩
theorem c_C_house {l : Launch} {w : cd_WT} {S : cd_Sp} {I : cd_Mem} (hC : cd_CD w S) {mm tc : Nat} {N : Nat → Int32} (hG : cd_HG w S I (w.1 + 1) N mm tc) {hh : Nat} (hN2 : N 2 = nI hh) (h9 : hh ≤ 9999) (z : Int32) : cd_C l w m_C_house 1 0 0 [.ref w.1, .int z] S I (cd_Pn w S I (sp_house N mm z, N) tc) := by
  refine cd_intro (by decide) (by simp [Value.category]) (Nat.le_of_ble_eq_true rfl) ?_
  intro X hO hE
  show cd_J w X 0 0 S I 0 [some (.ref w.1), some (.int z)] []
  obtain ⟨hH, hhd, hV, hIV, hR⟩ := id hG
  have hmm := hV.2.1
  have hm1 : I (w.1 + 1) 3 = nI mm := (hR.at 1 (by omega) rfl rfl).trans hV.1
  refine r_iload hO d_C_house_0 rfl ?_
  by_cases c_1_0 : z = nI 0
  · subst c_1_0
    refine r_tabE hO d_C_house_1 rfl (off := 47) (by decide) (by decide) (by decide) (tgt := 48) (by decide) ?_
    refine r_aload hO d_C_house_48 rfl ?_
    refine r_getR hO f_C_10 rfl hC.1 hC.2.1 d_C_house_49 ?_
    refine r_getR hO f_C_123 rfl hH.2.1 hH.2.2.1.1 d_C_house_52 ?_
    refine r_k hO d_C_house_55 ?_
    refine r_iald hO hH.2.2.1.2 (by omega) (by decide) d_C_house_56 ?_
    refine r_tops (hR.at 7 (by omega) rfl rfl) ?_
    refine r_iret hO hE (Nat.zero_le _) (Nat.zero_le _) d_C_house_57 ?_
    exact cd_pn (sp := (sp_house N mm _, N)) (by unfold sp_house; rw [if_pos (by decide), if_pos (by decide)]) hG (cd_ofh.rf _ _ _)
  by_cases c_1_1 : z = nI 1
  · subst c_1_1
    refine r_tabE hO d_C_house_1 rfl (off := 57) (by decide) (by decide) (by decide) (tgt := 58) (by decide) ?_
    refine r_aload hO d_C_house_58 rfl ?_
    refine r_getR hO f_C_10 rfl hC.1 hC.2.1 d_C_house_59 ?_
    refine r_getR hO f_C_142 rfl hH.2.1 hH.2.2.2.1.1 d_C_house_62 ?_
    refine r_k hO d_C_house_65 ?_
    refine r_iald hO hH.2.2.2.1.2 (by omega) (by decide) d_C_house_66 ?_
    refine r_tops (hR.at 10 (by omega) rfl rfl) ?_
    refine r_iret hO hE (Nat.zero_le _) (Nat.zero_le _) d_C_house_67 ?_
    exact cd_pn (sp := (sp_house N mm _, N)) (by unfold sp_house; rw [if_pos (by decide), if_neg (by decide), if_neg (by decide), cd_tn_nI (i := 1) (by decide)]) hG (cd_ofh.rf _ _ _)
  by_cases c_1_2 : z = nI 2
  · subst c_1_2
    refine r_tabE hO d_C_house_1 rfl (off := 67) (by decide) (by decide) (by decide) (tgt := 68) (by decide) ?_
    refine r_aload hO d_C_house_68 rfl ?_
    refine r_getR hO f_C_10 rfl hC.1 hC.2.1 d_C_house_69 ?_
    refine r_getR hO f_C_142 rfl hH.2.1 hH.2.2.2.1.1 d_C_house_72 ?_
    refine r_k hO d_C_house_75 ?_
    refine r_iald hO hH.2.2.2.1.2 (by omega) (by decide) d_C_house_76 ?_
    refine r_tops (hR.at 11 (by omega) rfl rfl) ?_
    refine r_iret hO hE (Nat.zero_le _) (Nat.zero_le _) d_C_house_77 ?_
    exact cd_pn (sp := (sp_house N mm _, N)) (by unfold sp_house; rw [if_pos (by decide), if_neg (by decide), if_neg (by decide), cd_tn_nI (i := 2) (by decide)]) hG (cd_ofh.rf _ _ _)
  by_cases c_1_3 : z = nI 3
  · subst c_1_3
    refine r_tabE hO d_C_house_1 rfl (off := 77) (by decide) (by decide) (by decide) (tgt := 78) (by decide) ?_
    refine r_aload hO d_C_house_78 rfl ?_
    refine r_getR hO f_C_10 rfl hC.1 hC.2.1 d_C_house_79 ?_
    refine r_getR hO f_C_142 rfl hH.2.1 hH.2.2.2.1.1 d_C_house_82 ?_
    refine r_k hO d_C_house_85 ?_
    refine r_iald hO hH.2.2.2.1.2 (by omega) (by decide) d_C_house_86 ?_
    refine r_tops (hR.at 12 (by omega) rfl rfl) ?_
    refine r_iret hO hE (Nat.zero_le _) (Nat.zero_le _) d_C_house_87 ?_
    exact cd_pn (sp := (sp_house N mm _, N)) (by unfold sp_house; rw [if_pos (by decide), if_neg (by decide), if_neg (by decide), cd_tn_nI (i := 3) (by decide)]) hG (cd_ofh.rf _ _ _)
  by_cases c_1_4 : z = nI 4
  · subst c_1_4
    refine r_tabE hO d_C_house_1 rfl (off := 87) (by decide) (by decide) (by decide) (tgt := 88) (by decide) ?_
    refine r_aload hO d_C_house_88 rfl ?_
    refine r_getR hO f_C_10 rfl hC.1 hC.2.1 d_C_house_89 ?_
    refine r_getR hO f_C_142 rfl hH.2.1 hH.2.2.2.1.1 d_C_house_92 ?_
    refine r_k hO d_C_house_95 ?_
    refine r_iald hO hH.2.2.2.1.2 (by omega) (by decide) d_C_house_96 ?_
    refine r_tops (hR.at 13 (by omega) rfl rfl) ?_
    refine r_iret hO hE (Nat.zero_le _) (Nat.zero_le _) d_C_house_97 ?_
    exact cd_pn (sp := (sp_house N mm _, N)) (by unfold sp_house; rw [if_pos (by decide), if_neg (by decide), if_neg (by decide), cd_tn_nI (i := 4) (by decide)]) hG (cd_ofh.rf _ _ _)
  by_cases c_1_5 : z = nI 5
  · subst c_1_5
    refine r_tabE hO d_C_house_1 rfl (off := 97) (by decide) (by decide) (by decide) (tgt := 98) (by decide) ?_
    refine r_aload hO d_C_house_98 rfl ?_
    refine r_getR hO f_C_10 rfl hC.1 hC.2.1 d_C_house_99 ?_
    refine r_getR hO f_C_142 rfl hH.2.1 hH.2.2.2.1.1 d_C_house_102 ?_
    refine r_k hO d_C_house_105 ?_
    refine r_iald hO hH.2.2.2.1.2 (by omega) (by decide) d_C_house_106 ?_
    refine r_tops (hR.at 14 (by omega) rfl rfl) ?_
    refine r_iret hO hE (Nat.zero_le _) (Nat.zero_le _) d_C_house_107 ?_
    exact cd_pn (sp := (sp_house N mm _, N)) (by unfold sp_house; rw [if_pos (by decide), if_neg (by decide), if_neg (by decide), cd_tn_nI (i := 5) (by decide)]) hG (cd_ofh.rf _ _ _)
  by_cases c_1_6 : z = nI 6
  · subst c_1_6
    refine r_tabE hO d_C_house_1 rfl (off := 107) (by decide) (by decide) (by decide) (tgt := 108) (by decide) ?_
    refine r_aload hO d_C_house_108 rfl ?_
    refine r_getR hO f_C_10 rfl hC.1 hC.2.1 d_C_house_109 ?_
    refine r_cV0fi hO hE (c_H_habitSum hG) mf_H_habitSum lk_C_150 hH.2.1 rfl (by decide) rfl (Nat.le_of_ble_eq_true rfl) d_C_house_112 (Nat.zero_le _) (Nat.zero_le _) ?_
    refine r_iret hO hE (Nat.zero_le _) (Nat.zero_le _) d_C_house_115 ?_
    exact cd_pn (sp := (sp_house N mm _, N)) (by unfold sp_house; rw [if_pos (by decide), if_neg (by decide), if_pos (by decide), if_pos rfl]) hG (cd_ofh.rf _ _ _)
  by_cases c_1_7 : z = nI 7
  · subst c_1_7
    refine r_tabE hO d_C_house_1 rfl (off := 115) (by decide) (by decide) (by decide) (tgt := 116) (by decide) ?_
    refine r_aload hO d_C_house_116 rfl ?_
    refine r_getR hO f_C_10 rfl hC.1 hC.2.1 d_C_house_117 ?_
    refine r_cV0fi hO hE (c_H_comingNext hG hN2 h9) mf_H_comingNext lk_C_153 hH.2.1 rfl (by decide) rfl (Nat.le_of_ble_eq_true rfl) d_C_house_120 (Nat.zero_le _) (Nat.zero_le _) ?_
    refine r_iret hO hE (Nat.zero_le _) (Nat.zero_le _) d_C_house_123 ?_
    exact cd_pn (sp := (sp_house N mm _, N)) (by unfold sp_house; rw [if_pos (by decide), if_neg (by decide), if_pos (by decide), if_neg (by decide)]) hG (cd_ofh.rf _ _ _)
  refine r_tabN hO d_C_house_1 (by decide) (fun j hj => ?_) (tgt := 124) (by decide) ?_
  · have hj2 : j < 8 := hj
    rcases (show j = 0 ∨ j = 1 ∨ j = 2 ∨ j = 3 ∨ j = 4 ∨ j = 5 ∨ j = 6 ∨ j = 7 by omega) with rfl | rfl | rfl | rfl | rfl | rfl | rfl | rfl
    · exact Or.inl (fun e => c_1_0 (e.trans (by decide)))
    · exact Or.inl (fun e => c_1_1 (e.trans (by decide)))
    · exact Or.inl (fun e => c_1_2 (e.trans (by decide)))
    · exact Or.inl (fun e => c_1_3 (e.trans (by decide)))
    · exact Or.inl (fun e => c_1_4 (e.trans (by decide)))
    · exact Or.inl (fun e => c_1_5 (e.trans (by decide)))
    · exact Or.inl (fun e => c_1_6 (e.trans (by decide)))
    · exact Or.inl (fun e => c_1_7 (e.trans (by decide)))
  refine r_ldc hO k_C_62 d_C_house_124 ?_
  refine r_iret hO hE (Nat.zero_le _) (Nat.zero_le _) d_C_house_126 ?_
  exact cd_pn (sp := (sp_house N mm _, N)) (by unfold sp_house; rw [if_neg (cd_not07 c_1_0 c_1_1 c_1_2 c_1_3 c_1_4 c_1_5 c_1_6 c_1_7)]) hG (cd_ofh.rf _ _ _)
