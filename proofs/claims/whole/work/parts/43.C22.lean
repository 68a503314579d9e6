/-- the component's sheets hold the reference's sorts, sizes and cells -/
def cd_SR (w : cd_WT) (I : cd_Mem) (so sz ce : Nat → Int32) : Prop := ∀ s, s < 4 → I (w.1 + 62 + 2 * s) 0 = so s ∧ I (w.1 + 62 + 2 * s) 1 = sz s ∧ ∀ k, k < 24 → I (w.1 + 62 + 2 * s + 1) k = ce (24 * s + k)
theorem cd_so0 {x : Int32} (h : x = -1 ∨ x = nI 0 ∨ x = nI 1) : 0 ≤ x ↔ ¬ x = (-1) := by
  rcases h with rfl | rfl | rfl <;> decide
theorem d_C_reads_0 : cd_D_iload b_C_reads 0 1 1 := Or.inr ⟨1, ⟨by decide +kernel, rfl⟩, rfl⟩
theorem d_C_reads_1 : cd_Dk b_C_reads 1 (nI 3) 2 := Or.inl ⟨3, ⟨by decide +kernel, rfl⟩, by decide +kernel⟩
theorem d_C_reads_2 : cd_D 3 b_C_reads 2 (.invokestatic 58) 5 := ⟨by decide +kernel, rfl⟩
theorem d_C_reads_5 : cd_D_if_ne b_C_reads 5 11 8 := ⟨6, by decide +kernel, by decide, rfl⟩
theorem d_C_reads_8 : cd_D 2 b_C_reads 8 (.ldc 62) 10 := ⟨by decide +kernel, rfl⟩
theorem d_C_reads_10 : cd_D 1 b_C_reads 10 .ireturn 11 := ⟨by decide +kernel, rfl⟩
theorem d_C_reads_11 : cd_D_aload b_C_reads 11 0 12 := Or.inr ⟨0, ⟨by decide +kernel, rfl⟩, rfl⟩
theorem d_C_reads_12 : cd_D 3 b_C_reads 12 (.getfield 35) 15 := ⟨by decide +kernel, rfl⟩
theorem d_C_reads_15 : cd_D_iload b_C_reads 15 1 16 := Or.inr ⟨1, ⟨by decide +kernel, rfl⟩, rfl⟩
theorem d_C_reads_16 : cd_D 1 b_C_reads 16 .aaload 17 := ⟨by decide +kernel, rfl⟩
theorem d_C_reads_17 : cd_D_astore b_C_reads 17 2 18 := Or.inr ⟨2, ⟨by decide +kernel, rfl⟩, rfl⟩
theorem d_C_reads_18 : cd_D_aload b_C_reads 18 2 19 := Or.inr ⟨2, ⟨by decide +kernel, rfl⟩, rfl⟩
theorem d_C_reads_19 : cd_D 3 b_C_reads 19 (.invokevirtual 167) 22 := ⟨by decide +kernel, rfl⟩
theorem d_C_reads_22 : cd_D_if_eq b_C_reads 22 28 25 := ⟨6, by decide +kernel, by decide, rfl⟩
theorem d_C_reads_25 : cd_D 2 b_C_reads 25 (.ldc 171) 27 := ⟨by decide +kernel, rfl⟩
theorem d_C_reads_27 : cd_D 1 b_C_reads 27 .ireturn 28 := ⟨by decide +kernel, rfl⟩
theorem d_C_reads_28 : cd_Dk b_C_reads 28 (nI 0) 29 := Or.inl ⟨0, ⟨by decide +kernel, rfl⟩, by decide +kernel⟩
theorem d_C_reads_29 : cd_D_istore b_C_reads 29 3 30 := Or.inr ⟨3, ⟨by decide +kernel, rfl⟩, rfl⟩
theorem d_C_reads_30 : cd_D_iload b_C_reads 30 3 31 := Or.inr ⟨3, ⟨by decide +kernel, rfl⟩, rfl⟩
theorem d_C_reads_31 : cd_D_aload b_C_reads 31 2 32 := Or.inr ⟨2, ⟨by decide +kernel, rfl⟩, rfl⟩
theorem d_C_reads_32 : cd_D 3 b_C_reads 32 (.getfield 176) 35 := ⟨by decide +kernel, rfl⟩
theorem d_C_reads_35 : cd_D_icmp_ge b_C_reads 35 98 38 := ⟨63, by decide +kernel, by decide, rfl⟩
theorem d_C_reads_38 : cd_D_iload b_C_reads 38 3 39 := Or.inr ⟨3, ⟨by decide +kernel, rfl⟩, rfl⟩
theorem d_C_reads_39 : cd_D_aload b_C_reads 39 0 40 := Or.inr ⟨0, ⟨by decide +kernel, rfl⟩, rfl⟩
theorem d_C_reads_40 : cd_D 3 b_C_reads 40 (.getfield 10) 43 := ⟨by decide +kernel, rfl⟩
theorem d_C_reads_43 : cd_D 3 b_C_reads 43 (.getfield 63) 46 := ⟨by decide +kernel, rfl⟩
theorem d_C_reads_46 : cd_D_icmp_ge b_C_reads 46 74 49 := ⟨28, by decide +kernel, by decide, rfl⟩
theorem d_C_reads_49 : cd_D_aload b_C_reads 49 0 50 := Or.inr ⟨0, ⟨by decide +kernel, rfl⟩, rfl⟩
theorem d_C_reads_50 : cd_D 3 b_C_reads 50 (.getfield 10) 53 := ⟨by decide +kernel, rfl⟩
theorem d_C_reads_53 : cd_D 3 b_C_reads 53 (.getfield 75) 56 := ⟨by decide +kernel, rfl⟩
theorem d_C_reads_56 : cd_D_iload b_C_reads 56 3 57 := Or.inr ⟨3, ⟨by decide +kernel, rfl⟩, rfl⟩
theorem d_C_reads_57 : cd_D 1 b_C_reads 57 .aaload 58 := ⟨by decide +kernel, rfl⟩
theorem d_C_reads_58 : cd_D 3 b_C_reads 58 (.getfield 84) 61 := ⟨by decide +kernel, rfl⟩
theorem d_C_reads_61 : cd_D_aload b_C_reads 61 2 62 := Or.inr ⟨2, ⟨by decide +kernel, rfl⟩, rfl⟩
theorem d_C_reads_62 : cd_D 3 b_C_reads 62 (.getfield 182) 65 := ⟨by decide +kernel, rfl⟩
theorem d_C_reads_65 : cd_D_iload b_C_reads 65 3 66 := Or.inr ⟨3, ⟨by decide +kernel, rfl⟩, rfl⟩
theorem d_C_reads_66 : cd_D 1 b_C_reads 66 .iaload 67 := ⟨by decide +kernel, rfl⟩
theorem d_C_reads_67 : cd_D_icmp_ne b_C_reads 67 74 70 := ⟨7, by decide +kernel, by decide, rfl⟩
theorem d_C_reads_70 : cd_Dk b_C_reads 70 (nI 1) 71 := Or.inl ⟨1, ⟨by decide +kernel, rfl⟩, by decide +kernel⟩
theorem d_C_reads_71 : cd_D_goto b_C_reads 71 75 := ⟨4, by decide +kernel, by decide⟩
theorem d_C_reads_74 : cd_Dk b_C_reads 74 (nI 0) 75 := Or.inl ⟨0, ⟨by decide +kernel, rfl⟩, by decide +kernel⟩
theorem d_C_reads_75 : cd_D_istore b_C_reads 75 4 77 := Or.inl ⟨by decide +kernel, rfl⟩
theorem d_C_reads_77 : cd_D_aload b_C_reads 77 2 78 := Or.inr ⟨2, ⟨by decide +kernel, rfl⟩, rfl⟩
theorem d_C_reads_78 : cd_D_iload b_C_reads 78 3 79 := Or.inr ⟨3, ⟨by decide +kernel, rfl⟩, rfl⟩
theorem d_C_reads_79 : cd_D 3 b_C_reads 79 (.invokevirtual 179) 82 := ⟨by decide +kernel, rfl⟩
theorem d_C_reads_82 : cd_D_if_eq b_C_reads 82 92 85 := ⟨10, by decide +kernel, by decide, rfl⟩
theorem d_C_reads_85 : cd_D_iload b_C_reads 85 4 87 := Or.inl ⟨by decide +kernel, rfl⟩
theorem d_C_reads_87 : cd_D_if_ne b_C_reads 87 92 90 := ⟨5, by decide +kernel, by decide, rfl⟩
theorem d_C_reads_90 : cd_D_iload b_C_reads 90 3 91 := Or.inr ⟨3, ⟨by decide +kernel, rfl⟩, rfl⟩
theorem d_C_reads_91 : cd_D 1 b_C_reads 91 .ireturn 92 := ⟨by decide +kernel, rfl⟩
theorem d_C_reads_92 : cd_D 3 b_C_reads 92 (.iinc 3 (1)) 95 := ⟨by decide +kernel, rfl⟩
theorem d_C_reads_95 : cd_D_goto b_C_reads 95 30 := ⟨-65, by decide +kernel, by decide⟩
theorem d_C_reads_98 : cd_D 2 b_C_reads 98 (.ldc 160) 100 := ⟨by decide +kernel, rfl⟩
theorem d_C_reads_100 : cd_D 1 b_C_reads 100 .ireturn 101 := ⟨by decide +kernel, rfl⟩
theorem c_C_reads {l : Launch} {w : cd_WT} {S : cd_Sp} {I : cd_Mem} (hC : cd_CD w S) {mm tc : Nat} {N : Nat → Int32} (hG : cd_HG w S I (w.1 + 1) N mm tc) {so sz ce : Nat → Int32} (hS : cd_SR w I so sz ce) (hVS : cd_VS so sz) (z : Int32) : cd_C l w m_C_reads 2 0 0 [.ref w.1, .int z] S I (cd_Pn w S I (sp_reads N so sz ce z, N) tc) := by
  refine cd_intro (by decide) (by simp [Value.category]) (Nat.le_of_ble_eq_true rfl) ?_
  intro X hO hE
  show cd_J w X 0 0 S I 0 [some (.ref w.1), some (.int z), none, none, none] []
  obtain ⟨hH, hhd, hV, hIV, hR⟩ := id hG
  have hmm := hV.2.1
  have hm1 : I (w.1 + 1) 3 = nI mm := (hR.at 1 (by omega) rfl rfl).trans hV.1
  refine r_iload hO d_C_reads_0 rfl ?_
  refine r_k hO d_C_reads_1 ?_
  refine r_cS2fi hO hE (c_C_isWithin _ _) mf_C_isWithin lk_C_58 (by decide) rfl (Nat.le_of_ble_eq_true rfl) d_C_reads_2 (Nat.zero_le _) (Nat.zero_le _) ?_
  refine r_if_neB hO d_C_reads_5 (fun c_5 => ?_) (fun c_5 => ?_)
  · obtain ⟨s, -, hs3, rfl⟩ := cd_in_ex c_5 (by decide) (by decide)
    obtain ⟨hs0, hs1, hs2⟩ := hS s (by omega)
    obtain ⟨n, hn24, hsz, hso⟩ := hVS s (by omega)
    refine r_aload hO d_C_reads_11 rfl ?_
    refine r_getR hO f_C_35 rfl hC.1 hC.2.2.2.2.2.1 d_C_reads_12 ?_
    refine r_iload hO d_C_reads_15 rfl ?_
    refine r_aald (t := 6) hO hC.2.2.2.2.2.2.2.2.2.2.2.2.2.1 (by decide) (by decide) (by omega) (by decide) (hC.2.2.2.2.2.2.2.2.2.2.2.2.2.2.2.2.2.1 _ (by omega)).1 d_C_reads_16 ?_
    refine r_sA2 hO d_C_reads_17 rfl ?_
    refine r_aload hO d_C_reads_18 rfl ?_
    refine r_cV0fi hO hE (c_S_isMissing (hC.2.2.2.2.2.2.2.2.2.2.2.2.2.2.2.2.2.1 _ (by omega)).2 (Nat.le_trans (Nat.le_add_right _ _) (Nat.le_add_right _ _))) mf_S_isMissing lk_C_167 (hC.2.2.2.2.2.2.2.2.2.2.2.2.2.2.2.2.2.1 _ (by omega)).2.1 rfl (by decide) rfl (Nat.le_of_ble_eq_true rfl) d_C_reads_19 (Nat.zero_le _) (Nat.zero_le _) ?_
    rw [hs0]
    refine r_if_eqB hO d_C_reads_22 (fun c_22 => ?_) (fun c_22 => ?_)
    · have hs22 : ¬ so s = (-1) := c_22
      have loop : ∀ (r i : Nat) (x4 : Option Value), i + r = n → cd_rd N ce s n 0 = cd_rd N ce s r i → cd_J w X 0 0 S I 30 [some (.ref w.1), some (.int (nI s)), some (.ref (w.1 + 62 + 2 * s)), some (.int (nI i)), x4] [] := by
        intro r
        induction r with
        | zero =>
          intro i x4 hi hr
          have hi2 : i = n := by omega
          subst hi2
          refine r_iload hO d_C_reads_30 rfl ?_
          refine r_aload hO d_C_reads_31 rfl ?_
          refine r_getI hO f_C_176 rfl (hC.2.2.2.2.2.2.2.2.2.2.2.2.2.2.2.2.2.1 _ (by omega)).2.1 d_C_reads_32 ?_
          refine r_tops (hs1.trans hsz) ?_
          refine r_icmp_ge hO d_C_reads_35 (fun c_35 => ?_) (fun c_35 => ?_)
          · refine r_ldc hO k_C_160 d_C_reads_98 ?_
            refine r_iret hO hE (Nat.zero_le _) (Nat.zero_le _) d_C_reads_100 ?_
            exact cd_pn (sp := (sp_reads N so sz ce (nI s), N)) (by unfold sp_reads; rw [if_pos c_5, cd_tn_nI (show s < 2 ^ 31 by omega), if_pos ((cd_so0 hso).mpr hs22), hsz, cd_tn_nI (show _ < 2 ^ 31 by omega), hr]; rfl) hG (cd_ofh.rf _ _ _)
          · exact absurd (nI_le (Nat.le_refl _) (by omega)) c_35
        | succ r ih =>
          intro i x4 hi hr
          have hce := hs2 i (by omega)
          have hrd : cd_rd N ce s (r + 1) i = if ce (24 * s + i) = cd_NONE then cd_rd N ce s r (i + 1) else if cd_isA N (nI i) then (if ce (24 * s + i) = N (16 + 5 * i + 1) then cd_rd N ce s r (i + 1) else nI i) else nI i := rfl
          refine r_iload hO d_C_reads_30 rfl ?_
          refine r_aload hO d_C_reads_31 rfl ?_
          refine r_getI hO f_C_176 rfl (hC.2.2.2.2.2.2.2.2.2.2.2.2.2.2.2.2.2.1 _ (by omega)).2.1 d_C_reads_32 ?_
          refine r_tops (hs1.trans hsz) ?_
          refine r_icmp_ge hO d_C_reads_35 (fun c_35 => ?_) (fun c_35 => ?_)
          · exact absurd c_35 (nI_ge (by omega) (by omega))
          · refine r_iload hO d_C_reads_38 rfl ?_
            refine r_aload hO d_C_reads_39 rfl ?_
            refine r_getR hO f_C_10 rfl hC.1 hC.2.1 d_C_reads_40 ?_
            refine r_getI hO f_C_63 rfl hH.2.1 d_C_reads_43 ?_
            refine r_tops hm1 ?_
            refine r_jn2 (pcJ := 75) (fun v => v = cd_bI (cd_isA N (nI i) ∧ ce (24 * s + i) = N (16 + 5 * i + 1))) (fun v_46 hv_46 => ?_) (fun hj_46 => ?_)
            · subst hv_46
              refine r_sI4 hO d_C_reads_75 rfl ?_
              refine r_aload hO d_C_reads_77 rfl ?_
              refine r_iload hO d_C_reads_78 rfl ?_
              refine r_cV1fi hO hE (c_S_isNumber (hC.2.2.2.2.2.2.2.2.2.2.2.2.2.2.2.2.2.1 _ (by omega)).2 (Nat.le_trans (Nat.le_add_right _ _) (Nat.le_add_right _ _)) (hs1.trans hsz) hn24 _) mf_S_isNumber lk_C_179 (hC.2.2.2.2.2.2.2.2.2.2.2.2.2.2.2.2.2.1 _ (by omega)).2.1 rfl (by decide) rfl (Nat.le_of_ble_eq_true rfl) d_C_reads_79 (Nat.zero_le _) (Nat.zero_le _) ?_
              refine r_if_eqB hO d_C_reads_82 (fun c_82 => ?_) (fun c_82 => ?_)
              · refine r_incN3 hO d_C_reads_92 rfl ?_
                refine r_goto hO d_C_reads_95 ?_
                refine ih (i + 1) _ (by omega) (hr.trans (hrd.trans (if_pos ?_)))
                rw [← hce]
                exact Decidable.not_not.mp (fun q => c_82 ⟨nI_pos (by omega), nI_ge (by omega) (by omega), by rw [cd_tn_nI (show i < 2 ^ 31 by omega)]; exact q⟩)
              · refine r_iload hO d_C_reads_85 rfl ?_
                refine r_if_neB hO d_C_reads_87 (fun c_87 => ?_) (fun c_87 => ?_)
                · refine r_incN3 hO d_C_reads_92 rfl ?_
                  refine r_goto hO d_C_reads_95 ?_
                  refine ih (i + 1) _ (by omega) (hr.trans (hrd.trans ?_))
                  rw [if_pos c_87.1, if_pos c_87.2, ite_self]
                · refine r_iload hO d_C_reads_90 rfl ?_
                  refine r_iret hO hE (Nat.zero_le _) (Nat.zero_le _) d_C_reads_91 ?_
                  have hne : ¬ ce (24 * s + i) = cd_NONE := by
                    have := c_82.2.2
                    rw [cd_tn_nI (show i < 2 ^ 31 by omega), hce] at this
                    exact this
                  have hv : cd_rd N ce s (r + 1) i = nI i := by
                    rw [hrd, if_neg hne]
                    by_cases hA : cd_isA N (nI i)
                    · rw [if_pos hA, if_neg (fun q => c_87 ⟨hA, q⟩)]
                    · rw [if_neg hA]
                  exact cd_pn (sp := (sp_reads N so sz ce (nI s), N)) (by unfold sp_reads; rw [if_pos c_5, cd_tn_nI (show s < 2 ^ 31 by omega), if_pos ((cd_so0 hso).mpr hs22), hsz, cd_tn_nI (show n < 2 ^ 31 by omega), hr, hv]) hG (cd_ofh.rf _ _ _)
            · refine r_icmp_ge hO d_C_reads_46 (fun c_46 => ?_) (fun c_46 => ?_)
              · refine r_k hO d_C_reads_74 ?_
                exact hj_46 _ (by unfold cd_bI; rw [if_neg (fun q => ((cd_isA_lt hV.1 hmm).mp q.1).2 c_46)]; rfl)
              · refine r_aload hO d_C_reads_49 rfl ?_
                refine r_getR hO f_C_10 rfl hC.1 hC.2.1 d_C_reads_50 ?_
                refine r_getR hO f_C_75 rfl hH.2.1 hH.2.2.2.2.1.1 d_C_reads_53 ?_
                refine r_iload hO d_C_reads_56 rfl ?_
                have him : i < mm := by
                  rcases Nat.lt_or_ge i mm with q | q
                  · exact q
                  · exact absurd (nI_le q (by omega)) c_46
                refine r_aald (t := 4) hO hH.2.2.2.2.1.2 (by decide) (by decide) (show i < 12 from by rcases Nat.lt_or_ge i mm with q | q; omega; exact absurd (nI_le q (by omega)) c_46) (by decide) (hH.2.2.2.2.2.2.2 _ (by omega)).1 d_C_reads_57 ?_
                refine r_getI hO f_C_84 rfl (hH.2.2.2.2.2.2.2 _ (by omega)).2 d_C_reads_58 ?_
                rw [hR.ask him 1 (by decide)]
                refine r_aload hO d_C_reads_61 rfl ?_
                refine r_getR hO f_C_182 rfl (hC.2.2.2.2.2.2.2.2.2.2.2.2.2.2.2.2.2.1 _ (by omega)).2.1 (hC.2.2.2.2.2.2.2.2.2.2.2.2.2.2.2.2.2.1 _ (by omega)).2.2.1 d_C_reads_62 ?_
                refine r_iload hO d_C_reads_65 rfl ?_
                refine r_iald hO (hC.2.2.2.2.2.2.2.2.2.2.2.2.2.2.2.2.2.1 _ (by omega)).2.2.2 (by omega) (by decide) d_C_reads_66 ?_
                rw [hce]
                refine r_icmp_ne hO d_C_reads_67 (fun c_67 => ?_) (fun c_67 => ?_)
                · refine r_k hO d_C_reads_74 ?_
                  exact hj_46 _ (by unfold cd_bI; rw [if_neg (fun q => c_67 q.2.symm)]; rfl)
                · refine r_k hO d_C_reads_70 ?_
                  refine r_goto hO d_C_reads_71 ?_
                  exact hj_46 _ (by unfold cd_bI; rw [if_pos ⟨(cd_isA_lt hV.1 hmm).mpr ⟨nI_pos (by omega), c_46⟩, c_67.symm⟩]; rfl)
      refine r_k hO d_C_reads_28 ?_
      refine r_sI3 hO d_C_reads_29 rfl ?_
      exact loop n 0 _ (by omega) rfl
    · refine r_ldc hO k_C_171 d_C_reads_25 ?_
      refine r_iret hO hE (Nat.zero_le _) (Nat.zero_le _) d_C_reads_27 ?_
      exact cd_pn (sp := (sp_reads N so sz ce (nI s), N)) (by unfold sp_reads; rw [if_pos c_5, cd_tn_nI (show s < 2 ^ 31 by omega), if_neg (fun q => (cd_so0 hso).mp q c_22)]) hG (cd_ofh.rf _ _ _)
  · refine r_ldc hO k_C_62 d_C_reads_8 ?_
    refine r_iret hO hE (Nat.zero_le _) (Nat.zero_le _) d_C_reads_10 ?_
    exact cd_pn (sp := (sp_reads N so sz ce z, N)) (by unfold sp_reads; rw [if_neg c_5]) hG (cd_ofh.rf _ _ _)
