/-- the component's slots hold what the reference's rows say -/
def cd_LR (w : cd_WT) (I : cd_Mem) (ho hA hB hc : Nat → Int32) : Prop := ∀ j, j < 5 → I (w.1 + 70 + 4 * j) 0 = ho j ∧ (ho j = nI 1 → I (w.1 + 71 + 4 * j) 0 = hA j ∧ cd_wor (I (w.1 + 71 + 4 * j) 0) (I (w.1 + 71 + 4 * j) 2) = hB j ∧ ∃ kd, kd ≤ 5 ∧ hA j = nI kd) ∧ (ho j = nI 2 → I (w.1 + 72 + 4 * j) 1 = hA j ∧ ∀ k, k < 24 → I (w.1 + 72 + 4 * j + 1) k = hc (24 * j + k)) ∧ (ho j = nI 3 → I (w.1 + 70 + 4 * j) 1 = hA j)
theorem cd_ref_y {h z : Int32} (e : (if h = 0 then cd_NOTHING else if h = z then nI 0 else cd_KIND) = 0) : ¬ h = 0 ∧ h = z := by
  by_cases h1 : h = 0
  · rw [if_pos h1] at e
    exact absurd e (by decide)
  · rw [if_neg h1] at e
    by_cases h2 : h = z
    · exact ⟨h1, h2⟩
    · rw [if_neg h2] at e
      exact absurd e (by decide)
theorem cd_ref_n {h z : Int32} (x : Int32) (e : ¬ (if h = 0 then cd_NOTHING else if h = z then nI 0 else cd_KIND) = 0) : (if h = 0 then cd_NOTHING else if h = z then x else cd_KIND) = (if h = 0 then cd_NOTHING else if h = z then nI 0 else cd_KIND) := by
  by_cases h1 : h = 0
  · rw [if_pos h1, if_pos h1]
  · rw [if_neg h1, if_neg h1] at *
    by_cases h2 : h = z
    · rw [if_pos h2] at e
      exact absurd rfl e
    · rw [if_neg h2, if_neg h2]
theorem d_C_ask_0 : cd_D_iload b_C_ask 0 1 1 := Or.inr ⟨1, ⟨by decide +kernel, rfl⟩, rfl⟩
theorem d_C_ask_1 : cd_Dk b_C_ask 1 (nI 4) 2 := Or.inl ⟨4, ⟨by decide +kernel, rfl⟩, by decide +kernel⟩
theorem d_C_ask_2 : cd_D 3 b_C_ask 2 (.invokestatic 58) 5 := ⟨by decide +kernel, rfl⟩
theorem d_C_ask_5 : cd_D_if_eq b_C_ask 5 16 8 := ⟨11, by decide +kernel, by decide, rfl⟩
theorem d_C_ask_8 : cd_D_iload b_C_ask 8 2 9 := Or.inr ⟨2, ⟨by decide +kernel, rfl⟩, rfl⟩
theorem d_C_ask_9 : cd_Dk b_C_ask 9 (nI 5) 10 := Or.inl ⟨5, ⟨by decide +kernel, rfl⟩, by decide +kernel⟩
theorem d_C_ask_10 : cd_D 3 b_C_ask 10 (.invokestatic 58) 13 := ⟨by decide +kernel, rfl⟩
theorem d_C_ask_13 : cd_D_if_ne b_C_ask 13 19 16 := ⟨6, by decide +kernel, by decide, rfl⟩
theorem d_C_ask_16 : cd_D 2 b_C_ask 16 (.ldc 62) 18 := ⟨by decide +kernel, rfl⟩
theorem d_C_ask_18 : cd_D 1 b_C_ask 18 .ireturn 19 := ⟨by decide +kernel, rfl⟩
theorem d_C_ask_19 : cd_D_aload b_C_ask 19 0 20 := Or.inr ⟨0, ⟨by decide +kernel, rfl⟩, rfl⟩
theorem d_C_ask_20 : cd_D 3 b_C_ask 20 (.getfield 41) 23 := ⟨by decide +kernel, rfl⟩
theorem d_C_ask_23 : cd_D_iload b_C_ask 23 1 24 := Or.inr ⟨1, ⟨by decide +kernel, rfl⟩, rfl⟩
theorem d_C_ask_24 : cd_D 1 b_C_ask 24 .aaload 25 := ⟨by decide +kernel, rfl⟩
theorem d_C_ask_25 : cd_Dk b_C_ask 25 (nI 1) 26 := Or.inl ⟨1, ⟨by decide +kernel, rfl⟩, by decide +kernel⟩
theorem d_C_ask_26 : cd_D 3 b_C_ask 26 (.invokevirtual 280) 29 := ⟨by decide +kernel, rfl⟩
theorem d_C_ask_29 : cd_D_istore b_C_ask 29 3 30 := Or.inr ⟨3, ⟨by decide +kernel, rfl⟩, rfl⟩
theorem d_C_ask_30 : cd_D_iload b_C_ask 30 3 31 := Or.inr ⟨3, ⟨by decide +kernel, rfl⟩, rfl⟩
theorem d_C_ask_31 : cd_D_if_eq b_C_ask 31 36 34 := ⟨5, by decide +kernel, by decide, rfl⟩
theorem d_C_ask_34 : cd_D_iload b_C_ask 34 3 35 := Or.inr ⟨3, ⟨by decide +kernel, rfl⟩, rfl⟩
theorem d_C_ask_35 : cd_D 1 b_C_ask 35 .ireturn 36 := ⟨by decide +kernel, rfl⟩
theorem d_C_ask_36 : cd_D_aload b_C_ask 36 0 37 := Or.inr ⟨0, ⟨by decide +kernel, rfl⟩, rfl⟩
theorem d_C_ask_37 : cd_D 3 b_C_ask 37 (.getfield 41) 40 := ⟨by decide +kernel, rfl⟩
theorem d_C_ask_40 : cd_D_iload b_C_ask 40 1 41 := Or.inr ⟨1, ⟨by decide +kernel, rfl⟩, rfl⟩
theorem d_C_ask_41 : cd_D 1 b_C_ask 41 .aaload 42 := ⟨by decide +kernel, rfl⟩
theorem d_C_ask_42 : cd_D 3 b_C_ask 42 (.getfield 264) 45 := ⟨by decide +kernel, rfl⟩
theorem d_C_ask_45 : cd_D_astore b_C_ask 45 4 47 := Or.inl ⟨by decide +kernel, rfl⟩
theorem d_C_ask_47 : cd_D_aload b_C_ask 47 4 49 := Or.inl ⟨by decide +kernel, rfl⟩
theorem d_C_ask_49 : cd_D_iload b_C_ask 49 2 50 := Or.inr ⟨2, ⟨by decide +kernel, rfl⟩, rfl⟩
theorem d_C_ask_50 : cd_D 3 b_C_ask 50 (.invokevirtual 116) 53 := ⟨by decide +kernel, rfl⟩
theorem d_C_ask_53 : cd_D_if_eq b_C_ask 53 64 56 := ⟨11, by decide +kernel, by decide, rfl⟩
theorem d_C_ask_56 : cd_D_aload b_C_ask 56 4 58 := Or.inl ⟨by decide +kernel, rfl⟩
theorem d_C_ask_58 : cd_D 3 b_C_ask 58 (.invokevirtual 112) 61 := ⟨by decide +kernel, rfl⟩
theorem d_C_ask_61 : cd_D_goto b_C_ask 61 66 := ⟨5, by decide +kernel, by decide⟩
theorem d_C_ask_64 : cd_D 2 b_C_ask 64 (.ldc 119) 66 := ⟨by decide +kernel, rfl⟩
theorem d_C_ask_66 : cd_D 1 b_C_ask 66 .ireturn 67 := ⟨by decide +kernel, rfl⟩
theorem c_C_ask {l : Launch} {w : cd_WT} {S : cd_Sp} {I : cd_Mem} (hC : cd_CD w S) {ho hA hB hc : Nat → Int32} (hL : cd_LR w I ho hA hB hc) (z k : Int32) : cd_C l w m_C_ask 1 0 0 [.ref w.1, .int z, .int k] S I (cd_Fi S (sp_ask ho hA hB z k) I) := by
  refine cd_intro (by decide) (by simp [Value.category]) (Nat.le_of_ble_eq_true rfl) ?_
  intro X hO hE
  show cd_J w X 0 0 S I 0 [some (.ref w.1), some (.int z), some (.int k), none, none] []
  refine r_iload hO d_C_ask_0 rfl ?_
  refine r_k hO d_C_ask_1 ?_
  refine r_cS2fi hO hE (c_C_isWithin _ _) mf_C_isWithin lk_C_58 (by decide) rfl (Nat.le_of_ble_eq_true rfl) d_C_ask_2 (Nat.zero_le _) (Nat.zero_le _) ?_
  refine r_if_eqB hO d_C_ask_5 (fun c_5 => ?_) (fun c_5 => ?_)
  · refine r_ldc hO k_C_62 d_C_ask_16 ?_
    refine r_iret hO hE (Nat.zero_le _) (Nat.zero_le _) d_C_ask_18 ?_
    exact ⟨by unfold sp_ask; rw [if_neg c_5], rfl, rfl⟩
  · obtain ⟨s, -, hs3, rfl⟩ := cd_in_ex c_5 (by decide) (by decide)
    obtain ⟨ha0, ha1, ha2, ha3⟩ := hL s (by omega)
    refine r_iload hO d_C_ask_8 rfl ?_
    refine r_k hO d_C_ask_9 ?_
    refine r_cS2fi hO hE (c_C_isWithin _ _) mf_C_isWithin lk_C_58 (by decide) rfl (Nat.le_of_ble_eq_true rfl) d_C_ask_10 (Nat.zero_le _) (Nat.zero_le _) ?_
    refine r_if_neB hO d_C_ask_13 (fun c_13 => ?_) (fun c_13 => ?_)
    · refine r_aload hO d_C_ask_19 rfl ?_
      refine r_getR hO f_C_41 rfl hC.1 hC.2.2.2.2.2.2.1 d_C_ask_20 ?_
      refine r_iload hO d_C_ask_23 rfl ?_
      refine r_aald (t := 7) hO hC.2.2.2.2.2.2.2.2.2.2.2.2.2.2.1 (by decide) (by decide) (by omega) (by decide) (hC.2.2.2.2.2.2.2.2.2.2.2.2.2.2.2.2.2.2 _ (by omega)).1 d_C_ask_24 ?_
      refine r_k hO d_C_ask_25 ?_
      refine r_cV1fi hO hE (c_L_refuses (hC.2.2.2.2.2.2.2.2.2.2.2.2.2.2.2.2.2.2 _ (by omega)).2.1 _) mf_L_refuses lk_C_280 (hC.2.2.2.2.2.2.2.2.2.2.2.2.2.2.2.2.2.2 _ (by omega)).2.1 rfl (by decide) rfl (Nat.le_of_ble_eq_true rfl) d_C_ask_26 (Nat.zero_le _) (Nat.zero_le _) ?_
      rw [ha0]
      refine r_sI3 hO d_C_ask_29 rfl ?_
      refine r_iload hO d_C_ask_30 rfl ?_
      refine r_if_eq hO d_C_ask_31 (fun c_31 => ?_) (fun c_31 => ?_)
      · have hy := cd_ref_y c_31
        obtain ⟨hq1, hq2, kd, hk5, hkd⟩ := ha1 hy.2
        refine r_aload hO d_C_ask_36 rfl ?_
        refine r_getR hO f_C_41 rfl hC.1 hC.2.2.2.2.2.2.1 d_C_ask_37 ?_
        refine r_iload hO d_C_ask_40 rfl ?_
        refine r_aald (t := 7) hO hC.2.2.2.2.2.2.2.2.2.2.2.2.2.2.1 (by decide) (by decide) (by omega) (by decide) (hC.2.2.2.2.2.2.2.2.2.2.2.2.2.2.2.2.2.2 _ (by omega)).1 d_C_ask_41 ?_
        refine r_getR hO f_C_264 rfl (hC.2.2.2.2.2.2.2.2.2.2.2.2.2.2.2.2.2.2 _ (by omega)).2.1 (hC.2.2.2.2.2.2.2.2.2.2.2.2.2.2.2.2.2.2 _ (by omega)).2.2.1 d_C_ask_42 ?_
        refine r_sA4 hO d_C_ask_45 rfl ?_
        refine r_aload hO d_C_ask_47 rfl ?_
        refine r_iload hO d_C_ask_49 rfl ?_
        refine r_cV1fi hO hE (c_A_isOf (hC.2.2.2.2.2.2.2.2.2.2.2.2.2.2.2.2.2.2 _ (by omega)).2.2.2.2.1 (by omega) kd (hq1.trans hkd) hk5 _) mf_A_isOf lk_C_116 (hC.2.2.2.2.2.2.2.2.2.2.2.2.2.2.2.2.2.2 _ (by omega)).2.2.2.2.1 rfl (by decide) rfl (Nat.le_of_ble_eq_true rfl) d_C_ask_50 (Nat.zero_le _) (Nat.zero_le _) ?_
        refine r_if_eqB hO d_C_ask_53 (fun c_53 => ?_) (fun c_53 => ?_)
        · refine r_ldc hO k_C_119 d_C_ask_64 ?_
          refine r_iret hO hE (Nat.zero_le _) (Nat.zero_le _) d_C_ask_66 ?_
          rw [hq1] at c_53
          exact ⟨by unfold sp_ask; rw [if_pos c_5, if_pos c_13, cd_tn_nI (show s < 2 ^ 31 by omega), if_neg hy.1, if_pos hy.2, if_neg c_53], rfl, rfl⟩
        · refine r_aload hO d_C_ask_56 rfl ?_
          refine r_cV0fi hO hE (c_A_worth (hC.2.2.2.2.2.2.2.2.2.2.2.2.2.2.2.2.2.2 _ (by omega)).2.2.2.2.1 (by omega)) mf_A_worth lk_C_112 (hC.2.2.2.2.2.2.2.2.2.2.2.2.2.2.2.2.2.2 _ (by omega)).2.2.2.2.1 rfl (by decide) rfl (Nat.le_of_ble_eq_true rfl) d_C_ask_58 (Nat.zero_le _) (Nat.zero_le _) ?_
          refine r_goto hO d_C_ask_61 ?_
          refine r_iret hO hE (Nat.zero_le _) (Nat.zero_le _) d_C_ask_66 ?_
          rw [hq1] at c_53
          exact ⟨by unfold sp_ask; rw [if_pos c_5, if_pos c_13, cd_tn_nI (show s < 2 ^ 31 by omega), if_neg hy.1, if_pos hy.2, if_pos c_53, hq2], rfl, rfl⟩
      · refine r_iload hO d_C_ask_34 rfl ?_
        refine r_iret hO hE (Nat.zero_le _) (Nat.zero_le _) d_C_ask_35 ?_
        exact ⟨by unfold sp_ask; rw [if_pos c_5, if_pos c_13, cd_tn_nI (show s < 2 ^ 31 by omega)]; exact congrArg (fun v => some (Value.int v)) (cd_ref_n _ c_31).symm, rfl, rfl⟩
    · refine r_ldc hO k_C_62 d_C_ask_16 ?_
      refine r_iret hO hE (Nat.zero_le _) (Nat.zero_le _) d_C_ask_18 ?_
      exact ⟨by unfold sp_ask; rw [if_pos c_5, if_neg c_13], rfl, rfl⟩
