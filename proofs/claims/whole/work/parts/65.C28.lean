theorem px_subI {a b : Nat} (ha : a < 2 ^ 31) (hb : b < 2 ^ 31) : (nI a - nI b).toInt = (a : Int) - b := by
  rw [Int32.toInt_sub, nI_toInt ha, nI_toInt hb]
  exact Int.bmod_eq_of_le (by omega) (by omega)
theorem px_divm (x : Int32) : x / (-1) = -x := by
  have h : ∀ y : Int32, y.toInt = -1 → x / y = -x := fun y hy => by rw [← Int32.toInt_inj, Int32.toInt_div, Int32.toInt_neg, hy, Int.tdiv_neg, Int.tdiv_one]
  exact h (-1) rfl
theorem px_remm (x : Int32) : cd_rem x (-1) = nI 0 := by
  unfold cd_rem
  rw [px_divm, Int32.neg_mul, Int32.mul_neg, Int32.mul_one, Int32.neg_neg, Int32.sub_self]
  rfl
theorem d_C_rest_0 : cd_D_iload b_C_rest 0 1 1 := Or.inr ⟨1, ⟨by decide +kernel, rfl⟩, rfl⟩
theorem d_C_rest_1 : cd_Dk b_C_rest 1 (nI 4) 2 := Or.inl ⟨4, ⟨by decide +kernel, rfl⟩, by decide +kernel⟩
theorem d_C_rest_2 : cd_D 3 b_C_rest 2 (.invokestatic 58) 5 := ⟨by decide +kernel, rfl⟩
theorem d_C_rest_5 : cd_D_if_ne b_C_rest 5 11 8 := ⟨6, by decide +kernel, by decide, rfl⟩
theorem d_C_rest_8 : cd_D 2 b_C_rest 8 (.ldc 62) 10 := ⟨by decide +kernel, rfl⟩
theorem d_C_rest_10 : cd_D 1 b_C_rest 10 .ireturn 11 := ⟨by decide +kernel, rfl⟩
theorem d_C_rest_11 : cd_D_aload b_C_rest 11 0 12 := Or.inr ⟨0, ⟨by decide +kernel, rfl⟩, rfl⟩
theorem d_C_rest_12 : cd_D 3 b_C_rest 12 (.getfield 41) 15 := ⟨by decide +kernel, rfl⟩
theorem d_C_rest_15 : cd_D_iload b_C_rest 15 1 16 := Or.inr ⟨1, ⟨by decide +kernel, rfl⟩, rfl⟩
theorem d_C_rest_16 : cd_D 1 b_C_rest 16 .aaload 17 := ⟨by decide +kernel, rfl⟩
theorem d_C_rest_17 : cd_Dk b_C_rest 17 (nI 3) 18 := Or.inl ⟨3, ⟨by decide +kernel, rfl⟩, by decide +kernel⟩
theorem d_C_rest_18 : cd_D 3 b_C_rest 18 (.invokevirtual 280) 21 := ⟨by decide +kernel, rfl⟩
theorem d_C_rest_21 : cd_D_istore b_C_rest 21 3 22 := Or.inr ⟨3, ⟨by decide +kernel, rfl⟩, rfl⟩
theorem d_C_rest_22 : cd_D_iload b_C_rest 22 3 23 := Or.inr ⟨3, ⟨by decide +kernel, rfl⟩, rfl⟩
theorem d_C_rest_23 : cd_D_if_eq b_C_rest 23 28 26 := ⟨5, by decide +kernel, by decide, rfl⟩
theorem d_C_rest_26 : cd_D_iload b_C_rest 26 3 27 := Or.inr ⟨3, ⟨by decide +kernel, rfl⟩, rfl⟩
theorem d_C_rest_27 : cd_D 1 b_C_rest 27 .ireturn 28 := ⟨by decide +kernel, rfl⟩
theorem d_C_rest_28 : cd_D_iload b_C_rest 28 2 29 := Or.inr ⟨2, ⟨by decide +kernel, rfl⟩, rfl⟩
theorem d_C_rest_29 : cd_D_if_ne b_C_rest 29 38 32 := ⟨9, by decide +kernel, by decide, rfl⟩
theorem d_C_rest_32 : cd_D 3 b_C_rest 32 (.ldc_w 283) 35 := ⟨by decide +kernel, rfl⟩
theorem d_C_rest_35 : cd_D_goto b_C_rest 35 49 := ⟨14, by decide +kernel, by decide⟩
theorem d_C_rest_38 : cd_D_aload b_C_rest 38 0 39 := Or.inr ⟨0, ⟨by decide +kernel, rfl⟩, rfl⟩
theorem d_C_rest_39 : cd_D 3 b_C_rest 39 (.getfield 41) 42 := ⟨by decide +kernel, rfl⟩
theorem d_C_rest_42 : cd_D_iload b_C_rest 42 1 43 := Or.inr ⟨1, ⟨by decide +kernel, rfl⟩, rfl⟩
theorem d_C_rest_43 : cd_D 1 b_C_rest 43 .aaload 44 := ⟨by decide +kernel, rfl⟩
theorem d_C_rest_44 : cd_D 3 b_C_rest 44 (.getfield 277) 47 := ⟨by decide +kernel, rfl⟩
theorem d_C_rest_47 : cd_D_iload b_C_rest 47 2 48 := Or.inr ⟨2, ⟨by decide +kernel, rfl⟩, rfl⟩
theorem d_C_rest_48 : cd_D 1 b_C_rest 48 .irem 49 := ⟨by decide +kernel, rfl⟩
theorem d_C_rest_49 : cd_D 1 b_C_rest 49 .ireturn 50 := ⟨by decide +kernel, rfl⟩
theorem c_C_rest {l : Launch} {w : cd_WT} {S : cd_Sp} {I : cd_Mem} (hC : cd_CD w S) {ho hA hB hc : Nat → Int32} (hL : cd_LR w I ho hA hB hc) (z n : Int32) : cd_C l w m_C_rest 1 0 0 [.ref w.1, .int z, .int n] S I (cd_Fi S (sp_rest ho hA z n) I) := by
  refine cd_intro (by decide) (by simp [Value.category]) (Nat.le_of_ble_eq_true rfl) ?_
  intro X hO hE
  show cd_J w X 0 0 S I 0 [some (.ref w.1), some (.int z), some (.int n), none] []
  refine r_iload hO d_C_rest_0 rfl ?_
  refine r_k hO d_C_rest_1 ?_
  refine r_cS2fi hO hE (c_C_isWithin _ _) mf_C_isWithin lk_C_58 (by decide) rfl (Nat.le_of_ble_eq_true rfl) d_C_rest_2 (Nat.zero_le _) (Nat.zero_le _) ?_
  refine r_if_neB hO d_C_rest_5 (fun c_5 => ?_) (fun c_5 => ?_)
  · obtain ⟨s, -, hs3, rfl⟩ := cd_in_ex c_5 (by decide) (by decide)
    obtain ⟨ha0, ha1, ha2, ha3⟩ := hL s (by omega)
    refine r_aload hO d_C_rest_11 rfl ?_
    refine r_getR hO f_C_41 rfl hC.1 hC.2.2.2.2.2.2.1 d_C_rest_12 ?_
    refine r_iload hO d_C_rest_15 rfl ?_
    refine r_aald (t := 7) hO hC.2.2.2.2.2.2.2.2.2.2.2.2.2.2.1 (by decide) (by decide) (by omega) (by decide) (hC.2.2.2.2.2.2.2.2.2.2.2.2.2.2.2.2.2.2 _ (by omega)).1 d_C_rest_16 ?_
    refine r_k hO d_C_rest_17 ?_
    refine r_cV1fi hO hE (c_L_refuses (hC.2.2.2.2.2.2.2.2.2.2.2.2.2.2.2.2.2.2 _ (by omega)).2.1 _) mf_L_refuses lk_C_280 (hC.2.2.2.2.2.2.2.2.2.2.2.2.2.2.2.2.2.2 _ (by omega)).2.1 rfl (by decide) rfl (Nat.le_of_ble_eq_true rfl) d_C_rest_18 (Nat.zero_le _) (Nat.zero_le _) ?_
    rw [ha0]
    refine r_sI3 hO d_C_rest_21 rfl ?_
    refine r_iload hO d_C_rest_22 rfl ?_
    refine r_if_eq hO d_C_rest_23 (fun c_23 => ?_) (fun c_23 => ?_)
    · have hy := cd_ref_y c_23
      have hq1 := ha3 hy.2
      refine r_iload hO d_C_rest_28 rfl ?_
      refine r_if_ne hO d_C_rest_29 (fun c_29 => ?_) (fun c_29 => ?_)
      · refine r_aload hO d_C_rest_38 rfl ?_
        refine r_getR hO f_C_41 rfl hC.1 hC.2.2.2.2.2.2.1 d_C_rest_39 ?_
        refine r_iload hO d_C_rest_42 rfl ?_
        refine r_aald (t := 7) hO hC.2.2.2.2.2.2.2.2.2.2.2.2.2.2.1 (by decide) (by decide) (by omega) (by decide) (hC.2.2.2.2.2.2.2.2.2.2.2.2.2.2.2.2.2.2 _ (by omega)).1 d_C_rest_43 ?_
        refine r_getI hO f_C_277 rfl (hC.2.2.2.2.2.2.2.2.2.2.2.2.2.2.2.2.2.2 _ (by omega)).2.1 d_C_rest_44 ?_
        rw [hq1]
        refine r_iload hO d_C_rest_47 rfl ?_
        refine r_irem hO d_C_rest_48 c_29 ?_
        refine r_iret hO hE (Nat.zero_le _) (Nat.zero_le _) d_C_rest_49 ?_
        by_cases hm1 : n = (-1)
        · subst hm1
          exact ⟨by unfold sp_rest; rw [if_pos c_5, cd_tn_nI (show s < 2 ^ 31 by omega), if_neg hy.1, if_pos hy.2, if_neg c_29, if_pos rfl, px_remm], rfl, rfl⟩
        · exact ⟨by unfold sp_rest; rw [if_pos c_5, cd_tn_nI (show s < 2 ^ 31 by omega), if_neg hy.1, if_pos hy.2, if_neg c_29, if_neg hm1], rfl, rfl⟩
      · refine r_ldcw hO k_C_283 d_C_rest_32 ?_
        refine r_goto hO d_C_rest_35 ?_
        refine r_iret hO hE (Nat.zero_le _) (Nat.zero_le _) d_C_rest_49 ?_
        exact ⟨by unfold sp_rest; rw [if_pos c_5, cd_tn_nI (show s < 2 ^ 31 by omega), if_neg hy.1, if_pos hy.2, if_pos c_29], rfl, rfl⟩
    · refine r_iload hO d_C_rest_26 rfl ?_
      refine r_iret hO hE (Nat.zero_le _) (Nat.zero_le _) d_C_rest_27 ?_
      exact ⟨by unfold sp_rest; rw [if_pos c_5, cd_tn_nI (show s < 2 ^ 31 by omega)]; exact congrArg (fun v => some (Value.int v)) (cd_ref_n _ c_23).symm, rfl, rfl⟩
  · refine r_ldc hO k_C_62 d_C_rest_8 ?_
    refine r_iret hO hE (Nat.zero_le _) (Nat.zero_le _) d_C_rest_10 ?_
    exact ⟨by unfold sp_rest; rw [if_neg c_5], rfl, rfl⟩
theorem cd_hp {k : Nat} (hk : k ≤ 24) {p n : Int32} : (¬ p < 0 ∧ ¬ n < 0 ∧ ¬ nI k < p ∧ ¬ nI k - p < n) ↔ (¬ p < 0 ∧ ¬ n < 0 ∧ ¬ nI k - n < p) := by
  by_cases h1 : p < 0
  · exact ⟨fun q => absurd h1 q.1, fun q => absurd h1 q.1⟩
  · by_cases h2 : n < 0
    · exact ⟨fun q => absurd h2 q.2.1, fun q => absurd h2 q.2.1⟩
    · obtain ⟨a, ha, rfl⟩ := nI_of h1
      obtain ⟨b, hb, rfl⟩ := nI_of h2
      have e1 := px_subI (a := k) (b := a) (by omega) ha
      have e2 := px_subI (a := k) (b := b) (by omega) hb
      have e3 := nI_toInt ha
      have e4 := nI_toInt hb
      have e5 := nI_toInt (show k < 2 ^ 31 by omega)
      simp only [Int32.lt_iff_toInt_lt] at *
      rw [e1, e2, e3, e4, e5]
      have e0 : (0 : Int32).toInt = 0 := rfl
      rw [e0]
      omega
theorem cd_hp2 {k : Nat} (hk : k ≤ 24) {p n : Int32} (h : ¬ p < 0 ∧ ¬ n < 0 ∧ ¬ nI k - n < p) : ∃ a b, p = nI a ∧ n = nI b ∧ a + b ≤ k := by
  obtain ⟨h1, h2, h3⟩ := h
  obtain ⟨a, ha, rfl⟩ := nI_of h1
  obtain ⟨b, hb, rfl⟩ := nI_of h2
  refine ⟨a, b, rfl, rfl, ?_⟩
  rw [Int32.lt_iff_toInt_lt, px_subI (by omega) hb, nI_toInt ha] at h3
  omega
def sp_cp (T : cd_Th3) (f p t a n : Int32) : Int32 × cd_Th3 := ((sp_copy T.1 T.2.1 T.2.2 f p t a n).1, T.1, T.2.1, (sp_copy T.1 T.2.1 T.2.2 f p t a n).2)
theorem cd_SR_c {w : cd_WT} {I : cd_Mem} {so sz ce : Nat → Int32} (hS : cd_SR w I so sz ce) {f t a p n : Nat} (hf : f < 4) (ht : t < 4) (hp : p + n ≤ 24) (ha : a + n ≤ 24) : cd_SR w (cd_set I (w.1 + 62 + 2 * t + 1) (va_cpy (I (w.1 + 62 + 2 * f + 1)) (I (w.1 + 62 + 2 * t + 1)) p a n)) so sz (cd_rg ce (24 * t + a) n (fun i => ce (24 * f + p + i))) := by
  intro s hs
  obtain ⟨q1, q2, q3⟩ := hS s hs
  obtain ⟨-, -, f3⟩ := hS f hf
  refine ⟨by rw [cd_set_ne _ _ (by omega)]; exact q1, by rw [cd_set_ne _ _ (by omega)]; exact q2, fun k hk => ?_⟩
  unfold cd_rg
  by_cases e : s = t
  · subst e
    rw [cd_set_eq]
    unfold va_cpy
    by_cases h : a ≤ k ∧ k < a + n
    · rw [if_pos h, if_pos (by omega), f3 _ (by omega)]
      congr 1
      omega
    · rw [if_neg h, if_neg (by omega)]
      exact q3 k hk
  · rw [cd_set_ne _ _ (by omega), if_neg (by omega)]
    exact q3 k hk
theorem cl_cpy : Cond.methodLink "CatDoors" 255 arraycopyName ∈ cd_ws := cd_mem 774 (by decide +kernel) rfl
theorem d_C_copy_0 : cd_D_iload b_C_copy 0 1 1 := Or.inr ⟨1, ⟨by decide +kernel, rfl⟩, rfl⟩
theorem d_C_copy_1 : cd_Dk b_C_copy 1 (nI 3) 2 := Or.inl ⟨3, ⟨by decide +kernel, rfl⟩, by decide +kernel⟩
theorem d_C_copy_2 : cd_D 3 b_C_copy 2 (.invokestatic 58) 5 := ⟨by decide +kernel, rfl⟩
theorem d_C_copy_5 : cd_D_if_eq b_C_copy 5 16 8 := ⟨11, by decide +kernel, by decide, rfl⟩
theorem d_C_copy_8 : cd_D_iload b_C_copy 8 3 9 := Or.inr ⟨3, ⟨by decide +kernel, rfl⟩, rfl⟩
theorem d_C_copy_9 : cd_Dk b_C_copy 9 (nI 3) 10 := Or.inl ⟨3, ⟨by decide +kernel, rfl⟩, by decide +kernel⟩
theorem d_C_copy_10 : cd_D 3 b_C_copy 10 (.invokestatic 58) 13 := ⟨by decide +kernel, rfl⟩
theorem d_C_copy_13 : cd_D_if_ne b_C_copy 13 19 16 := ⟨6, by decide +kernel, by decide, rfl⟩
theorem d_C_copy_16 : cd_D 2 b_C_copy 16 (.ldc 62) 18 := ⟨by decide +kernel, rfl⟩
theorem d_C_copy_18 : cd_D 1 b_C_copy 18 .ireturn 19 := ⟨by decide +kernel, rfl⟩
theorem d_C_copy_19 : cd_D_aload b_C_copy 19 0 20 := Or.inr ⟨0, ⟨by decide +kernel, rfl⟩, rfl⟩
theorem d_C_copy_20 : cd_D 3 b_C_copy 20 (.getfield 35) 23 := ⟨by decide +kernel, rfl⟩
theorem d_C_copy_23 : cd_D_iload b_C_copy 23 1 24 := Or.inr ⟨1, ⟨by decide +kernel, rfl⟩, rfl⟩
theorem d_C_copy_24 : cd_D 1 b_C_copy 24 .aaload 25 := ⟨by decide +kernel, rfl⟩
theorem d_C_copy_25 : cd_D_astore b_C_copy 25 6 27 := Or.inl ⟨by decide +kernel, rfl⟩
theorem d_C_copy_27 : cd_D_aload b_C_copy 27 0 28 := Or.inr ⟨0, ⟨by decide +kernel, rfl⟩, rfl⟩
theorem d_C_copy_28 : cd_D 3 b_C_copy 28 (.getfield 35) 31 := ⟨by decide +kernel, rfl⟩
theorem d_C_copy_31 : cd_D_iload b_C_copy 31 3 32 := Or.inr ⟨3, ⟨by decide +kernel, rfl⟩, rfl⟩
theorem d_C_copy_32 : cd_D 1 b_C_copy 32 .aaload 33 := ⟨by decide +kernel, rfl⟩
theorem d_C_copy_33 : cd_D_astore b_C_copy 33 7 35 := Or.inl ⟨by decide +kernel, rfl⟩
theorem d_C_copy_35 : cd_D_aload b_C_copy 35 6 37 := Or.inl ⟨by decide +kernel, rfl⟩
theorem d_C_copy_37 : cd_D 3 b_C_copy 37 (.invokevirtual 167) 40 := ⟨by decide +kernel, rfl⟩
theorem d_C_copy_40 : cd_D_if_ne b_C_copy 40 51 43 := ⟨11, by decide +kernel, by decide, rfl⟩
theorem d_C_copy_43 : cd_D_aload b_C_copy 43 7 45 := Or.inl ⟨by decide +kernel, rfl⟩
theorem d_C_copy_45 : cd_D 3 b_C_copy 45 (.invokevirtual 167) 48 := ⟨by decide +kernel, rfl⟩
theorem d_C_copy_48 : cd_D_if_eq b_C_copy 48 54 51 := ⟨6, by decide +kernel, by decide, rfl⟩
theorem d_C_copy_51 : cd_D 2 b_C_copy 51 (.ldc 171) 53 := ⟨by decide +kernel, rfl⟩
theorem d_C_copy_53 : cd_D 1 b_C_copy 53 .ireturn 54 := ⟨by decide +kernel, rfl⟩
theorem d_C_copy_54 : cd_D_aload b_C_copy 54 6 56 := Or.inl ⟨by decide +kernel, rfl⟩
theorem d_C_copy_56 : cd_D 3 b_C_copy 56 (.getfield 244) 59 := ⟨by decide +kernel, rfl⟩
theorem d_C_copy_59 : cd_D_aload b_C_copy 59 7 61 := Or.inl ⟨by decide +kernel, rfl⟩
theorem d_C_copy_61 : cd_D 3 b_C_copy 61 (.getfield 244) 64 := ⟨by decide +kernel, rfl⟩
theorem d_C_copy_64 : cd_D_icmp_eq b_C_copy 64 70 67 := ⟨6, by decide +kernel, by decide, rfl⟩
theorem d_C_copy_67 : cd_D 2 b_C_copy 67 (.ldc 119) 69 := ⟨by decide +kernel, rfl⟩
theorem d_C_copy_69 : cd_D 1 b_C_copy 69 .ireturn 70 := ⟨by decide +kernel, rfl⟩
theorem d_C_copy_70 : cd_D_aload b_C_copy 70 6 72 := Or.inl ⟨by decide +kernel, rfl⟩
theorem d_C_copy_72 : cd_D_iload b_C_copy 72 2 73 := Or.inr ⟨2, ⟨by decide +kernel, rfl⟩, rfl⟩
theorem d_C_copy_73 : cd_D_iload b_C_copy 73 5 75 := Or.inl ⟨by decide +kernel, rfl⟩
theorem d_C_copy_75 : cd_D 3 b_C_copy 75 (.invokevirtual 252) 78 := ⟨by decide +kernel, rfl⟩
theorem d_C_copy_78 : cd_D_if_eq b_C_copy 78 93 81 := ⟨15, by decide +kernel, by decide, rfl⟩
theorem d_C_copy_81 : cd_D_aload b_C_copy 81 7 83 := Or.inl ⟨by decide +kernel, rfl⟩
theorem d_C_copy_83 : cd_D_iload b_C_copy 83 4 85 := Or.inl ⟨by decide +kernel, rfl⟩
theorem d_C_copy_85 : cd_D_iload b_C_copy 85 5 87 := Or.inl ⟨by decide +kernel, rfl⟩
theorem d_C_copy_87 : cd_D 3 b_C_copy 87 (.invokevirtual 252) 90 := ⟨by decide +kernel, rfl⟩
theorem d_C_copy_90 : cd_D_if_ne b_C_copy 90 96 93 := ⟨6, by decide +kernel, by decide, rfl⟩
theorem d_C_copy_93 : cd_D 2 b_C_copy 93 (.ldc 243) 95 := ⟨by decide +kernel, rfl⟩
theorem d_C_copy_95 : cd_D 1 b_C_copy 95 .ireturn 96 := ⟨by decide +kernel, rfl⟩
theorem d_C_copy_96 : cd_D_aload b_C_copy 96 6 98 := Or.inl ⟨by decide +kernel, rfl⟩
theorem d_C_copy_98 : cd_D 3 b_C_copy 98 (.getfield 182) 101 := ⟨by decide +kernel, rfl⟩
theorem d_C_copy_101 : cd_D_iload b_C_copy 101 2 102 := Or.inr ⟨2, ⟨by decide +kernel, rfl⟩, rfl⟩
theorem d_C_copy_102 : cd_D_aload b_C_copy 102 7 104 := Or.inl ⟨by decide +kernel, rfl⟩
theorem d_C_copy_104 : cd_D 3 b_C_copy 104 (.getfield 182) 107 := ⟨by decide +kernel, rfl⟩
theorem d_C_copy_107 : cd_D_iload b_C_copy 107 4 109 := Or.inl ⟨by decide +kernel, rfl⟩
theorem d_C_copy_109 : cd_D_iload b_C_copy 109 5 111 := Or.inl ⟨by decide +kernel, rfl⟩
theorem d_C_copy_111 : cd_D 3 b_C_copy 111 (.invokestatic 255) 114 := ⟨by decide +kernel, rfl⟩
theorem d_C_copy_114 : cd_D_iload b_C_copy 114 5 116 := Or.inl ⟨by decide +kernel, rfl⟩
theorem d_C_copy_116 : cd_D 1 b_C_copy 116 .ireturn 117 := ⟨by decide +kernel, rfl⟩
theorem c_C_copy {l : Launch} {w : cd_WT} {S : cd_Sp} {I : cd_Mem} (hC : cd_CD w S) {T : cd_Th3} (hS : cd_SR w I T.1 T.2.1 T.2.2) (hVS : cd_VS T.1 T.2.1) (z p y a m : Int32) : cd_C l w m_C_copy 1 0 0 [.ref w.1, .int z, .int p, .int y, .int a, .int m] S I (cd_Psh w S I (sp_cp T z p y a m)) := by
  refine cd_intro (by decide) (by simp [Value.category]) (Nat.le_of_ble_eq_true rfl) ?_
  intro X hO hE
  show cd_J w X 0 0 S I 0 [some (.ref w.1), some (.int z), some (.int p), some (.int y), some (.int a), some (.int m), none, none] []
  refine r_iload hO d_C_copy_0 rfl ?_
  refine r_k hO d_C_copy_1 ?_
  refine r_cS2fi hO hE (c_C_isWithin _ _) mf_C_isWithin lk_C_58 (by decide) rfl (Nat.le_of_ble_eq_true rfl) d_C_copy_2 (Nat.zero_le _) (Nat.zero_le _) ?_
  refine r_if_eqB hO d_C_copy_5 (fun c_5 => ?_) (fun c_5 => ?_)
  · refine r_ldc hO k_C_62 d_C_copy_16 ?_
    refine r_iret hO hE (Nat.zero_le _) (Nat.zero_le _) d_C_copy_18 ?_
    exact cd_psh (by unfold sp_cp sp_copy; rw [if_neg c_5]) hS (fun b hb => rfl)
  · obtain ⟨s, -, hs3, rfl⟩ := cd_in_ex c_5 (by decide) (by decide)
    obtain ⟨hs0, hs1, hs2⟩ := hS s (by omega)
    obtain ⟨n, hn24, hsz, hso⟩ := hVS s (by omega)
    refine r_iload hO d_C_copy_8 rfl ?_
    refine r_k hO d_C_copy_9 ?_
    refine r_cS2fi hO hE (c_C_isWithin _ _) mf_C_isWithin lk_C_58 (by decide) rfl (Nat.le_of_ble_eq_true rfl) d_C_copy_10 (Nat.zero_le _) (Nat.zero_le _) ?_
    refine r_if_neB hO d_C_copy_13 (fun c_13 => ?_) (fun c_13 => ?_)
    · obtain ⟨u, -, hu3, rfl⟩ := cd_in_ex c_13 (by decide) (by decide)
      obtain ⟨hu0, hu1, hu2⟩ := hS u (by omega)
      obtain ⟨n2, hn224, hsz2, hso2⟩ := hVS u (by omega)
      refine r_aload hO d_C_copy_19 rfl ?_
      refine r_getR hO f_C_35 rfl hC.1 hC.2.2.2.2.2.1 d_C_copy_20 ?_
      refine r_iload hO d_C_copy_23 rfl ?_
      refine r_aald (t := 6) hO hC.2.2.2.2.2.2.2.2.2.2.2.2.2.1 (by decide) (by decide) (by omega) (by decide) (hC.2.2.2.2.2.2.2.2.2.2.2.2.2.2.2.2.2.1 s (by omega)).1 d_C_copy_24 ?_
      refine r_sA6 hO d_C_copy_25 rfl ?_
      refine r_aload hO d_C_copy_27 rfl ?_
      refine r_getR hO f_C_35 rfl hC.1 hC.2.2.2.2.2.1 d_C_copy_28 ?_
      refine r_iload hO d_C_copy_31 rfl ?_
      refine r_aald (t := 6) hO hC.2.2.2.2.2.2.2.2.2.2.2.2.2.1 (by decide) (by decide) (by omega) (by decide) (hC.2.2.2.2.2.2.2.2.2.2.2.2.2.2.2.2.2.1 u (by omega)).1 d_C_copy_32 ?_
      refine r_sA7 hO d_C_copy_33 rfl ?_
      refine r_aload hO d_C_copy_35 rfl ?_
      refine r_cV0fi hO hE (c_S_isMissing (hC.2.2.2.2.2.2.2.2.2.2.2.2.2.2.2.2.2.1 s (by omega)).2 (Nat.le_trans (Nat.le_add_right _ _) (Nat.le_add_right _ _))) mf_S_isMissing lk_C_167 (hC.2.2.2.2.2.2.2.2.2.2.2.2.2.2.2.2.2.1 s (by omega)).2.1 rfl (by decide) rfl (Nat.le_of_ble_eq_true rfl) d_C_copy_37 (Nat.zero_le _) (Nat.zero_le _) ?_
      rw [hs0]
      refine r_if_neB hO d_C_copy_40 (fun c_40 => ?_) (fun c_40 => ?_)
      · refine r_ldc hO k_C_171 d_C_copy_51 ?_
        refine r_iret hO hE (Nat.zero_le _) (Nat.zero_le _) d_C_copy_53 ?_
        exact cd_psh (by unfold sp_cp sp_copy; rw [if_pos c_5, if_pos c_13, cd_tn_nI (show s < 2 ^ 31 by omega), cd_tn_nI (show u < 2 ^ 31 by omega), if_pos (by rw [c_40]; decide)]) hS (fun b hb => rfl)
      · refine r_aload hO d_C_copy_43 rfl ?_
        refine r_cV0fi hO hE (c_S_isMissing (hC.2.2.2.2.2.2.2.2.2.2.2.2.2.2.2.2.2.1 u (by omega)).2 (Nat.le_trans (Nat.le_add_right _ _) (Nat.le_add_right _ _))) mf_S_isMissing lk_C_167 (hC.2.2.2.2.2.2.2.2.2.2.2.2.2.2.2.2.2.1 u (by omega)).2.1 rfl (by decide) rfl (Nat.le_of_ble_eq_true rfl) d_C_copy_45 (Nat.zero_le _) (Nat.zero_le _) ?_
        rw [hu0]
        refine r_if_eqB hO d_C_copy_48 (fun c_48 => ?_) (fun c_48 => ?_)
        · refine r_aload hO d_C_copy_54 rfl ?_
          refine r_getI hO f_C_244 rfl (hC.2.2.2.2.2.2.2.2.2.2.2.2.2.2.2.2.2.1 s (by omega)).2.1 d_C_copy_56 ?_
          rw [hs0]
          refine r_aload hO d_C_copy_59 rfl ?_
          refine r_getI hO f_C_244 rfl (hC.2.2.2.2.2.2.2.2.2.2.2.2.2.2.2.2.2.1 u (by omega)).2.1 d_C_copy_61 ?_
          rw [hu0]
          refine r_icmp_eq hO d_C_copy_64 (fun c_64 => ?_) (fun c_64 => ?_)
          · refine r_aload hO d_C_copy_70 rfl ?_
            refine r_iload hO d_C_copy_72 rfl ?_
            refine r_iload hO d_C_copy_73 rfl ?_
            refine r_cV2fi hO hE (c_S_hasPlaces (hC.2.2.2.2.2.2.2.2.2.2.2.2.2.2.2.2.2.1 s (by omega)).2 (Nat.le_trans (Nat.le_add_right _ _) (Nat.le_add_right _ _)) _ _) mf_S_hasPlaces lk_C_252 (hC.2.2.2.2.2.2.2.2.2.2.2.2.2.2.2.2.2.1 s (by omega)).2.1 rfl (by decide) rfl (Nat.le_of_ble_eq_true rfl) d_C_copy_75 (Nat.zero_le _) (Nat.zero_le _) ?_
            rw [hs1, hsz]
            refine r_if_eqB hO d_C_copy_78 (fun c_78 => ?_) (fun c_78 => ?_)
            · refine r_ldc hO k_C_243 d_C_copy_93 ?_
              refine r_iret hO hE (Nat.zero_le _) (Nat.zero_le _) d_C_copy_95 ?_
              have hidx : (if p < 0 then (cd_INDEX, T.2.2) else if a < 0 then (cd_INDEX, T.2.2) else if m < 0 then (cd_INDEX, T.2.2) else if nI n - m < p then (cd_INDEX, T.2.2) else if a ≤ nI n2 - m then (m, cd_rg T.2.2 (24 * u + cd_tn a) (cd_tn m) (fun i => T.2.2 (24 * s + cd_tn p + i))) else (cd_INDEX, T.2.2)) = (cd_INDEX, T.2.2) := by
                by_cases z1 : p < 0
                · rw [if_pos z1]
                · rw [if_neg z1]
                  by_cases z2 : a < 0
                  · rw [if_pos z2]
                  · rw [if_neg z2]
                    by_cases z3 : m < 0
                    · rw [if_pos z3]
                    · rw [if_neg z3]
                      by_cases z4 : nI n - m < p
                      · rw [if_pos z4]
                      · rw [if_neg z4]
                        by_cases z5 : a ≤ nI n2 - m
                        · exact absurd ((cd_hp hn24).mpr ⟨z1, z3, z4⟩) c_78
                        · rw [if_neg z5]
              exact cd_psh (by unfold sp_cp sp_copy; rw [if_pos c_5, if_pos c_13, cd_tn_nI (show s < 2 ^ 31 by omega), cd_tn_nI (show u < 2 ^ 31 by omega), if_neg (fun q => absurd ((cd_so0 hso).mpr c_40) (Int32.not_le.mpr q)), if_pos ((cd_so0 hso2).mpr c_48), if_pos c_64, hsz, hsz2, hidx]) hS (fun b hb => rfl)
            · have hk1 := c_78
              refine r_aload hO d_C_copy_81 rfl ?_
              refine r_iload hO d_C_copy_83 rfl ?_
              refine r_iload hO d_C_copy_85 rfl ?_
              refine r_cV2fi hO hE (c_S_hasPlaces (hC.2.2.2.2.2.2.2.2.2.2.2.2.2.2.2.2.2.1 u (by omega)).2 (Nat.le_trans (Nat.le_add_right _ _) (Nat.le_add_right _ _)) _ _) mf_S_hasPlaces lk_C_252 (hC.2.2.2.2.2.2.2.2.2.2.2.2.2.2.2.2.2.1 u (by omega)).2.1 rfl (by decide) rfl (Nat.le_of_ble_eq_true rfl) d_C_copy_87 (Nat.zero_le _) (Nat.zero_le _) ?_
              rw [hu1, hsz2]
              refine r_if_neB hO d_C_copy_90 (fun c_90 => ?_) (fun c_90 => ?_)
              · have hk2 := c_90
                obtain ⟨p', m', rfl, rfl, hpm⟩ := cd_hp2 hn24 ((cd_hp hn24).mp hk1)
                obtain ⟨a', m2, rfl, hm2, ham⟩ := cd_hp2 hn224 ((cd_hp hn224).mp hk2)
                have hmm2 : m' = m2 := (nI_eq (by omega) (by omega)).mp hm2
                refine r_aload hO d_C_copy_96 rfl ?_
                refine r_getR hO f_C_182 rfl (hC.2.2.2.2.2.2.2.2.2.2.2.2.2.2.2.2.2.1 s (by omega)).2.1 (hC.2.2.2.2.2.2.2.2.2.2.2.2.2.2.2.2.2.1 s (by omega)).2.2.1 d_C_copy_98 ?_
                refine r_iload hO d_C_copy_101 rfl ?_
                refine r_aload hO d_C_copy_102 rfl ?_
                refine r_getR hO f_C_182 rfl (hC.2.2.2.2.2.2.2.2.2.2.2.2.2.2.2.2.2.1 u (by omega)).2.1 (hC.2.2.2.2.2.2.2.2.2.2.2.2.2.2.2.2.2.1 u (by omega)).2.2.1 d_C_copy_104 ?_
                refine r_iload hO d_C_copy_107 rfl ?_
                refine r_iload hO d_C_copy_109 rfl ?_
                refine r_copy hO hE cl_cpy (hC.2.2.2.2.2.2.2.2.2.2.2.2.2.2.2.2.2.1 s (by omega)).2.2.2 (hC.2.2.2.2.2.2.2.2.2.2.2.2.2.2.2.2.2.1 u (by omega)).2.2.2 (Nat.le_trans (Nat.le_add_right _ _) (Nat.le_trans (Nat.le_add_right _ _) (Nat.le_add_right _ _))) (by omega) (by omega) (by decide) (by decide) (by decide) rfl (Nat.le_of_ble_eq_true rfl) d_C_copy_111 ?_
                refine r_iload hO d_C_copy_114 rfl ?_
                refine r_iret hO hE (Nat.zero_le _) (Nat.zero_le _) d_C_copy_116 ?_
                have hq1 := hk1
                have hq2 := hk2
                rw [cd_hp hn24] at hq1
                rw [cd_hp hn224] at hq2
                exact cd_psh (by unfold sp_cp sp_copy; rw [if_pos c_5, if_pos c_13, cd_tn_nI (show s < 2 ^ 31 by omega), cd_tn_nI (show u < 2 ^ 31 by omega), if_neg (fun q => absurd ((cd_so0 hso).mpr c_40) (Int32.not_le.mpr q)), if_pos ((cd_so0 hso2).mpr c_48), if_pos c_64, hsz, hsz2, if_neg hq1.1, if_neg hq2.1, if_neg hq1.2.1, if_neg hq1.2.2, if_pos (Int32.not_lt.mp hq2.2.2), cd_tn_nI (show p' < 2 ^ 31 by omega), cd_tn_nI (show a' < 2 ^ 31 by omega), cd_tn_nI (show m' < 2 ^ 31 by omega)]) (cd_SR_c hS (f := s) (t := u) (a := a') (p := p') (n := m') (by omega) (by omega) (by omega) (by omega)) (fun b hb => cd_set_ne _ _ (by omega))
              · refine r_ldc hO k_C_243 d_C_copy_93 ?_
                refine r_iret hO hE (Nat.zero_le _) (Nat.zero_le _) d_C_copy_95 ?_
                have hidx : (if p < 0 then (cd_INDEX, T.2.2) else if a < 0 then (cd_INDEX, T.2.2) else if m < 0 then (cd_INDEX, T.2.2) else if nI n - m < p then (cd_INDEX, T.2.2) else if a ≤ nI n2 - m then (m, cd_rg T.2.2 (24 * u + cd_tn a) (cd_tn m) (fun i => T.2.2 (24 * s + cd_tn p + i))) else (cd_INDEX, T.2.2)) = (cd_INDEX, T.2.2) := by
                  by_cases z1 : p < 0
                  · rw [if_pos z1]
                  · rw [if_neg z1]
                    by_cases z2 : a < 0
                    · rw [if_pos z2]
                    · rw [if_neg z2]
                      by_cases z3 : m < 0
                      · rw [if_pos z3]
                      · rw [if_neg z3]
                        by_cases z4 : nI n - m < p
                        · rw [if_pos z4]
                        · rw [if_neg z4]
                          by_cases z5 : a ≤ nI n2 - m
                          · exact absurd ((cd_hp hn224).mpr ⟨z2, z3, Int32.not_lt.mpr z5⟩) c_90
                          · rw [if_neg z5]
                exact cd_psh (by unfold sp_cp sp_copy; rw [if_pos c_5, if_pos c_13, cd_tn_nI (show s < 2 ^ 31 by omega), cd_tn_nI (show u < 2 ^ 31 by omega), if_neg (fun q => absurd ((cd_so0 hso).mpr c_40) (Int32.not_le.mpr q)), if_pos ((cd_so0 hso2).mpr c_48), if_pos c_64, hsz, hsz2, hidx]) hS (fun b hb => rfl)
          · refine r_ldc hO k_C_119 d_C_copy_67 ?_
            refine r_iret hO hE (Nat.zero_le _) (Nat.zero_le _) d_C_copy_69 ?_
            exact cd_psh (by unfold sp_cp sp_copy; rw [if_pos c_5, if_pos c_13, cd_tn_nI (show s < 2 ^ 31 by omega), cd_tn_nI (show u < 2 ^ 31 by omega), if_neg (fun q => absurd ((cd_so0 hso).mpr c_40) (Int32.not_le.mpr q)), if_pos ((cd_so0 hso2).mpr c_48), if_neg c_64]) hS (fun b hb => rfl)
        · refine r_ldc hO k_C_171 d_C_copy_51 ?_
          refine r_iret hO hE (Nat.zero_le _) (Nat.zero_le _) d_C_copy_53 ?_
          exact cd_psh (by unfold sp_cp sp_copy; rw [if_pos c_5, if_pos c_13, cd_tn_nI (show s < 2 ^ 31 by omega), cd_tn_nI (show u < 2 ^ 31 by omega), if_neg (fun q => absurd ((cd_so0 hso).mpr c_40) (Int32.not_le.mpr q)), if_neg (fun q => (cd_so0 hso2).mp q c_48)]) hS (fun b hb => rfl)
    · refine r_ldc hO k_C_62 d_C_copy_16 ?_
      refine r_iret hO hE (Nat.zero_le _) (Nat.zero_le _) d_C_copy_18 ?_
      exact cd_psh (by unfold sp_cp sp_copy; rw [if_pos c_5, if_neg c_13]) hS (fun b hb => rfl)
