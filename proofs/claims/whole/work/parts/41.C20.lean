theorem d_S_isNumber_0 : cd_D_aload b_S_isNumber 0 0 1 := Or.inr ⟨0, ⟨by decide +kernel, rfl⟩, rfl⟩
theorem d_S_isNumber_1 : cd_D_iload b_S_isNumber 1 1 2 := Or.inr ⟨1, ⟨by decide +kernel, rfl⟩, rfl⟩
theorem d_S_isNumber_2 : cd_D 3 b_S_isNumber 2 (.invokevirtual 28) 5 := ⟨by decide +kernel, rfl⟩
theorem d_S_isNumber_5 : cd_D_if_eq b_S_isNumber 5 23 8 := ⟨18, by decide +kernel, by decide, rfl⟩
theorem d_S_isNumber_8 : cd_D_aload b_S_isNumber 8 0 9 := Or.inr ⟨0, ⟨by decide +kernel, rfl⟩, rfl⟩
theorem d_S_isNumber_9 : cd_D 3 b_S_isNumber 9 (.getfield 18) 12 := ⟨by decide +kernel, rfl⟩
theorem d_S_isNumber_12 : cd_D_iload b_S_isNumber 12 1 13 := Or.inr ⟨1, ⟨by decide +kernel, rfl⟩, rfl⟩
theorem d_S_isNumber_13 : cd_D 1 b_S_isNumber 13 .iaload 14 := ⟨by decide +kernel, rfl⟩
theorem d_S_isNumber_14 : cd_D 2 b_S_isNumber 14 (.ldc 32) 16 := ⟨by decide +kernel, rfl⟩
theorem d_S_isNumber_16 : cd_D_icmp_eq b_S_isNumber 16 23 19 := ⟨7, by decide +kernel, by decide, rfl⟩
theorem d_S_isNumber_19 : cd_Dk b_S_isNumber 19 (nI 1) 20 := Or.inl ⟨1, ⟨by decide +kernel, rfl⟩, by decide +kernel⟩
theorem d_S_isNumber_20 : cd_D_goto b_S_isNumber 20 24 := ⟨4, by decide +kernel, by decide⟩
theorem d_S_isNumber_23 : cd_Dk b_S_isNumber 23 (nI 0) 24 := Or.inl ⟨0, ⟨by decide +kernel, rfl⟩, by decide +kernel⟩
theorem d_S_isNumber_24 : cd_D 1 b_S_isNumber 24 .ireturn 25 := ⟨by decide +kernel, rfl⟩
theorem c_S_isNumber {l : Launch} {w : cd_WT} {S : cd_Sp} {I : cd_Mem} {s : Nat} (hSh : cd_SH S s) (hsl : w.1 ≤ s) {sz : Nat} (hsz : I s 1 = nI sz) (hz : sz ≤ 24) (p : Int32) : cd_C l w m_S_isNumber 1 0 0 [.ref s, .int p] S I (cd_Fi S (cd_bI (¬ p < 0 ∧ ¬ nI sz ≤ p ∧ ¬ I (s + 1) (cd_tn p) = cd_NONE)) I) := by
  refine cd_intro (by decide) (by simp [Value.category]) (Nat.le_of_ble_eq_true rfl) ?_
  intro X hO hE
  show cd_J w X 0 0 S I 0 [some (.ref s), some (.int p)] []
  refine r_aload hO d_S_isNumber_0 rfl ?_
  refine r_iload hO d_S_isNumber_1 rfl ?_
  refine r_cV1fi hO hE (c_S_hasPlace hSh hsl _) mf_S_hasPlace lk_S_28 hSh.1 rfl (by decide) rfl (Nat.le_of_ble_eq_true rfl) d_S_isNumber_2 (Nat.zero_le _) (Nat.zero_le _) ?_
  rw [hsz]
  refine r_if_eqB hO d_S_isNumber_5 (fun c_5 => ?_) (fun c_5 => ?_)
  · refine r_k hO d_S_isNumber_23 ?_
    refine r_zret hO hE (by first | exact Or.inl rfl | exact Or.inr rfl) (Nat.zero_le _) (Nat.zero_le _) d_S_isNumber_24 ?_
    exact cd_ret0 (fun q => c_5 ⟨q.1, q.2.1⟩)
  · obtain ⟨j, hj, rfl⟩ := cd_lt_ex c_5.1 (show p < nI sz from by have := c_5.2; simp only [Int32.lt_iff_toInt_lt, Int32.le_iff_toInt_le] at *; omega) (by omega)
    refine r_aload hO d_S_isNumber_8 rfl ?_
    refine r_getR hO f_S_18 rfl hSh.1 hSh.2.1 d_S_isNumber_9 ?_
    refine r_iload hO d_S_isNumber_12 rfl ?_
    refine r_iald hO hSh.2.2 (by omega) (by decide) d_S_isNumber_13 ?_
    refine r_ldc hO k_S_32 d_S_isNumber_14 ?_
    refine r_icmp_eq hO d_S_isNumber_16 (fun c_16 => ?_) (fun c_16 => ?_)
    · refine r_k hO d_S_isNumber_23 ?_
      refine r_zret hO hE (by first | exact Or.inl rfl | exact Or.inr rfl) (Nat.zero_le _) (Nat.zero_le _) d_S_isNumber_24 ?_
      exact cd_ret0 (fun q => q.2.2 (by rw [cd_tn_nI (show j < 2 ^ 31 by omega)]; exact c_16))
    · refine r_k hO d_S_isNumber_19 ?_
      refine r_goto hO d_S_isNumber_20 ?_
      refine r_zret hO hE (by first | exact Or.inl rfl | exact Or.inr rfl) (Nat.zero_le _) (Nat.zero_le _) d_S_isNumber_24 ?_
      exact cd_ret1 ⟨c_5.1, c_5.2, by rw [cd_tn_nI (show j < 2 ^ 31 by omega)]; exact c_16⟩
theorem d_S_becomes_0 : cd_D_aload b_S_becomes 0 0 1 := Or.inr ⟨0, ⟨by decide +kernel, rfl⟩, rfl⟩
theorem d_S_becomes_1 : cd_D_iload b_S_becomes 1 1 2 := Or.inr ⟨1, ⟨by decide +kernel, rfl⟩, rfl⟩
theorem d_S_becomes_2 : cd_D 3 b_S_becomes 2 (.putfield 9) 5 := ⟨by decide +kernel, rfl⟩
theorem d_S_becomes_5 : cd_D_aload b_S_becomes 5 0 6 := Or.inr ⟨0, ⟨by decide +kernel, rfl⟩, rfl⟩
theorem d_S_becomes_6 : cd_D_iload b_S_becomes 6 2 7 := Or.inr ⟨2, ⟨by decide +kernel, rfl⟩, rfl⟩
theorem d_S_becomes_7 : cd_D 3 b_S_becomes 7 (.putfield 15) 10 := ⟨by decide +kernel, rfl⟩
theorem d_S_becomes_10 : cd_Dk b_S_becomes 10 (nI 0) 11 := Or.inl ⟨0, ⟨by decide +kernel, rfl⟩, by decide +kernel⟩
theorem d_S_becomes_11 : cd_D_istore b_S_becomes 11 3 12 := Or.inr ⟨3, ⟨by decide +kernel, rfl⟩, rfl⟩
theorem d_S_becomes_12 : cd_D_iload b_S_becomes 12 3 13 := Or.inr ⟨3, ⟨by decide +kernel, rfl⟩, rfl⟩
theorem d_S_becomes_13 : cd_Dk b_S_becomes 13 (nI 24) 15 := Or.inr (Or.inl ⟨24, ⟨by decide +kernel, rfl⟩, by decide +kernel⟩)
theorem d_S_becomes_15 : cd_D_icmp_ge b_S_becomes 15 31 18 := ⟨16, by decide +kernel, by decide, rfl⟩
theorem d_S_becomes_18 : cd_D_aload b_S_becomes 18 0 19 := Or.inr ⟨0, ⟨by decide +kernel, rfl⟩, rfl⟩
theorem d_S_becomes_19 : cd_D 3 b_S_becomes 19 (.getfield 18) 22 := ⟨by decide +kernel, rfl⟩
theorem d_S_becomes_22 : cd_D_iload b_S_becomes 22 3 23 := Or.inr ⟨3, ⟨by decide +kernel, rfl⟩, rfl⟩
theorem d_S_becomes_23 : cd_Dk b_S_becomes 23 (nI 0) 24 := Or.inl ⟨0, ⟨by decide +kernel, rfl⟩, by decide +kernel⟩
theorem d_S_becomes_24 : cd_D 1 b_S_becomes 24 .iastore 25 := ⟨by decide +kernel, rfl⟩
theorem d_S_becomes_25 : cd_D 3 b_S_becomes 25 (.iinc 3 (1)) 28 := ⟨by decide +kernel, rfl⟩
theorem d_S_becomes_28 : cd_D_goto b_S_becomes 28 12 := ⟨-16, by decide +kernel, by decide⟩
theorem d_S_becomes_31 : cd_D 1 b_S_becomes 31 .return_ 32 := ⟨by decide +kernel, rfl⟩
theorem c_S_becomes {l : Launch} {w : cd_WT} {S : cd_Sp} {I : cd_Mem} {s : Nat} (hSh : cd_SH S s) (hsl : w.1 ≤ s) (so n : Int32) : cd_C l w m_S_becomes 0 0 0 [.ref s, .int so, .int n] S I (cd_Pv S (fun I' => I' s = upd (upd (I s) 0 so) 1 n ∧ (∀ k, k < 24 → I' (s + 1) k = nI 0) ∧ cd_off I I' [s, s + 1])) := by
  refine cd_intro (by decide) (by simp [Value.category]) (Nat.le_of_ble_eq_true rfl) ?_
  intro X hO hE
  show cd_J w X 0 0 S I 0 [some (.ref s), some (.int so), some (.int n), none] []
  have loop : ∀ (r i : Nat) (I2 : cd_Mem), i + r = 24 → I2 s = upd (upd (I s) 0 so) 1 n → (∀ k, k < i → I2 (s + 1) k = nI 0) → cd_off I I2 [s, s + 1] → cd_J w X 0 0 S I2 12 [some (.ref s), some (.int so), some (.int n), some (.int (nI i))] [] := by
    intro r
    induction r with
    | zero =>
      intro i I2 hi h1 h2 h3
      have hi2 : i = 24 := by omega
      subst hi2
      refine r_iload hO d_S_becomes_12 rfl ?_
      refine r_k hO d_S_becomes_13 ?_
      refine r_icmp_ge hO d_S_becomes_15 (fun c_15 => ?_) (fun c_15 => ?_)
      · refine r_vret hO hE (Nat.zero_le _) (Nat.zero_le _) d_S_becomes_31 ?_
        exact ⟨rfl, rfl, h1, h2, h3⟩
      · exact absurd (nI_le (Nat.le_refl _) (by omega)) c_15
    | succ r ih =>
      intro i I2 hi h1 h2 h3
      refine r_iload hO d_S_becomes_12 rfl ?_
      refine r_k hO d_S_becomes_13 ?_
      refine r_icmp_ge hO d_S_becomes_15 (fun c_15 => ?_) (fun c_15 => ?_)
      · exact absurd c_15 (nI_ge (by omega) (by omega))
      · refine r_aload hO d_S_becomes_18 rfl ?_
        refine r_getR hO f_S_18 rfl hSh.1 hSh.2.1 d_S_becomes_19 ?_
        refine r_iload hO d_S_becomes_22 rfl ?_
        refine r_k hO d_S_becomes_23 ?_
        refine r_iast hO hSh.2.2 (Nat.le_trans hsl (Nat.le_add_right _ _)) (by omega) (by decide) d_S_becomes_24 ?_
        refine r_incN3 hO d_S_becomes_25 rfl ?_
        refine r_goto hO d_S_becomes_28 ?_
        refine ih (i + 1) _ (by omega) (by rw [cd_set_ne _ _ (by omega)]; exact h1) (fun k hk => ?_) (h3.tr (cd_off.set _ _ (by simp)))
        rw [cd_set_eq]
        unfold upd
        split
        · rfl
        · exact h2 k (by omega)
  refine r_aload hO d_S_becomes_0 rfl ?_
  refine r_iload hO d_S_becomes_1 rfl ?_
  refine r_putI hO f_S_9 rfl hSh.1 hsl d_S_becomes_2 ?_
  refine r_aload hO d_S_becomes_5 rfl ?_
  refine r_iload hO d_S_becomes_6 rfl ?_
  refine r_putI hO f_S_15 rfl hSh.1 hsl d_S_becomes_7 ?_
  try simp only [cd_set_eq, cd_set_set]
  refine r_k hO d_S_becomes_10 ?_
  refine r_sI3 hO d_S_becomes_11 rfl ?_
  exact loop 24 0 _ (by omega) (cd_set_eq _ _ _) (fun k hk => by omega) (cd_off.set _ _ (by simp))
theorem d_S_takes_0 : cd_D_aload b_S_takes 0 0 1 := Or.inr ⟨0, ⟨by decide +kernel, rfl⟩, rfl⟩
theorem d_S_takes_1 : cd_D_aload b_S_takes 1 1 2 := Or.inr ⟨1, ⟨by decide +kernel, rfl⟩, rfl⟩
theorem d_S_takes_2 : cd_D 3 b_S_takes 2 (.getfield 9) 5 := ⟨by decide +kernel, rfl⟩
theorem d_S_takes_5 : cd_D 3 b_S_takes 5 (.putfield 9) 8 := ⟨by decide +kernel, rfl⟩
theorem d_S_takes_8 : cd_D_aload b_S_takes 8 0 9 := Or.inr ⟨0, ⟨by decide +kernel, rfl⟩, rfl⟩
theorem d_S_takes_9 : cd_D_aload b_S_takes 9 1 10 := Or.inr ⟨1, ⟨by decide +kernel, rfl⟩, rfl⟩
theorem d_S_takes_10 : cd_D 3 b_S_takes 10 (.getfield 15) 13 := ⟨by decide +kernel, rfl⟩
theorem d_S_takes_13 : cd_D 3 b_S_takes 13 (.putfield 15) 16 := ⟨by decide +kernel, rfl⟩
theorem d_S_takes_16 : cd_D_aload b_S_takes 16 1 17 := Or.inr ⟨1, ⟨by decide +kernel, rfl⟩, rfl⟩
theorem d_S_takes_17 : cd_D 3 b_S_takes 17 (.getfield 18) 20 := ⟨by decide +kernel, rfl⟩
theorem d_S_takes_20 : cd_Dk b_S_takes 20 (nI 0) 21 := Or.inl ⟨0, ⟨by decide +kernel, rfl⟩, by decide +kernel⟩
theorem d_S_takes_21 : cd_D_aload b_S_takes 21 0 22 := Or.inr ⟨0, ⟨by decide +kernel, rfl⟩, rfl⟩
theorem d_S_takes_22 : cd_D 3 b_S_takes 22 (.getfield 18) 25 := ⟨by decide +kernel, rfl⟩
theorem d_S_takes_25 : cd_Dk b_S_takes 25 (nI 0) 26 := Or.inl ⟨0, ⟨by decide +kernel, rfl⟩, by decide +kernel⟩
theorem d_S_takes_26 : cd_Dk b_S_takes 26 (nI 24) 28 := Or.inr (Or.inl ⟨24, ⟨by decide +kernel, rfl⟩, by decide +kernel⟩)
theorem d_S_takes_28 : cd_D 3 b_S_takes 28 (.invokestatic 22) 31 := ⟨by decide +kernel, rfl⟩
theorem d_S_takes_31 : cd_D 1 b_S_takes 31 .return_ 32 := ⟨by decide +kernel, rfl⟩
theorem c_S_takes {l : Launch} {w : cd_WT} {S : cd_Sp} {I : cd_Mem} {s : Nat} (hSh : cd_SH S s) (hsl : w.1 ≤ s) {t : Nat} (hSt : cd_SH S t) (hst : s + 2 ≤ t ∨ t + 2 ≤ s) : cd_C l w m_S_takes 1 0 0 [.ref s, .ref t] S I (cd_Fv S (cd_set (cd_set I s (upd (upd (I s) 0 (I t 0)) 1 (I t 1))) (s + 1) (va_cpy (I (t + 1)) (I (s + 1)) 0 0 24))) := by
  refine cd_intro (by decide) (by simp [Value.category]) (Nat.le_of_ble_eq_true rfl) ?_
  intro X hO hE
  show cd_J w X 0 0 S I 0 [some (.ref s), some (.ref t)] []
  refine r_aload hO d_S_takes_0 rfl ?_
  refine r_aload hO d_S_takes_1 rfl ?_
  refine r_getI hO f_S_9 rfl hSt.1 d_S_takes_2 ?_
  refine r_putI hO f_S_9 rfl hSh.1 hsl d_S_takes_5 ?_
  refine r_aload hO d_S_takes_8 rfl ?_
  refine r_aload hO d_S_takes_9 rfl ?_
  refine r_getI hO f_S_15 rfl hSt.1 d_S_takes_10 ?_
  try simp (disch := omega) only [cd_set_eq, cd_set_ne, cd_set_set]
  refine r_putI hO f_S_15 rfl hSh.1 hsl d_S_takes_13 ?_
  try simp (disch := omega) only [cd_set_eq, cd_set_ne, cd_set_set]
  refine r_aload hO d_S_takes_16 rfl ?_
  refine r_getR hO f_S_18 rfl hSt.1 hSt.2.1 d_S_takes_17 ?_
  try simp (disch := omega) only [cd_set_eq, cd_set_ne, cd_set_set]
  refine r_k hO d_S_takes_20 ?_
  refine r_aload hO d_S_takes_21 rfl ?_
  refine r_getR hO f_S_18 rfl hSh.1 hSh.2.1 d_S_takes_22 ?_
  try simp (disch := omega) only [cd_set_eq, cd_set_ne, cd_set_set]
  refine r_k hO d_S_takes_25 ?_
  refine r_k hO d_S_takes_26 ?_
  refine r_copy hO hE lk_S_22 hSt.2.2 hSh.2.2 (Nat.le_trans hsl (Nat.le_add_right _ _)) (sp := 0) (dp := 0) (q := 24) (by decide) (by decide) (by decide) (by decide) (by decide) rfl (Nat.le_of_ble_eq_true rfl) d_S_takes_28 ?_
  try simp (disch := omega) only [cd_set_eq, cd_set_ne, cd_set_set]
  try simp (disch := omega) only [cd_set_eq, cd_set_ne, cd_set_set]
  refine r_vret hO hE (Nat.zero_le _) (Nat.zero_le _) d_S_takes_31 ?_
  exact ⟨rfl, rfl, rfl⟩
theorem d_L_refuses_0 : cd_D_aload b_L_refuses 0 0 1 := Or.inr ⟨0, ⟨by decide +kernel, rfl⟩, rfl⟩
theorem d_L_refuses_1 : cd_D 3 b_L_refuses 1 (.getfield 9) 4 := ⟨by decide +kernel, rfl⟩
theorem d_L_refuses_4 : cd_D_if_ne b_L_refuses 4 10 7 := ⟨6, by decide +kernel, by decide, rfl⟩
theorem d_L_refuses_7 : cd_D 2 b_L_refuses 7 (.ldc 32) 9 := ⟨by decide +kernel, rfl⟩
theorem d_L_refuses_9 : cd_D 1 b_L_refuses 9 .ireturn 10 := ⟨by decide +kernel, rfl⟩
theorem d_L_refuses_10 : cd_D_aload b_L_refuses 10 0 11 := Or.inr ⟨0, ⟨by decide +kernel, rfl⟩, rfl⟩
theorem d_L_refuses_11 : cd_D 3 b_L_refuses 11 (.getfield 9) 14 := ⟨by decide +kernel, rfl⟩
theorem d_L_refuses_14 : cd_D_iload b_L_refuses 14 1 15 := Or.inr ⟨1, ⟨by decide +kernel, rfl⟩, rfl⟩
theorem d_L_refuses_15 : cd_D_icmp_ne b_L_refuses 15 22 18 := ⟨7, by decide +kernel, by decide, rfl⟩
theorem d_L_refuses_18 : cd_Dk b_L_refuses 18 (nI 0) 19 := Or.inl ⟨0, ⟨by decide +kernel, rfl⟩, by decide +kernel⟩
theorem d_L_refuses_19 : cd_D_goto b_L_refuses 19 24 := ⟨5, by decide +kernel, by decide⟩
theorem d_L_refuses_22 : cd_D 2 b_L_refuses 22 (.ldc 33) 24 := ⟨by decide +kernel, rfl⟩
theorem d_L_refuses_24 : cd_D 1 b_L_refuses 24 .ireturn 25 := ⟨by decide +kernel, rfl⟩
theorem c_L_refuses {l : Launch} {w : cd_WT} {S : cd_Sp} {I : cd_Mem} {a : Nat} (hL : S.2.1 a = (1, 3)) (z : Int32) : cd_C l w m_L_refuses 0 0 0 [.ref a, .int z] S I (cd_Fi S (if I a 0 = 0 then cd_NOTHING else if I a 0 = z then nI 0 else cd_KIND) I) := by
  refine cd_intro (by decide) (by simp [Value.category]) (Nat.le_of_ble_eq_true rfl) ?_
  intro X hO hE
  show cd_J w X 0 0 S I 0 [some (.ref a), some (.int z)] []
  refine r_aload hO d_L_refuses_0 rfl ?_
  refine r_getI hO f_L_9 rfl hL d_L_refuses_1 ?_
  refine r_if_ne hO d_L_refuses_4 (fun c_4 => ?_) (fun c_4 => ?_)
  · refine r_aload hO d_L_refuses_10 rfl ?_
    refine r_getI hO f_L_9 rfl hL d_L_refuses_11 ?_
    refine r_iload hO d_L_refuses_14 rfl ?_
    refine r_icmp_ne hO d_L_refuses_15 (fun c_15 => ?_) (fun c_15 => ?_)
    · refine r_ldc hO k_L_33 d_L_refuses_22 ?_
      refine r_iret hO hE (Nat.zero_le _) (Nat.zero_le _) d_L_refuses_24 ?_
      exact ⟨by rw [if_neg c_4, if_neg c_15], rfl, rfl⟩
    · refine r_k hO d_L_refuses_18 ?_
      refine r_goto hO d_L_refuses_19 ?_
      refine r_iret hO hE (Nat.zero_le _) (Nat.zero_le _) d_L_refuses_24 ?_
      exact ⟨by rw [if_neg c_4, if_pos c_15], rfl, rfl⟩
  · refine r_ldc hO k_L_32 d_L_refuses_7 ?_
    refine r_iret hO hE (Nat.zero_le _) (Nat.zero_le _) d_L_refuses_9 ?_
    exact ⟨by rw [if_pos c_4], rfl, rfl⟩
