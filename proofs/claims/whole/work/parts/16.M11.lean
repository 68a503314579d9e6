def sp_fee (N : Nat → Int32) (tc : Nat) : Int32 := if 0 ≤ cd_cnt N (nI 1) tc then cd_wo N (cd_tn (cd_cnt N (nI 1) tc)) (N 10) (N 11) 0 else N 11
def sp_fine (N : Nat → Int32) (tc : Nat) (a : Int32) : Int32 := if cd_isA N a then (if 0 ≤ cd_cnt N (nI 2) tc then cd_wo N (cd_tn (cd_cnt N (nI 2) tc)) (N (16 + 5 * cd_tn a + 2)) (N (16 + 5 * cd_tn a + 4)) 0 else N (16 + 5 * cd_tn a + 4)) else cd_BAD
def sp_why (N : Nat → Int32) (tc : Nat) (k : Int32) : Int32 := if nI 0 ≤ k ∧ k ≤ nI 2 then (if 0 ≤ cd_cnt N k tc then cd_cnt N k tc else cd_NONE) else cd_BAD
def sp_textTold (N : Nat → Int32) (t q : Int32) : Int32 := if nI 0 ≤ t ∧ t ≤ N 15 - nI 1 then (if nI 0 ≤ q ∧ q ≤ nI 1 then (if q = 0 then N (76 + 2 * cd_tn t) / nI 1000 else N (76 + 2 * cd_tn t + 1)) else cd_BAD) else cd_BAD
theorem cd_isT_ex {x N15 : Int32} {tc : Nat} (h1 : N15 = nI tc) (hm : tc ≤ 14) (h : nI 0 ≤ x ∧ x ≤ N15 - nI 1) : ∃ i, i < tc ∧ x = nI i := by
  obtain ⟨h2, h3⟩ := h
  rw [h1] at h3
  by_cases h0 : tc = 0
  · subst h0
    exfalso
    rw [Int32.le_iff_toInt_le] at h2 h3
    have e1 : (nI 0).toInt = 0 := rfl
    have e2 : (nI 0 - nI 1).toInt = -1 := rfl
    omega
  · rw [pk_sub (by omega)] at h3
    obtain ⟨q, -, h4, rfl⟩ := cd_in_ex ⟨h2, h3⟩ (by decide) (by omega)
    exact ⟨q, by omega, rfl⟩
/-- twelve bytes out of three numbers -/
def cd_by (a b c : Int32) (k : Nat) : Int32 := (if 4 ≤ k then (if 8 ≤ k then c else b) else a) >>> (nI (24 - 8 * (k % 4)) &&& 31) &&& nI 255
def cd_fr (t : Nat → Int32) (L : Nat) (a b c : Int32) : Nat → Nat → Int32
  | 0 => t
  | k + 1 => upd (cd_fr t L a b c k) (L + k) (cd_by a b c k)
def sp_trim (L n : Int32) : Int32 × Int32 := if nI 0 ≤ n ∧ n ≤ L then (n, n) else (cd_BAD, L)
theorem cd_le_of {a b : Nat} (hb : a < 2 ^ 31 ∧ b < 2 ^ 31) (h : nI a ≤ nI b) : a ≤ b := (nI_leI hb.1 hb.2).mp h
theorem cd_nle_of {a b : Nat} (hb : a < 2 ^ 31 ∧ b < 2 ^ 31) (h : ¬ nI a ≤ nI b) : ¬ a ≤ b := fun q => h ((nI_leI hb.1 hb.2).mpr q)
theorem cd_upd_id (r : Nat → Int32) (k : Nat) : upd r k (r k) = r := by
  funext j
  by_cases h : j = k
  · subst h; simp [upd]
  · simp [upd, h]
theorem cd_upd_self (I : cd_Mem) (a k : Nat) : cd_set I a (upd (I a) k (I a k)) = I := by rw [cd_upd_id, cd_set_self]
theorem d_M_fee_0 : cd_D_aload b_M_fee 0 0 1 := Or.inr ⟨0, ⟨by decide +kernel, rfl⟩, rfl⟩
theorem d_M_fee_1 : cd_Dk b_M_fee 1 (nI 1) 2 := Or.inl ⟨1, ⟨by decide +kernel, rfl⟩, by decide +kernel⟩
theorem d_M_fee_2 : cd_D 3 b_M_fee 2 (.invokevirtual 93) 5 := ⟨by decide +kernel, rfl⟩
theorem d_M_fee_5 : cd_D_istore b_M_fee 5 1 6 := Or.inr ⟨1, ⟨by decide +kernel, rfl⟩, rfl⟩
theorem d_M_fee_6 : cd_D_aload b_M_fee 6 0 7 := Or.inr ⟨0, ⟨by decide +kernel, rfl⟩, rfl⟩
theorem d_M_fee_7 : cd_D 3 b_M_fee 7 (.getfield 45) 10 := ⟨by decide +kernel, rfl⟩
theorem d_M_fee_10 : cd_Dk b_M_fee 10 (nI 0) 11 := Or.inl ⟨0, ⟨by decide +kernel, rfl⟩, by decide +kernel⟩
theorem d_M_fee_11 : cd_D_aload b_M_fee 11 0 12 := Or.inr ⟨0, ⟨by decide +kernel, rfl⟩, rfl⟩
theorem d_M_fee_12 : cd_D 3 b_M_fee 12 (.getfield 9) 15 := ⟨by decide +kernel, rfl⟩
theorem d_M_fee_15 : cd_Dk b_M_fee 15 (nI 10) 17 := Or.inr (Or.inl ⟨10, ⟨by decide +kernel, rfl⟩, by decide +kernel⟩)
theorem d_M_fee_17 : cd_D 1 b_M_fee 17 .iaload 18 := ⟨by decide +kernel, rfl⟩
theorem d_M_fee_18 : cd_D 1 b_M_fee 18 .iastore 19 := ⟨by decide +kernel, rfl⟩
theorem d_M_fee_19 : cd_D_aload b_M_fee 19 0 20 := Or.inr ⟨0, ⟨by decide +kernel, rfl⟩, rfl⟩
theorem d_M_fee_20 : cd_D 3 b_M_fee 20 (.getfield 45) 23 := ⟨by decide +kernel, rfl⟩
theorem d_M_fee_23 : cd_Dk b_M_fee 23 (nI 1) 24 := Or.inl ⟨1, ⟨by decide +kernel, rfl⟩, by decide +kernel⟩
theorem d_M_fee_24 : cd_D_aload b_M_fee 24 0 25 := Or.inr ⟨0, ⟨by decide +kernel, rfl⟩, rfl⟩
theorem d_M_fee_25 : cd_D 3 b_M_fee 25 (.getfield 9) 28 := ⟨by decide +kernel, rfl⟩
theorem d_M_fee_28 : cd_Dk b_M_fee 28 (nI 11) 30 := Or.inr (Or.inl ⟨11, ⟨by decide +kernel, rfl⟩, by decide +kernel⟩)
theorem d_M_fee_30 : cd_D 1 b_M_fee 30 .iaload 31 := ⟨by decide +kernel, rfl⟩
theorem d_M_fee_31 : cd_D 1 b_M_fee 31 .iastore 32 := ⟨by decide +kernel, rfl⟩
theorem d_M_fee_32 : cd_D_iload b_M_fee 32 1 33 := Or.inr ⟨1, ⟨by decide +kernel, rfl⟩, rfl⟩
theorem d_M_fee_33 : cd_D_if_ge b_M_fee 33 46 36 := ⟨13, by decide +kernel, by decide, rfl⟩
theorem d_M_fee_36 : cd_D_aload b_M_fee 36 0 37 := Or.inr ⟨0, ⟨by decide +kernel, rfl⟩, rfl⟩
theorem d_M_fee_37 : cd_D 3 b_M_fee 37 (.getfield 9) 40 := ⟨by decide +kernel, rfl⟩
theorem d_M_fee_40 : cd_Dk b_M_fee 40 (nI 11) 42 := Or.inr (Or.inl ⟨11, ⟨by decide +kernel, rfl⟩, by decide +kernel⟩)
theorem d_M_fee_42 : cd_D 1 b_M_fee 42 .iaload 43 := ⟨by decide +kernel, rfl⟩
theorem d_M_fee_43 : cd_D_goto b_M_fee 43 51 := ⟨8, by decide +kernel, by decide⟩
theorem d_M_fee_46 : cd_D_aload b_M_fee 46 0 47 := Or.inr ⟨0, ⟨by decide +kernel, rfl⟩, rfl⟩
theorem d_M_fee_47 : cd_D_iload b_M_fee 47 1 48 := Or.inr ⟨1, ⟨by decide +kernel, rfl⟩, rfl⟩
theorem d_M_fee_48 : cd_D 3 b_M_fee 48 (.invokevirtual 101) 51 := ⟨by decide +kernel, rfl⟩
theorem d_M_fee_51 : cd_D 1 b_M_fee 51 .ireturn 52 := ⟨by decide +kernel, rfl⟩
theorem c_M_fee {l : Launch} {w : cd_WT} {S : cd_Sp} {I : cd_Mem} {m : Nat} (hM : cd_MO w S m) (mm tc : Nat) (hV : cd_V (I (m + 1)) mm tc)  : cd_C l w m_M_fee 2 0 0 [.ref m] S I (cd_Pi S (fun x I' => x = sp_fee (I (m + 1)) tc ∧ cd_off I I' [m + 11, m + 12])) := by
  refine cd_intro (by decide) (by simp [Value.category]) (Nat.le_of_ble_eq_true rfl) ?_
  intro X hO hE
  show cd_J w X 0 0 S I 0 [some (.ref m), none] []
  obtain ⟨hN1, hmm, hN15, htc, hTW⟩ := id hV
  refine r_aload hO d_M_fee_0 rfl ?_
  refine r_k hO d_M_fee_1 ?_
  refine r_cV1fi hO hE (c_M_counts hM tc hN15 htc _) mf_M_counts lk_M_93 hM.2.1 rfl (by decide) rfl (Nat.le_of_ble_eq_true rfl) d_M_fee_2 (Nat.zero_le _) (Nat.zero_le _) ?_
  try simp (disch := omega) only [cd_set_eq, cd_set_ne, cd_set_set]
  refine r_sI1 hO d_M_fee_5 rfl ?_
  refine r_aload hO d_M_fee_6 rfl ?_
  refine r_getR hO f_M_45 rfl hM.2.1 (mo_r12 hM) d_M_fee_7 ?_
  try simp (disch := omega) only [cd_set_eq, cd_set_ne, cd_set_set]
  refine r_k hO d_M_fee_10 ?_
  refine r_aload hO d_M_fee_11 rfl ?_
  refine r_getR hO f_M_9 rfl hM.2.1 (mo_r1 hM) d_M_fee_12 ?_
  try simp (disch := omega) only [cd_set_eq, cd_set_ne, cd_set_set]
  refine r_k hO d_M_fee_15 ?_
  refine r_iald hO (mo_s1 hM) (by omega) (by decide) d_M_fee_17 ?_
  try simp (disch := omega) only [cd_set_eq, cd_set_ne, cd_set_set]
  refine r_iast hO (mo_s12 hM) (mo_l12 hM) (by omega) (by decide) d_M_fee_18 ?_
  try simp (disch := omega) only [cd_set_eq, cd_set_ne, cd_set_set]
  refine r_aload hO d_M_fee_19 rfl ?_
  refine r_getR hO f_M_45 rfl hM.2.1 (mo_r12 hM) d_M_fee_20 ?_
  try simp (disch := omega) only [cd_set_eq, cd_set_ne, cd_set_set]
  refine r_k hO d_M_fee_23 ?_
  refine r_aload hO d_M_fee_24 rfl ?_
  refine r_getR hO f_M_9 rfl hM.2.1 (mo_r1 hM) d_M_fee_25 ?_
  try simp (disch := omega) only [cd_set_eq, cd_set_ne, cd_set_set]
  refine r_k hO d_M_fee_28 ?_
  refine r_iald hO (mo_s1 hM) (by omega) (by decide) d_M_fee_30 ?_
  try simp (disch := omega) only [cd_set_eq, cd_set_ne, cd_set_set]
  refine r_iast hO (mo_s12 hM) (mo_l12 hM) (by omega) (by decide) d_M_fee_31 ?_
  try simp (disch := omega) only [cd_set_eq, cd_set_ne, cd_set_set]
  refine r_gen (fun I1 hI1 => ?_)
  have h1 : I1 (m + 1) = I (m + 1) := by rw [hI1, cd_set_ne _ _ (by omega)]
  have h12 : I1 (m + 12) = upd (upd (I (m + 12)) 0 (I (m + 1) 10)) 1 (I (m + 1) 11) := by rw [hI1, cd_set_eq]
  have ho1 : cd_off I I1 [m + 11, m + 12] := by rw [hI1]; exact cd_off.set _ _ (by simp)
  refine r_iload hO d_M_fee_32 rfl ?_
  refine r_if_ge hO d_M_fee_33 (fun c_33 => ?_) (fun c_33 => ?_)
  · obtain ⟨tj, htj, etj, hkey⟩ := cd_cnt_pos c_33
    obtain ⟨n, hn, hn1, hn9, hwf, hd1⟩ := hTW.at htj (by decide) hkey
    rw [etj]
    refine r_aload hO d_M_fee_46 rfl ?_
    refine r_iload hO d_M_fee_47 rfl ?_
    refine r_cV1i hO hE (c_M_worksOut hM tj n 2 (by omega) (fun j => if j = 0 then I (m + 1) 10 else if j = 1 then I (m + 1) 11 else 0) (by rw [h1]; exact hn) hn9 (by decide) (by rw [h1]; exact hwf) (by rw [h1, hd1]; exact Nat.le_refl _) (fun j hj => by rw [h12]; rcases (show j = 0 ∨ j = 1 by omega) with rfl | rfl <;> simp [upd])) mf_M_worksOut lk_M_101 hM.2.1 rfl (by decide) rfl (Nat.le_of_ble_eq_true rfl) d_M_fee_48 (Nat.zero_le _) (Nat.zero_le _) ?_
    rintro x I2 ⟨hx, ho2⟩
    try simp (disch := omega) only [cd_set_eq, cd_set_ne, cd_set_set]
    refine r_iret hO hE (Nat.zero_le _) (Nat.zero_le _) d_M_fee_51 ?_
    refine ⟨_, rfl, rfl, ?_, ho1.tr (ho2.mono (by simp))⟩
    unfold sp_fee
    rw [if_pos c_33]
    rw [etj, hx, h1, cd_wo_eq (by unfold cd_tn; rw [nI_clamp (by omega)]; exact hn) hn9]
    unfold cd_tn
    rw [nI_clamp (by omega)]
  · refine r_aload hO d_M_fee_36 rfl ?_
    refine r_getR hO f_M_9 rfl hM.2.1 (mo_r1 hM) d_M_fee_37 ?_
    try simp (disch := omega) only [cd_set_eq, cd_set_ne, cd_set_set]
    refine r_k hO d_M_fee_40 ?_
    refine r_iald hO (mo_s1 hM) (by omega) (by decide) d_M_fee_42 ?_
    try simp (disch := omega) only [cd_set_eq, cd_set_ne, cd_set_set]
    rw [h1]
    refine r_goto hO d_M_fee_43 ?_
    refine r_iret hO hE (Nat.zero_le _) (Nat.zero_le _) d_M_fee_51 ?_
    exact ⟨_, rfl, rfl, by unfold sp_fee; rw [if_neg c_33], ho1⟩
theorem d_M_fine_0 : cd_D_aload b_M_fine 0 0 1 := Or.inr ⟨0, ⟨by decide +kernel, rfl⟩, rfl⟩
theorem d_M_fine_1 : cd_D_iload b_M_fine 1 1 2 := Or.inr ⟨1, ⟨by decide +kernel, rfl⟩, rfl⟩
theorem d_M_fine_2 : cd_D 3 b_M_fine 2 (.invokevirtual 108) 5 := ⟨by decide +kernel, rfl⟩
theorem d_M_fine_5 : cd_D_if_ne b_M_fine 5 11 8 := ⟨6, by decide +kernel, by decide, rfl⟩
theorem d_M_fine_8 : cd_D 2 b_M_fine 8 (.ldc 87) 10 := ⟨by decide +kernel, rfl⟩
theorem d_M_fine_10 : cd_D 1 b_M_fine 10 .ireturn 11 := ⟨by decide +kernel, rfl⟩
theorem d_M_fine_11 : cd_D_aload b_M_fine 11 0 12 := Or.inr ⟨0, ⟨by decide +kernel, rfl⟩, rfl⟩
theorem d_M_fine_12 : cd_Dk b_M_fine 12 (nI 2) 13 := Or.inl ⟨2, ⟨by decide +kernel, rfl⟩, by decide +kernel⟩
theorem d_M_fine_13 : cd_D 3 b_M_fine 13 (.invokevirtual 93) 16 := ⟨by decide +kernel, rfl⟩
theorem d_M_fine_16 : cd_D_istore b_M_fine 16 2 17 := Or.inr ⟨2, ⟨by decide +kernel, rfl⟩, rfl⟩
theorem d_M_fine_17 : cd_D_aload b_M_fine 17 0 18 := Or.inr ⟨0, ⟨by decide +kernel, rfl⟩, rfl⟩
theorem d_M_fine_18 : cd_D 3 b_M_fine 18 (.getfield 45) 21 := ⟨by decide +kernel, rfl⟩
theorem d_M_fine_21 : cd_Dk b_M_fine 21 (nI 0) 22 := Or.inl ⟨0, ⟨by decide +kernel, rfl⟩, by decide +kernel⟩
theorem d_M_fine_22 : cd_D_aload b_M_fine 22 0 23 := Or.inr ⟨0, ⟨by decide +kernel, rfl⟩, rfl⟩
theorem d_M_fine_23 : cd_D_iload b_M_fine 23 1 24 := Or.inr ⟨1, ⟨by decide +kernel, rfl⟩, rfl⟩
theorem d_M_fine_24 : cd_Dk b_M_fine 24 (nI 2) 25 := Or.inl ⟨2, ⟨by decide +kernel, rfl⟩, by decide +kernel⟩
theorem d_M_fine_25 : cd_D 3 b_M_fine 25 (.invokevirtual 97) 28 := ⟨by decide +kernel, rfl⟩
theorem d_M_fine_28 : cd_D 1 b_M_fine 28 .iastore 29 := ⟨by decide +kernel, rfl⟩
theorem d_M_fine_29 : cd_D_aload b_M_fine 29 0 30 := Or.inr ⟨0, ⟨by decide +kernel, rfl⟩, rfl⟩
theorem d_M_fine_30 : cd_D 3 b_M_fine 30 (.getfield 45) 33 := ⟨by decide +kernel, rfl⟩
theorem d_M_fine_33 : cd_Dk b_M_fine 33 (nI 1) 34 := Or.inl ⟨1, ⟨by decide +kernel, rfl⟩, by decide +kernel⟩
theorem d_M_fine_34 : cd_D_aload b_M_fine 34 0 35 := Or.inr ⟨0, ⟨by decide +kernel, rfl⟩, rfl⟩
theorem d_M_fine_35 : cd_D_iload b_M_fine 35 1 36 := Or.inr ⟨1, ⟨by decide +kernel, rfl⟩, rfl⟩
theorem d_M_fine_36 : cd_Dk b_M_fine 36 (nI 4) 37 := Or.inl ⟨4, ⟨by decide +kernel, rfl⟩, by decide +kernel⟩
theorem d_M_fine_37 : cd_D 3 b_M_fine 37 (.invokevirtual 97) 40 := ⟨by decide +kernel, rfl⟩
theorem d_M_fine_40 : cd_D 1 b_M_fine 40 .iastore 41 := ⟨by decide +kernel, rfl⟩
theorem d_M_fine_41 : cd_D_iload b_M_fine 41 2 42 := Or.inr ⟨2, ⟨by decide +kernel, rfl⟩, rfl⟩
theorem d_M_fine_42 : cd_D_if_ge b_M_fine 42 54 45 := ⟨12, by decide +kernel, by decide, rfl⟩
theorem d_M_fine_45 : cd_D_aload b_M_fine 45 0 46 := Or.inr ⟨0, ⟨by decide +kernel, rfl⟩, rfl⟩
theorem d_M_fine_46 : cd_D_iload b_M_fine 46 1 47 := Or.inr ⟨1, ⟨by decide +kernel, rfl⟩, rfl⟩
theorem d_M_fine_47 : cd_Dk b_M_fine 47 (nI 4) 48 := Or.inl ⟨4, ⟨by decide +kernel, rfl⟩, by decide +kernel⟩
theorem d_M_fine_48 : cd_D 3 b_M_fine 48 (.invokevirtual 97) 51 := ⟨by decide +kernel, rfl⟩
theorem d_M_fine_51 : cd_D_goto b_M_fine 51 59 := ⟨8, by decide +kernel, by decide⟩
theorem d_M_fine_54 : cd_D_aload b_M_fine 54 0 55 := Or.inr ⟨0, ⟨by decide +kernel, rfl⟩, rfl⟩
theorem d_M_fine_55 : cd_D_iload b_M_fine 55 2 56 := Or.inr ⟨2, ⟨by decide +kernel, rfl⟩, rfl⟩
theorem d_M_fine_56 : cd_D 3 b_M_fine 56 (.invokevirtual 101) 59 := ⟨by decide +kernel, rfl⟩
theorem d_M_fine_59 : cd_D 1 b_M_fine 59 .ireturn 60 := ⟨by decide +kernel, rfl⟩
theorem c_M_fine {l : Launch} {w : cd_WT} {S : cd_Sp} {I : cd_Mem} {m : Nat} (hM : cd_MO w S m) (mm tc : Nat) (hV : cd_V (I (m + 1)) mm tc) (a : Int32) : cd_C l w m_M_fine 2 0 0 [.ref m, .int a] S I (cd_Pi S (fun x I' => x = sp_fine (I (m + 1)) tc a ∧ cd_off I I' [m + 11, m + 12])) := by
  refine cd_intro (by decide) (by simp [Value.category]) (Nat.le_of_ble_eq_true rfl) ?_
  intro X hO hE
  show cd_J w X 0 0 S I 0 [some (.ref m), some (.int a), none] []
  obtain ⟨hN1, hmm, hN15, htc, hTW⟩ := id hV
  refine r_aload hO d_M_fine_0 rfl ?_
  refine r_iload hO d_M_fine_1 rfl ?_
  refine r_cV1fi hO hE (c_M_isAsking hM _) mf_M_isAsking lk_M_108 hM.2.1 rfl (by decide) rfl (Nat.le_of_ble_eq_true rfl) d_M_fine_2 (Nat.zero_le _) (Nat.zero_le _) ?_
  try simp (disch := omega) only [cd_set_eq, cd_set_ne, cd_set_set]
  refine r_if_neB hO d_M_fine_5 (fun c_5 => ?_) (fun c_5 => ?_)
  · obtain ⟨i, hi, rfl⟩ := cd_isA_ex hV.1 hV.2.1 c_5
    have hmm := hV.2.1
    refine r_aload hO d_M_fine_11 rfl ?_
    refine r_k hO d_M_fine_12 ?_
    refine r_cV1fi hO hE (c_M_counts hM tc hN15 htc _) mf_M_counts lk_M_93 hM.2.1 rfl (by decide) rfl (Nat.le_of_ble_eq_true rfl) d_M_fine_13 (Nat.zero_le _) (Nat.zero_le _) ?_
    try simp (disch := omega) only [cd_set_eq, cd_set_ne, cd_set_set]
    refine r_sI2 hO d_M_fine_16 rfl ?_
    refine r_aload hO d_M_fine_17 rfl ?_
    refine r_getR hO f_M_45 rfl hM.2.1 (mo_r12 hM) d_M_fine_18 ?_
    try simp (disch := omega) only [cd_set_eq, cd_set_ne, cd_set_set]
    refine r_k hO d_M_fine_21 ?_
    refine r_aload hO d_M_fine_22 rfl ?_
    refine r_iload hO d_M_fine_23 rfl ?_
    refine r_k hO d_M_fine_24 ?_
    refine r_cV2fi hO hE (c_M_of hM _ _ (by omega)) mf_M_of lk_M_97 hM.2.1 rfl (by decide) rfl (Nat.le_of_ble_eq_true rfl) d_M_fine_25 (Nat.zero_le _) (Nat.zero_le _) ?_
    try simp (disch := omega) only [cd_set_eq, cd_set_ne, cd_set_set]
    refine r_iast hO (mo_s12 hM) (mo_l12 hM) (by omega) (by decide) d_M_fine_28 ?_
    try simp (disch := omega) only [cd_set_eq, cd_set_ne, cd_set_set]
    refine r_aload hO d_M_fine_29 rfl ?_
    refine r_getR hO f_M_45 rfl hM.2.1 (mo_r12 hM) d_M_fine_30 ?_
    try simp (disch := omega) only [cd_set_eq, cd_set_ne, cd_set_set]
    refine r_k hO d_M_fine_33 ?_
    refine r_aload hO d_M_fine_34 rfl ?_
    refine r_iload hO d_M_fine_35 rfl ?_
    refine r_k hO d_M_fine_36 ?_
    refine r_cV2fi hO hE (c_M_of hM _ _ (by omega)) mf_M_of lk_M_97 hM.2.1 rfl (by decide) rfl (Nat.le_of_ble_eq_true rfl) d_M_fine_37 (Nat.zero_le _) (Nat.zero_le _) ?_
    try simp (disch := omega) only [cd_set_eq, cd_set_ne, cd_set_set]
    refine r_iast hO (mo_s12 hM) (mo_l12 hM) (by omega) (by decide) d_M_fine_40 ?_
    try simp (disch := omega) only [cd_set_eq, cd_set_ne, cd_set_set]
    refine r_gen (fun I1 hI1 => ?_)
    have h1 : I1 (m + 1) = I (m + 1) := by rw [hI1, cd_set_ne _ _ (by omega)]
    have h12 : I1 (m + 12) = upd (upd (I (m + 12)) 0 (I (m + 1) (16 + 5 * i + 2))) 1 (I (m + 1) (16 + 5 * i + 4)) := by rw [hI1, cd_set_eq]
    have ho1 : cd_off I I1 [m + 11, m + 12] := by rw [hI1]; exact cd_off.set _ _ (by simp)
    refine r_iload hO d_M_fine_41 rfl ?_
    refine r_if_ge hO d_M_fine_42 (fun c_42 => ?_) (fun c_42 => ?_)
    · obtain ⟨tj, htj, etj, hkey⟩ := cd_cnt_pos c_42
      obtain ⟨n, hn, hn1, hn9, hwf, hd1⟩ := hTW.at htj (by decide) hkey
      rw [etj]
      refine r_aload hO d_M_fine_54 rfl ?_
      refine r_iload hO d_M_fine_55 rfl ?_
      refine r_cV1i hO hE (c_M_worksOut hM tj n 2 (by omega) (fun j => if j = 0 then I (m + 1) (16 + 5 * i + 2) else if j = 1 then I (m + 1) (16 + 5 * i + 4) else 0) (by rw [h1]; exact hn) hn9 (by decide) (by rw [h1]; exact hwf) (by rw [h1, hd1]; exact Nat.le_refl _) (fun j hj => by rw [h12]; rcases (show j = 0 ∨ j = 1 by omega) with rfl | rfl <;> simp [upd])) mf_M_worksOut lk_M_101 hM.2.1 rfl (by decide) rfl (Nat.le_of_ble_eq_true rfl) d_M_fine_56 (Nat.zero_le _) (Nat.zero_le _) ?_
      rintro x I2 ⟨hx, ho2⟩
      try simp (disch := omega) only [cd_set_eq, cd_set_ne, cd_set_set]
      refine r_iret hO hE (Nat.zero_le _) (Nat.zero_le _) d_M_fine_59 ?_
      refine ⟨_, rfl, rfl, ?_, ho1.tr (ho2.mono (by simp))⟩
      unfold sp_fine
      rw [if_pos c_5, cd_tn_nI (by omega), if_pos c_42]
      rw [etj, hx, h1, cd_wo_eq (by unfold cd_tn; rw [nI_clamp (by omega)]; exact hn) hn9]
      unfold cd_tn
      rw [nI_clamp (by omega)]
    · refine r_aload hO d_M_fine_45 rfl ?_
      refine r_iload hO d_M_fine_46 rfl ?_
      refine r_k hO d_M_fine_47 ?_
      refine r_cV2fi hO hE (c_M_of hM _ _ (by omega)) mf_M_of lk_M_97 hM.2.1 rfl (by decide) rfl (Nat.le_of_ble_eq_true rfl) d_M_fine_48 (Nat.zero_le _) (Nat.zero_le _) ?_
      try simp (disch := omega) only [cd_set_eq, cd_set_ne, cd_set_set]
      rw [h1]
      refine r_goto hO d_M_fine_51 ?_
      refine r_iret hO hE (Nat.zero_le _) (Nat.zero_le _) d_M_fine_59 ?_
      exact ⟨_, rfl, rfl, by unfold sp_fine; rw [if_pos c_5, cd_tn_nI (by omega), if_neg c_42], ho1⟩
  · refine r_ldc hO k_M_87 d_M_fine_8 ?_
    refine r_iret hO hE (Nat.zero_le _) (Nat.zero_le _) d_M_fine_10 ?_
    exact ⟨_, rfl, rfl, by unfold sp_fine; rw [if_neg c_5], cd_off.rf _ _⟩
theorem d_M_why_0 : cd_D_iload b_M_why 0 1 1 := Or.inr ⟨1, ⟨by decide +kernel, rfl⟩, rfl⟩
theorem d_M_why_1 : cd_Dk b_M_why 1 (nI 0) 2 := Or.inl ⟨0, ⟨by decide +kernel, rfl⟩, by decide +kernel⟩
theorem d_M_why_2 : cd_Dk b_M_why 2 (nI 2) 3 := Or.inl ⟨2, ⟨by decide +kernel, rfl⟩, by decide +kernel⟩
theorem d_M_why_3 : cd_D 3 b_M_why 3 (.invokestatic 75) 6 := ⟨by decide +kernel, rfl⟩
theorem d_M_why_6 : cd_D_if_ne b_M_why 6 12 9 := ⟨6, by decide +kernel, by decide, rfl⟩
theorem d_M_why_9 : cd_D 2 b_M_why 9 (.ldc 87) 11 := ⟨by decide +kernel, rfl⟩
theorem d_M_why_11 : cd_D 1 b_M_why 11 .ireturn 12 := ⟨by decide +kernel, rfl⟩
theorem d_M_why_12 : cd_D_aload b_M_why 12 0 13 := Or.inr ⟨0, ⟨by decide +kernel, rfl⟩, rfl⟩
theorem d_M_why_13 : cd_D_iload b_M_why 13 1 14 := Or.inr ⟨1, ⟨by decide +kernel, rfl⟩, rfl⟩
theorem d_M_why_14 : cd_D 3 b_M_why 14 (.invokevirtual 93) 17 := ⟨by decide +kernel, rfl⟩
theorem d_M_why_17 : cd_D_istore b_M_why 17 2 18 := Or.inr ⟨2, ⟨by decide +kernel, rfl⟩, rfl⟩
theorem d_M_why_18 : cd_D_iload b_M_why 18 2 19 := Or.inr ⟨2, ⟨by decide +kernel, rfl⟩, rfl⟩
theorem d_M_why_19 : cd_D_if_ge b_M_why 19 27 22 := ⟨8, by decide +kernel, by decide, rfl⟩
theorem d_M_why_22 : cd_D 2 b_M_why 22 (.ldc 176) 24 := ⟨by decide +kernel, rfl⟩
theorem d_M_why_24 : cd_D_goto b_M_why 24 28 := ⟨4, by decide +kernel, by decide⟩
theorem d_M_why_27 : cd_D_iload b_M_why 27 2 28 := Or.inr ⟨2, ⟨by decide +kernel, rfl⟩, rfl⟩
theorem d_M_why_28 : cd_D 1 b_M_why 28 .ireturn 29 := ⟨by decide +kernel, rfl⟩
theorem c_M_why {l : Launch} {w : cd_WT} {S : cd_Sp} {I : cd_Mem} {m : Nat} (hM : cd_MO w S m) (mm tc : Nat) (hV : cd_V (I (m + 1)) mm tc) (k : Int32) : cd_C l w m_M_why 1 0 0 [.ref m, .int k] S I (cd_Fi S (sp_why (I (m + 1)) tc k) I) := by
  refine cd_intro (by decide) (by simp [Value.category]) (Nat.le_of_ble_eq_true rfl) ?_
  intro X hO hE
  show cd_J w X 0 0 S I 0 [some (.ref m), some (.int k), none] []
  obtain ⟨hN1, hmm, hN15, htc, hTW⟩ := id hV
  refine r_iload hO d_M_why_0 rfl ?_
  refine r_k hO d_M_why_1 ?_
  refine r_k hO d_M_why_2 ?_
  refine r_cS3fi hO hE (c_M_in _ _ _) mf_M_in lk_M_75 (by decide) rfl (Nat.le_of_ble_eq_true rfl) d_M_why_3 (Nat.zero_le _) (Nat.zero_le _) ?_
  refine r_if_neB hO d_M_why_6 (fun c_6 => ?_) (fun c_6 => ?_)
  · refine r_aload hO d_M_why_12 rfl ?_
    refine r_iload hO d_M_why_13 rfl ?_
    refine r_cV1fi hO hE (c_M_counts hM tc hN15 htc _) mf_M_counts lk_M_93 hM.2.1 rfl (by decide) rfl (Nat.le_of_ble_eq_true rfl) d_M_why_14 (Nat.zero_le _) (Nat.zero_le _) ?_
    refine r_sI2 hO d_M_why_17 rfl ?_
    refine r_iload hO d_M_why_18 rfl ?_
    refine r_if_ge hO d_M_why_19 (fun c_19 => ?_) (fun c_19 => ?_)
    · refine r_iload hO d_M_why_27 rfl ?_
      refine r_iret hO hE (Nat.zero_le _) (Nat.zero_le _) d_M_why_28 ?_
      exact ⟨by unfold sp_why; rw [if_pos c_6, if_pos c_19], rfl, rfl⟩
    · refine r_ldc hO k_M_176 d_M_why_22 ?_
      refine r_goto hO d_M_why_24 ?_
      refine r_iret hO hE (Nat.zero_le _) (Nat.zero_le _) d_M_why_28 ?_
      exact ⟨by unfold sp_why; rw [if_pos c_6, if_neg c_19], rfl, rfl⟩
  · refine r_ldc hO k_M_87 d_M_why_9 ?_
    refine r_iret hO hE (Nat.zero_le _) (Nat.zero_le _) d_M_why_11 ?_
    exact ⟨by unfold sp_why; rw [if_neg c_6], rfl, rfl⟩
theorem d_M_textTold_0 : cd_D_iload b_M_textTold 0 1 1 := Or.inr ⟨1, ⟨by decide +kernel, rfl⟩, rfl⟩
theorem d_M_textTold_1 : cd_Dk b_M_textTold 1 (nI 0) 2 := Or.inl ⟨0, ⟨by decide +kernel, rfl⟩, by decide +kernel⟩
theorem d_M_textTold_2 : cd_D_aload b_M_textTold 2 0 3 := Or.inr ⟨0, ⟨by decide +kernel, rfl⟩, rfl⟩
theorem d_M_textTold_3 : cd_D 3 b_M_textTold 3 (.getfield 9) 6 := ⟨by decide +kernel, rfl⟩
theorem d_M_textTold_6 : cd_Dk b_M_textTold 6 (nI 15) 8 := Or.inr (Or.inl ⟨15, ⟨by decide +kernel, rfl⟩, by decide +kernel⟩)
theorem d_M_textTold_8 : cd_D 1 b_M_textTold 8 .iaload 9 := ⟨by decide +kernel, rfl⟩
theorem d_M_textTold_9 : cd_Dk b_M_textTold 9 (nI 1) 10 := Or.inl ⟨1, ⟨by decide +kernel, rfl⟩, by decide +kernel⟩
theorem d_M_textTold_10 : cd_D 1 b_M_textTold 10 .isub 11 := ⟨by decide +kernel, rfl⟩
theorem d_M_textTold_11 : cd_D 3 b_M_textTold 11 (.invokestatic 75) 14 := ⟨by decide +kernel, rfl⟩
theorem d_M_textTold_14 : cd_D_if_eq b_M_textTold 14 26 17 := ⟨12, by decide +kernel, by decide, rfl⟩
theorem d_M_textTold_17 : cd_D_iload b_M_textTold 17 2 18 := Or.inr ⟨2, ⟨by decide +kernel, rfl⟩, rfl⟩
theorem d_M_textTold_18 : cd_Dk b_M_textTold 18 (nI 0) 19 := Or.inl ⟨0, ⟨by decide +kernel, rfl⟩, by decide +kernel⟩
theorem d_M_textTold_19 : cd_Dk b_M_textTold 19 (nI 1) 20 := Or.inl ⟨1, ⟨by decide +kernel, rfl⟩, by decide +kernel⟩
theorem d_M_textTold_20 : cd_D 3 b_M_textTold 20 (.invokestatic 75) 23 := ⟨by decide +kernel, rfl⟩
theorem d_M_textTold_23 : cd_D_if_ne b_M_textTold 23 29 26 := ⟨6, by decide +kernel, by decide, rfl⟩
theorem d_M_textTold_26 : cd_D 2 b_M_textTold 26 (.ldc 87) 28 := ⟨by decide +kernel, rfl⟩
theorem d_M_textTold_28 : cd_D 1 b_M_textTold 28 .ireturn 29 := ⟨by decide +kernel, rfl⟩
theorem d_M_textTold_29 : cd_D_iload b_M_textTold 29 2 30 := Or.inr ⟨2, ⟨by decide +kernel, rfl⟩, rfl⟩
theorem d_M_textTold_30 : cd_D_if_ne b_M_textTold 30 51 33 := ⟨21, by decide +kernel, by decide, rfl⟩
theorem d_M_textTold_33 : cd_D_aload b_M_textTold 33 0 34 := Or.inr ⟨0, ⟨by decide +kernel, rfl⟩, rfl⟩
theorem d_M_textTold_34 : cd_D 3 b_M_textTold 34 (.getfield 9) 37 := ⟨by decide +kernel, rfl⟩
theorem d_M_textTold_37 : cd_Dk b_M_textTold 37 (nI 76) 39 := Or.inr (Or.inl ⟨76, ⟨by decide +kernel, rfl⟩, by decide +kernel⟩)
theorem d_M_textTold_39 : cd_Dk b_M_textTold 39 (nI 2) 40 := Or.inl ⟨2, ⟨by decide +kernel, rfl⟩, by decide +kernel⟩
theorem d_M_textTold_40 : cd_D_iload b_M_textTold 40 1 41 := Or.inr ⟨1, ⟨by decide +kernel, rfl⟩, rfl⟩
theorem d_M_textTold_41 : cd_D 1 b_M_textTold 41 .imul 42 := ⟨by decide +kernel, rfl⟩
theorem d_M_textTold_42 : cd_D 1 b_M_textTold 42 .iadd 43 := ⟨by decide +kernel, rfl⟩
theorem d_M_textTold_43 : cd_D 1 b_M_textTold 43 .iaload 44 := ⟨by decide +kernel, rfl⟩
theorem d_M_textTold_44 : cd_Dk b_M_textTold 44 (nI 1000) 47 := Or.inr (Or.inr ⟨1000, ⟨by decide +kernel, rfl⟩, by decide +kernel⟩)
theorem d_M_textTold_47 : cd_D 1 b_M_textTold 47 .idiv 48 := ⟨by decide +kernel, rfl⟩
theorem d_M_textTold_48 : cd_D_goto b_M_textTold 48 64 := ⟨16, by decide +kernel, by decide⟩
theorem d_M_textTold_51 : cd_D_aload b_M_textTold 51 0 52 := Or.inr ⟨0, ⟨by decide +kernel, rfl⟩, rfl⟩
theorem d_M_textTold_52 : cd_D 3 b_M_textTold 52 (.getfield 9) 55 := ⟨by decide +kernel, rfl⟩
theorem d_M_textTold_55 : cd_Dk b_M_textTold 55 (nI 76) 57 := Or.inr (Or.inl ⟨76, ⟨by decide +kernel, rfl⟩, by decide +kernel⟩)
theorem d_M_textTold_57 : cd_Dk b_M_textTold 57 (nI 2) 58 := Or.inl ⟨2, ⟨by decide +kernel, rfl⟩, by decide +kernel⟩
theorem d_M_textTold_58 : cd_D_iload b_M_textTold 58 1 59 := Or.inr ⟨1, ⟨by decide +kernel, rfl⟩, rfl⟩
theorem d_M_textTold_59 : cd_D 1 b_M_textTold 59 .imul 60 := ⟨by decide +kernel, rfl⟩
theorem d_M_textTold_60 : cd_D 1 b_M_textTold 60 .iadd 61 := ⟨by decide +kernel, rfl⟩
theorem d_M_textTold_61 : cd_Dk b_M_textTold 61 (nI 1) 62 := Or.inl ⟨1, ⟨by decide +kernel, rfl⟩, by decide +kernel⟩
theorem d_M_textTold_62 : cd_D 1 b_M_textTold 62 .iadd 63 := ⟨by decide +kernel, rfl⟩
theorem d_M_textTold_63 : cd_D 1 b_M_textTold 63 .iaload 64 := ⟨by decide +kernel, rfl⟩
theorem d_M_textTold_64 : cd_D 1 b_M_textTold 64 .ireturn 65 := ⟨by decide +kernel, rfl⟩
theorem c_M_textTold {l : Launch} {w : cd_WT} {S : cd_Sp} {I : cd_Mem} {m : Nat} (hM : cd_MO w S m) (mm tc : Nat) (hV : cd_V (I (m + 1)) mm tc) (t q : Int32) : cd_C l w m_M_textTold 1 0 0 [.ref m, .int t, .int q] S I (cd_Fi S (sp_textTold (I (m + 1)) t q) I) := by
  refine cd_intro (by decide) (by simp [Value.category]) (Nat.le_of_ble_eq_true rfl) ?_
  intro X hO hE
  show cd_J w X 0 0 S I 0 [some (.ref m), some (.int t), some (.int q)] []
  obtain ⟨hN1, hmm, hN15, htc, hTW⟩ := id hV
  refine r_iload hO d_M_textTold_0 rfl ?_
  refine r_k hO d_M_textTold_1 ?_
  refine r_aload hO d_M_textTold_2 rfl ?_
  refine r_getR hO f_M_9 rfl hM.2.1 (mo_r1 hM) d_M_textTold_3 ?_
  refine r_k hO d_M_textTold_6 ?_
  refine r_iald hO (mo_s1 hM) (by omega) (by decide) d_M_textTold_8 ?_
  refine r_k hO d_M_textTold_9 ?_
  refine r_isub hO d_M_textTold_10 ?_
  refine r_cS3fi hO hE (c_M_in _ _ _) mf_M_in lk_M_75 (by decide) rfl (Nat.le_of_ble_eq_true rfl) d_M_textTold_11 (Nat.zero_le _) (Nat.zero_le _) ?_
  refine r_if_eqB hO d_M_textTold_14 (fun c_14 => ?_) (fun c_14 => ?_)
  · refine r_ldc hO k_M_87 d_M_textTold_26 ?_
    refine r_iret hO hE (Nat.zero_le _) (Nat.zero_le _) d_M_textTold_28 ?_
    exact ⟨by unfold sp_textTold; rw [if_neg c_14], rfl, rfl⟩
  · obtain ⟨i, hi, rfl⟩ := cd_isT_ex hN15 htc c_14
    refine r_iload hO d_M_textTold_17 rfl ?_
    refine r_k hO d_M_textTold_18 ?_
    refine r_k hO d_M_textTold_19 ?_
    refine r_cS3fi hO hE (c_M_in _ _ _) mf_M_in lk_M_75 (by decide) rfl (Nat.le_of_ble_eq_true rfl) d_M_textTold_20 (Nat.zero_le _) (Nat.zero_le _) ?_
    refine r_if_neB hO d_M_textTold_23 (fun c_23 => ?_) (fun c_23 => ?_)
    · refine r_iload hO d_M_textTold_29 rfl ?_
      refine r_if_ne hO d_M_textTold_30 (fun c_30 => ?_) (fun c_30 => ?_)
      · refine r_aload hO d_M_textTold_51 rfl ?_
        refine r_getR hO f_M_9 rfl hM.2.1 (mo_r1 hM) d_M_textTold_52 ?_
        refine r_k hO d_M_textTold_55 ?_
        refine r_k hO d_M_textTold_57 ?_
        refine r_iload hO d_M_textTold_58 rfl ?_
        refine r_imulN hO d_M_textTold_59 ?_
        refine r_iaddN hO d_M_textTold_60 ?_
        refine r_k hO d_M_textTold_61 ?_
        refine r_iaddN hO d_M_textTold_62 ?_
        refine r_iald hO (mo_s1 hM) (by omega) (by decide) d_M_textTold_63 ?_
        refine r_iret hO hE (Nat.zero_le _) (Nat.zero_le _) d_M_textTold_64 ?_
        exact ⟨by unfold sp_textTold; rw [if_pos c_14, if_pos c_23, if_neg c_30, cd_tn_nI (by omega)], rfl, rfl⟩
      · refine r_aload hO d_M_textTold_33 rfl ?_
        refine r_getR hO f_M_9 rfl hM.2.1 (mo_r1 hM) d_M_textTold_34 ?_
        refine r_k hO d_M_textTold_37 ?_
        refine r_k hO d_M_textTold_39 ?_
        refine r_iload hO d_M_textTold_40 rfl ?_
        refine r_imulN hO d_M_textTold_41 ?_
        refine r_iaddN hO d_M_textTold_42 ?_
        refine r_iald hO (mo_s1 hM) (by omega) (by decide) d_M_textTold_43 ?_
        refine r_k hO d_M_textTold_44 ?_
        refine r_idiv hO d_M_textTold_47 (by decide) ?_
        refine r_goto hO d_M_textTold_48 ?_
        refine r_iret hO hE (Nat.zero_le _) (Nat.zero_le _) d_M_textTold_64 ?_
        exact ⟨by unfold sp_textTold; rw [if_pos c_14, if_pos c_23, if_pos c_30, cd_tn_nI (by omega)], rfl, rfl⟩
    · refine r_ldc hO k_M_87 d_M_textTold_26 ?_
      refine r_iret hO hE (Nat.zero_le _) (Nat.zero_le _) d_M_textTold_28 ?_
      exact ⟨by unfold sp_textTold; rw [if_pos c_14, if_neg c_23], rfl, rfl⟩
theorem d_M_trim_0 : cd_D_iload b_M_trim 0 1 1 := Or.inr ⟨1, ⟨by decide +kernel, rfl⟩, rfl⟩
theorem d_M_trim_1 : cd_Dk b_M_trim 1 (nI 0) 2 := Or.inl ⟨0, ⟨by decide +kernel, rfl⟩, by decide +kernel⟩
theorem d_M_trim_2 : cd_D_aload b_M_trim 2 0 3 := Or.inr ⟨0, ⟨by decide +kernel, rfl⟩, rfl⟩
theorem d_M_trim_3 : cd_D 3 b_M_trim 3 (.getfield 191) 6 := ⟨by decide +kernel, rfl⟩
theorem d_M_trim_6 : cd_D 3 b_M_trim 6 (.invokestatic 75) 9 := ⟨by decide +kernel, rfl⟩
theorem d_M_trim_9 : cd_D_if_ne b_M_trim 9 15 12 := ⟨6, by decide +kernel, by decide, rfl⟩
theorem d_M_trim_12 : cd_D 2 b_M_trim 12 (.ldc 87) 14 := ⟨by decide +kernel, rfl⟩
theorem d_M_trim_14 : cd_D 1 b_M_trim 14 .ireturn 15 := ⟨by decide +kernel, rfl⟩
theorem d_M_trim_15 : cd_D_aload b_M_trim 15 0 16 := Or.inr ⟨0, ⟨by decide +kernel, rfl⟩, rfl⟩
theorem d_M_trim_16 : cd_D_iload b_M_trim 16 1 17 := Or.inr ⟨1, ⟨by decide +kernel, rfl⟩, rfl⟩
theorem d_M_trim_17 : cd_D 3 b_M_trim 17 (.putfield 191) 20 := ⟨by decide +kernel, rfl⟩
theorem d_M_trim_20 : cd_D_iload b_M_trim 20 1 21 := Or.inr ⟨1, ⟨by decide +kernel, rfl⟩, rfl⟩
theorem d_M_trim_21 : cd_D 1 b_M_trim 21 .ireturn 22 := ⟨by decide +kernel, rfl⟩
theorem c_M_trim {l : Launch} {w : cd_WT} {S : cd_Sp} {I : cd_Mem} {m : Nat} (hM : cd_MO w S m) (n : Int32) : cd_C l w m_M_trim 1 0 0 [.ref m, .int n] S I (cd_Fi S (sp_trim (I m 6) n).1 (cd_set I m (upd (I m) 6 (sp_trim (I m 6) n).2))) := by
  refine cd_intro (by decide) (by simp [Value.category]) (Nat.le_of_ble_eq_true rfl) ?_
  intro X hO hE
  show cd_J w X 0 0 S I 0 [some (.ref m), some (.int n)] []
  refine r_iload hO d_M_trim_0 rfl ?_
  refine r_k hO d_M_trim_1 ?_
  refine r_aload hO d_M_trim_2 rfl ?_
  refine r_getI hO f_M_191 rfl hM.2.1 d_M_trim_3 ?_
  refine r_cS3fi hO hE (c_M_in _ _ _) mf_M_in lk_M_75 (by decide) rfl (Nat.le_of_ble_eq_true rfl) d_M_trim_6 (Nat.zero_le _) (Nat.zero_le _) ?_
  refine r_if_neB hO d_M_trim_9 (fun c_9 => ?_) (fun c_9 => ?_)
  · refine r_aload hO d_M_trim_15 rfl ?_
    refine r_iload hO d_M_trim_16 rfl ?_
    refine r_putI hO f_M_191 rfl hM.2.1 hM.1 d_M_trim_17 ?_
    refine r_iload hO d_M_trim_20 rfl ?_
    refine r_iret hO hE (Nat.zero_le _) (Nat.zero_le _) d_M_trim_21 ?_
    exact ⟨by unfold sp_trim; rw [if_pos c_9], rfl, by unfold sp_trim; rw [if_pos c_9]⟩
  · refine r_ldc hO k_M_87 d_M_trim_12 ?_
    refine r_iret hO hE (Nat.zero_le _) (Nat.zero_le _) d_M_trim_14 ?_
    exact ⟨by unfold sp_trim; rw [if_neg c_9], rfl, by unfold sp_trim; rw [if_neg c_9]; exact (cd_upd_self I m 6).symm⟩
theorem d_M_feed_0 : cd_D_aload b_M_feed 0 0 1 := Or.inr ⟨0, ⟨by decide +kernel, rfl⟩, rfl⟩
theorem d_M_feed_1 : cd_D 3 b_M_feed 1 (.getfield 191) 4 := ⟨by decide +kernel, rfl⟩
theorem d_M_feed_4 : cd_Dk b_M_feed 4 (nI 12) 6 := Or.inr (Or.inl ⟨12, ⟨by decide +kernel, rfl⟩, by decide +kernel⟩)
theorem d_M_feed_6 : cd_D 1 b_M_feed 6 .iadd 7 := ⟨by decide +kernel, rfl⟩
theorem d_M_feed_7 : cd_Dk b_M_feed 7 (nI 96) 9 := Or.inr (Or.inl ⟨96, ⟨by decide +kernel, rfl⟩, by decide +kernel⟩)
theorem d_M_feed_9 : cd_D_icmp_le b_M_feed 9 15 12 := ⟨6, by decide +kernel, by decide, rfl⟩
theorem d_M_feed_12 : cd_D 2 b_M_feed 12 (.ldc 88) 14 := ⟨by decide +kernel, rfl⟩
theorem d_M_feed_14 : cd_D 1 b_M_feed 14 .ireturn 15 := ⟨by decide +kernel, rfl⟩
theorem d_M_feed_15 : cd_Dk b_M_feed 15 (nI 0) 16 := Or.inl ⟨0, ⟨by decide +kernel, rfl⟩, by decide +kernel⟩
theorem d_M_feed_16 : cd_D_istore b_M_feed 16 4 18 := Or.inl ⟨by decide +kernel, rfl⟩
theorem d_M_feed_18 : cd_D_iload b_M_feed 18 4 20 := Or.inl ⟨by decide +kernel, rfl⟩
theorem d_M_feed_20 : cd_Dk b_M_feed 20 (nI 12) 22 := Or.inr (Or.inl ⟨12, ⟨by decide +kernel, rfl⟩, by decide +kernel⟩)
theorem d_M_feed_22 : cd_D_icmp_ge b_M_feed 22 84 25 := ⟨62, by decide +kernel, by decide, rfl⟩
theorem d_M_feed_25 : cd_D_iload b_M_feed 25 4 27 := Or.inl ⟨by decide +kernel, rfl⟩
theorem d_M_feed_27 : cd_Dk b_M_feed 27 (nI 4) 28 := Or.inl ⟨4, ⟨by decide +kernel, rfl⟩, by decide +kernel⟩
theorem d_M_feed_28 : cd_D_icmp_ge b_M_feed 28 35 31 := ⟨7, by decide +kernel, by decide, rfl⟩
theorem d_M_feed_31 : cd_D_iload b_M_feed 31 1 32 := Or.inr ⟨1, ⟨by decide +kernel, rfl⟩, rfl⟩
theorem d_M_feed_32 : cd_D_goto b_M_feed 32 47 := ⟨15, by decide +kernel, by decide⟩
theorem d_M_feed_35 : cd_D_iload b_M_feed 35 4 37 := Or.inl ⟨by decide +kernel, rfl⟩
theorem d_M_feed_37 : cd_Dk b_M_feed 37 (nI 8) 39 := Or.inr (Or.inl ⟨8, ⟨by decide +kernel, rfl⟩, by decide +kernel⟩)
theorem d_M_feed_39 : cd_D_icmp_ge b_M_feed 39 46 42 := ⟨7, by decide +kernel, by decide, rfl⟩
theorem d_M_feed_42 : cd_D_iload b_M_feed 42 2 43 := Or.inr ⟨2, ⟨by decide +kernel, rfl⟩, rfl⟩
theorem d_M_feed_43 : cd_D_goto b_M_feed 43 47 := ⟨4, by decide +kernel, by decide⟩
theorem d_M_feed_46 : cd_D_iload b_M_feed 46 3 47 := Or.inr ⟨3, ⟨by decide +kernel, rfl⟩, rfl⟩
theorem d_M_feed_47 : cd_D_istore b_M_feed 47 5 49 := Or.inl ⟨by decide +kernel, rfl⟩
theorem d_M_feed_49 : cd_D_aload b_M_feed 49 0 50 := Or.inr ⟨0, ⟨by decide +kernel, rfl⟩, rfl⟩
theorem d_M_feed_50 : cd_D 3 b_M_feed 50 (.getfield 22) 53 := ⟨by decide +kernel, rfl⟩
theorem d_M_feed_53 : cd_D_aload b_M_feed 53 0 54 := Or.inr ⟨0, ⟨by decide +kernel, rfl⟩, rfl⟩
theorem d_M_feed_54 : cd_D 3 b_M_feed 54 (.getfield 191) 57 := ⟨by decide +kernel, rfl⟩
theorem d_M_feed_57 : cd_D_iload b_M_feed 57 4 59 := Or.inl ⟨by decide +kernel, rfl⟩
theorem d_M_feed_59 : cd_D 1 b_M_feed 59 .iadd 60 := ⟨by decide +kernel, rfl⟩
theorem d_M_feed_60 : cd_D_iload b_M_feed 60 5 62 := Or.inl ⟨by decide +kernel, rfl⟩
theorem d_M_feed_62 : cd_Dk b_M_feed 62 (nI 24) 64 := Or.inr (Or.inl ⟨24, ⟨by decide +kernel, rfl⟩, by decide +kernel⟩)
theorem d_M_feed_64 : cd_Dk b_M_feed 64 (nI 8) 66 := Or.inr (Or.inl ⟨8, ⟨by decide +kernel, rfl⟩, by decide +kernel⟩)
theorem d_M_feed_66 : cd_D_iload b_M_feed 66 4 68 := Or.inl ⟨by decide +kernel, rfl⟩
theorem d_M_feed_68 : cd_Dk b_M_feed 68 (nI 4) 69 := Or.inl ⟨4, ⟨by decide +kernel, rfl⟩, by decide +kernel⟩
theorem d_M_feed_69 : cd_D 1 b_M_feed 69 .irem 70 := ⟨by decide +kernel, rfl⟩
theorem d_M_feed_70 : cd_D 1 b_M_feed 70 .imul 71 := ⟨by decide +kernel, rfl⟩
theorem d_M_feed_71 : cd_D 1 b_M_feed 71 .isub 72 := ⟨by decide +kernel, rfl⟩
theorem d_M_feed_72 : cd_D 1 b_M_feed 72 .ishr 73 := ⟨by decide +kernel, rfl⟩
theorem d_M_feed_73 : cd_Dk b_M_feed 73 (nI 255) 76 := Or.inr (Or.inr ⟨255, ⟨by decide +kernel, rfl⟩, by decide +kernel⟩)
theorem d_M_feed_76 : cd_D 1 b_M_feed 76 .iand 77 := ⟨by decide +kernel, rfl⟩
theorem d_M_feed_77 : cd_D 1 b_M_feed 77 .iastore 78 := ⟨by decide +kernel, rfl⟩
theorem d_M_feed_78 : cd_D 3 b_M_feed 78 (.iinc 4 (1)) 81 := ⟨by decide +kernel, rfl⟩
theorem d_M_feed_81 : cd_D_goto b_M_feed 81 18 := ⟨-63, by decide +kernel, by decide⟩
theorem d_M_feed_84 : cd_D_aload b_M_feed 84 0 85 := Or.inr ⟨0, ⟨by decide +kernel, rfl⟩, rfl⟩
theorem d_M_feed_85 : cd_D 1 b_M_feed 85 .dup 86 := ⟨by decide +kernel, rfl⟩
theorem d_M_feed_86 : cd_D 3 b_M_feed 86 (.getfield 191) 89 := ⟨by decide +kernel, rfl⟩
theorem d_M_feed_89 : cd_Dk b_M_feed 89 (nI 12) 91 := Or.inr (Or.inl ⟨12, ⟨by decide +kernel, rfl⟩, by decide +kernel⟩)
theorem d_M_feed_91 : cd_D 1 b_M_feed 91 .iadd 92 := ⟨by decide +kernel, rfl⟩
theorem d_M_feed_92 : cd_D 3 b_M_feed 92 (.putfield 191) 95 := ⟨by decide +kernel, rfl⟩
theorem d_M_feed_95 : cd_D_aload b_M_feed 95 0 96 := Or.inr ⟨0, ⟨by decide +kernel, rfl⟩, rfl⟩
theorem d_M_feed_96 : cd_D 3 b_M_feed 96 (.getfield 191) 99 := ⟨by decide +kernel, rfl⟩
theorem d_M_feed_99 : cd_D 1 b_M_feed 99 .ireturn 100 := ⟨by decide +kernel, rfl⟩
theorem c_M_feed {l : Launch} {w : cd_WT} {S : cd_Sp} {I : cd_Mem} {m : Nat} (hM : cd_MO w S m) (L : Nat) (hL6 : I m 6 = nI L) (hL9 : L ≤ 96) (a b c : Int32) : cd_C l w m_M_feed 0 0 0 [.ref m, .int a, .int b, .int c] S I (cd_Fi S (if L ≤ 84 then nI (L + 12) else cd_FULL) (if L ≤ 84 then cd_set (cd_set I (m + 5) (cd_fr (I (m + 5)) L a b c 12)) m (upd (I m) 6 (nI (L + 12))) else I)) := by
  refine cd_intro (by decide) (by simp [Value.category]) (Nat.le_of_ble_eq_true rfl) ?_
  intro X hO hE
  show cd_J w X 0 0 S I 0 [some (.ref m), some (.int a), some (.int b), some (.int c), none, none] []
  have loop : ∀ (r k : Nat) (x5 : Option Value), L + 12 ≤ 96 → k + r = 12 → cd_J w X 0 0 S (cd_set I (m + 5) (cd_fr (I (m + 5)) L a b c k)) 18 [some (.ref m), some (.int a), some (.int b), some (.int c), some (.int (nI k)), x5] [] := by
    intro r
    induction r with
    | zero =>
      intro k x5 hL hk
      have hk2 : k = 12 := by omega
      subst hk2
      refine r_iload hO d_M_feed_18 rfl ?_
      refine r_k hO d_M_feed_20 ?_
      refine r_icmp_ge hO d_M_feed_22 (fun c_22 => ?_) (fun c_22 => ?_)
      · refine r_aload hO d_M_feed_84 rfl ?_
        refine r_dup hO d_M_feed_85 rfl ?_
        refine r_getI hO f_M_191 rfl hM.2.1 d_M_feed_86 ?_
        try simp (disch := omega) only [cd_set_eq, cd_set_ne, cd_set_set]
        refine r_tops hL6 ?_
        refine r_k hO d_M_feed_89 ?_
        refine r_iaddN hO d_M_feed_91 ?_
        refine r_putI hO f_M_191 rfl hM.2.1 hM.1 d_M_feed_92 ?_
        try simp (disch := omega) only [cd_set_eq, cd_set_ne, cd_set_set]
        refine r_aload hO d_M_feed_95 rfl ?_
        refine r_getI hO f_M_191 rfl hM.2.1 d_M_feed_96 ?_
        try simp (disch := omega) only [cd_set_eq, cd_set_ne, cd_set_set]
        refine r_iret hO hE (Nat.zero_le _) (Nat.zero_le _) d_M_feed_99 ?_
        exact ⟨by rw [if_pos (show L ≤ 84 by omega)]; simp [upd], rfl, by rw [if_pos (show L ≤ 84 by omega)]⟩
      · exact absurd (nI_le (Nat.le_refl _) (by omega)) c_22
    | succ r ih =>
      intro k x5 hL hk
      refine r_iload hO d_M_feed_18 rfl ?_
      refine r_k hO d_M_feed_20 ?_
      refine r_icmp_ge hO d_M_feed_22 (fun c_22 => ?_) (fun c_22 => ?_)
      · exact absurd c_22 (nI_ge (by omega) (by omega))
      · refine r_iload hO d_M_feed_25 rfl ?_
        refine r_k hO d_M_feed_27 ?_
        refine r_jn2 (pcJ := 47) (fun v => v = if 4 ≤ k then (if 8 ≤ k then c else b) else a) (fun v_28 hv_28 => ?_) (fun hj_28 => ?_)
        · subst hv_28
          refine r_sI5 hO d_M_feed_47 rfl ?_
          refine r_aload hO d_M_feed_49 rfl ?_
          refine r_getR hO f_M_22 rfl hM.2.1 (mo_r5 hM) d_M_feed_50 ?_
          try simp (disch := omega) only [cd_set_eq, cd_set_ne, cd_set_set]
          refine r_aload hO d_M_feed_53 rfl ?_
          refine r_getI hO f_M_191 rfl hM.2.1 d_M_feed_54 ?_
          try simp (disch := omega) only [cd_set_eq, cd_set_ne, cd_set_set]
          refine r_tops hL6 ?_
          refine r_iload hO d_M_feed_57 rfl ?_
          refine r_iaddN hO d_M_feed_59 ?_
          refine r_iload hO d_M_feed_60 rfl ?_
          refine r_k hO d_M_feed_62 ?_
          refine r_k hO d_M_feed_64 ?_
          refine r_iload hO d_M_feed_66 rfl ?_
          refine r_k hO d_M_feed_68 ?_
          refine r_iremN hO d_M_feed_69 (by omega) (by omega) (by omega) ?_
          refine r_imulN hO d_M_feed_70 ?_
          refine r_isubN hO d_M_feed_71 (by omega) ?_
          refine r_ishr hO d_M_feed_72 ?_
          refine r_k hO d_M_feed_73 ?_
          refine r_iand hO d_M_feed_76 ?_
          refine r_iast hO (mo_s5 hM) (mo_l5 hM) (by omega) (by decide) d_M_feed_77 ?_
          try simp (disch := omega) only [cd_set_eq, cd_set_ne, cd_set_set]
          refine r_incN4 hO d_M_feed_78 rfl ?_
          refine r_goto hO d_M_feed_81 ?_
          exact ih (k + 1) _ hL (by omega)
        · refine r_icmp_ge hO d_M_feed_28 (fun c_28 => ?_) (fun c_28 => ?_)
          · refine r_iload hO d_M_feed_35 rfl ?_
            refine r_k hO d_M_feed_37 ?_
            refine r_icmp_ge hO d_M_feed_39 (fun c_39 => ?_) (fun c_39 => ?_)
            · refine r_iload hO d_M_feed_46 rfl ?_
              exact hj_28 _ (by rw [if_pos (cd_le_of (by omega) c_28), if_pos (cd_le_of (by omega) c_39)])
            · refine r_iload hO d_M_feed_42 rfl ?_
              refine r_goto hO d_M_feed_43 ?_
              exact hj_28 _ (by rw [if_pos (cd_le_of (by omega) c_28), if_neg (cd_nle_of (by omega) c_39)])
          · refine r_iload hO d_M_feed_31 rfl ?_
            refine r_goto hO d_M_feed_32 ?_
            exact hj_28 _ (by rw [if_neg (cd_nle_of (by omega) c_28)])
  refine r_aload hO d_M_feed_0 rfl ?_
  refine r_getI hO f_M_191 rfl hM.2.1 d_M_feed_1 ?_
  refine r_tops hL6 ?_
  refine r_k hO d_M_feed_4 ?_
  refine r_iaddN hO d_M_feed_6 ?_
  refine r_k hO d_M_feed_7 ?_
  refine r_icmp_le hO d_M_feed_9 (fun c_9 => ?_) (fun c_9 => ?_)
  · refine r_k hO d_M_feed_15 ?_
    refine r_sI4 hO d_M_feed_16 rfl ?_
    refine r_mem (show I = cd_set I (m + 5) (cd_fr (I (m + 5)) L a b c 0) from (cd_set_self _ _).symm) ?_
    exact loop 12 0 _ (Nat.le_of_not_lt (fun q => absurd c_9 (nI_ge q (by omega)))) (by decide)
  · have hL8 : ¬ L ≤ 84 := fun q => c_9 (nI_le (by omega) (by decide))
    refine r_ldc hO k_M_88 d_M_feed_12 ?_
    refine r_iret hO hE (Nat.zero_le _) (Nat.zero_le _) d_M_feed_14 ?_
    exact ⟨by rw [if_neg hL8], rfl, by rw [if_neg hL8]⟩
