def cd_bm (f : Nat → Int32) : Nat → Int32 × Int32
  | 0 => (-1, nI 0)
  | p + 1 => if (cd_bm f p).1 < 0 then (nI p, f p) else if (cd_bm f p).2 ≤ f p then cd_bm f p else (nI p, f p)
theorem cd_bm_a {f : Nat → Int32} {k : Nat} {b l x : Int32} (hb : cd_bm f k = (b, l)) (hx : x = f k) (h : b < 0) : cd_bm f (k + 1) = (nI k, x) := by
  show (if (cd_bm f k).1 < 0 then _ else _) = _
  rw [hb, if_pos h, hx]
theorem cd_bm_b {f : Nat → Int32} {k : Nat} {b l x : Int32} (hb : cd_bm f k = (b, l)) (hx : x = f k) (h : ¬ b < 0) (h2 : l ≤ x) : cd_bm f (k + 1) = (b, l) := by
  show (if (cd_bm f k).1 < 0 then _ else if (cd_bm f k).2 ≤ f k then cd_bm f k else _) = _
  rw [hb, if_neg h, if_pos (by rw [← hx]; exact h2)]
theorem cd_bm_c {f : Nat → Int32} {k : Nat} {b l x : Int32} (hb : cd_bm f k = (b, l)) (hx : x = f k) (h : ¬ b < 0) (h2 : ¬ l ≤ x) : cd_bm f (k + 1) = (nI k, x) := by
  show (if (cd_bm f k).1 < 0 then _ else if (cd_bm f k).2 ≤ f k then cd_bm f k else _) = _
  rw [hb, if_neg h, if_neg (by rw [← hx]; exact h2), hx]
def sp_firm (N : Nat → Int32) (mm tc : Nat) (n q : Int32) : Int32 := if nI 1 ≤ n ∧ n ≤ nI 48 then (if nI 0 ≤ q ∧ q ≤ nI 1 then (if q = 0 then (cd_bm (fun p => cd_hb (cd_hs (upd N 3 (nI p)) mm tc (cd_tn n)) mm) 100).1 else (cd_bm (fun p => cd_hb (cd_hs (upd N 3 (nI p)) mm tc (cd_tn n)) mm) 100).2) else cd_BAD) else cd_BAD
def sp_heard (N : Nat → Int32) (mm tc : Nat) (n q : Int32) : Int32 := if nI 1 ≤ n ∧ n ≤ nI 100 then (if nI 0 ≤ q ∧ q ≤ nI 1 then (if 0 ≤ (cd_bm (fun p => cd_hs (upd N (16 + 5 * p + 2) (nI 0)) mm tc (cd_tn n) 10) mm).1 then (if q = 0 then (cd_bm (fun p => cd_hs (upd N (16 + 5 * p + 2) (nI 0)) mm tc (cd_tn n) 10) mm).1 else (cd_bm (fun p => cd_hs (upd N (16 + 5 * p + 2) (nI 0)) mm tc (cd_tn n) 10) mm).2) else cd_NONE) else cd_BAD) else cd_BAD
def sp_givenIn (N : Nat → Int32) (mm tc : Nat) (n a : Int32) : Int32 := if nI 1 ≤ n ∧ n ≤ nI 100 then (if cd_isA N a then cd_hb (cd_hs (cd_le N (cd_tn a)) mm tc (cd_tn n)) mm - cd_hb (cd_hs N mm tc (cd_tn n)) mm else cd_BAD) else cd_BAD
def cd_la (N : Nat → Int32) (mm tc : Nat) : Nat → Int32
  | 0 => nI 0
  | k + 1 => cd_la N mm tc k + (nI 1 - cd_hs N mm tc (k + 1) 7)
def sp_lamp (N : Nat → Int32) (mm tc : Nat) (n : Int32) : Int32 := if nI 1 ≤ n ∧ n ≤ nI 100 then cd_la N mm tc (cd_tn n) else cd_BAD
def sp_saved (N : Nat → Int32) (mm tc : Nat) (n : Int32) : Int32 := if nI 1 ≤ n ∧ n ≤ nI 100 then cd_hs (upd N 6 (nI 0)) mm tc (cd_tn n) 10 - cd_hs (upd N 6 (nI 1)) mm tc (cd_tn n) 10 else cd_BAD
/-- off some rows, and the row now as it was -/
theorem cd_off_in {I I1 I2 : cd_Mem} {m : Nat} (ho1 : cd_off I I1 [m + 4, m + 11, m + 12]) (h2 : I2 (m + 1) = I (m + 1)) (ho2 : cd_off I1 I2 [m + 1, m + 11, m + 12]) : cd_off I I2 [m + 4, m + 11, m + 12] := fun b hb => by
  by_cases hb1 : b = m + 1
  · subst hb1; exact h2
  · exact (ho2 b (by simp at hb ⊢; omega)).trans (ho1 b hb)
theorem d_M_saved_0 : cd_D_iload b_M_saved 0 1 1 := Or.inr ⟨1, ⟨by decide +kernel, rfl⟩, rfl⟩
theorem d_M_saved_1 : cd_Dk b_M_saved 1 (nI 1) 2 := Or.inl ⟨1, ⟨by decide +kernel, rfl⟩, by decide +kernel⟩
theorem d_M_saved_2 : cd_Dk b_M_saved 2 (nI 100) 4 := Or.inr (Or.inl ⟨100, ⟨by decide +kernel, rfl⟩, by decide +kernel⟩)
theorem d_M_saved_4 : cd_D 3 b_M_saved 4 (.invokestatic 75) 7 := ⟨by decide +kernel, rfl⟩
theorem d_M_saved_7 : cd_D_if_ne b_M_saved 7 13 10 := ⟨6, by decide +kernel, by decide, rfl⟩
theorem d_M_saved_10 : cd_D 2 b_M_saved 10 (.ldc 87) 12 := ⟨by decide +kernel, rfl⟩
theorem d_M_saved_12 : cd_D 1 b_M_saved 12 .ireturn 13 := ⟨by decide +kernel, rfl⟩
theorem d_M_saved_13 : cd_D_aload b_M_saved 13 0 14 := Or.inr ⟨0, ⟨by decide +kernel, rfl⟩, rfl⟩
theorem d_M_saved_14 : cd_D 3 b_M_saved 14 (.invokevirtual 170) 17 := ⟨by decide +kernel, rfl⟩
theorem d_M_saved_17 : cd_D_aload b_M_saved 17 0 18 := Or.inr ⟨0, ⟨by decide +kernel, rfl⟩, rfl⟩
theorem d_M_saved_18 : cd_D 3 b_M_saved 18 (.getfield 9) 21 := ⟨by decide +kernel, rfl⟩
theorem d_M_saved_21 : cd_Dk b_M_saved 21 (nI 6) 23 := Or.inr (Or.inl ⟨6, ⟨by decide +kernel, rfl⟩, by decide +kernel⟩)
theorem d_M_saved_23 : cd_Dk b_M_saved 23 (nI 0) 24 := Or.inl ⟨0, ⟨by decide +kernel, rfl⟩, by decide +kernel⟩
theorem d_M_saved_24 : cd_D 1 b_M_saved 24 .iastore 25 := ⟨by decide +kernel, rfl⟩
theorem d_M_saved_25 : cd_D_aload b_M_saved 25 0 26 := Or.inr ⟨0, ⟨by decide +kernel, rfl⟩, rfl⟩
theorem d_M_saved_26 : cd_D_iload b_M_saved 26 1 27 := Or.inr ⟨1, ⟨by decide +kernel, rfl⟩, rfl⟩
theorem d_M_saved_27 : cd_D 3 b_M_saved 27 (.invokevirtual 180) 30 := ⟨by decide +kernel, rfl⟩
theorem d_M_saved_30 : cd_D_istore b_M_saved 30 2 31 := Or.inr ⟨2, ⟨by decide +kernel, rfl⟩, rfl⟩
theorem d_M_saved_31 : cd_D_aload b_M_saved 31 0 32 := Or.inr ⟨0, ⟨by decide +kernel, rfl⟩, rfl⟩
theorem d_M_saved_32 : cd_D 3 b_M_saved 32 (.getfield 9) 35 := ⟨by decide +kernel, rfl⟩
theorem d_M_saved_35 : cd_Dk b_M_saved 35 (nI 6) 37 := Or.inr (Or.inl ⟨6, ⟨by decide +kernel, rfl⟩, by decide +kernel⟩)
theorem d_M_saved_37 : cd_Dk b_M_saved 37 (nI 1) 38 := Or.inl ⟨1, ⟨by decide +kernel, rfl⟩, by decide +kernel⟩
theorem d_M_saved_38 : cd_D 1 b_M_saved 38 .iastore 39 := ⟨by decide +kernel, rfl⟩
theorem d_M_saved_39 : cd_D_iload b_M_saved 39 2 40 := Or.inr ⟨2, ⟨by decide +kernel, rfl⟩, rfl⟩
theorem d_M_saved_40 : cd_D_aload b_M_saved 40 0 41 := Or.inr ⟨0, ⟨by decide +kernel, rfl⟩, rfl⟩
theorem d_M_saved_41 : cd_D_iload b_M_saved 41 1 42 := Or.inr ⟨1, ⟨by decide +kernel, rfl⟩, rfl⟩
theorem d_M_saved_42 : cd_D 3 b_M_saved 42 (.invokevirtual 180) 45 := ⟨by decide +kernel, rfl⟩
theorem d_M_saved_45 : cd_D 1 b_M_saved 45 .isub 46 := ⟨by decide +kernel, rfl⟩
theorem d_M_saved_46 : cd_D 1 b_M_saved 46 .ireturn 47 := ⟨by decide +kernel, rfl⟩
theorem c_M_saved {l : Launch} {w : cd_WT} {S : cd_Sp} {I : cd_Mem} {m : Nat} (hM : cd_MO w S m) (mm tc : Nat) (hV : cd_V (I (m + 1)) mm tc) (n : Int32) : cd_C l w m_M_saved 8 0 0 [.ref m, .int n] S I (cd_Pi S (fun x I' => x = sp_saved (I (m + 1)) mm tc n ∧ cd_off I I' [m + 4, m + 11, m + 12])) := by
  refine cd_intro (by decide) (by simp [Value.category]) (Nat.le_of_ble_eq_true rfl) ?_
  intro X hO hE
  show cd_J w X 0 0 S I 0 [some (.ref m), some (.int n), none] []
  refine r_iload hO d_M_saved_0 rfl ?_
  refine r_k hO d_M_saved_1 ?_
  refine r_k hO d_M_saved_2 ?_
  refine r_cS3fi hO hE (c_M_in _ _ _) mf_M_in lk_M_75 (by decide) rfl (Nat.le_of_ble_eq_true rfl) d_M_saved_4 (Nat.zero_le _) (Nat.zero_le _) ?_
  refine r_if_neB hO d_M_saved_7 (fun c_7 => ?_) (fun c_7 => ?_)
  · obtain ⟨z, hz1, hz2, rfl⟩ := cd_in_ex c_7 (by decide) (by decide)
    refine r_aload hO d_M_saved_13 rfl ?_
    refine r_cV0fv hO hE (c_M_thinks hM) mf_M_thinks lk_M_170 hM.2.1 rfl (by decide) rfl (Nat.le_of_ble_eq_true rfl) d_M_saved_14 (Nat.zero_le _) (Nat.zero_le _) ?_
    refine r_gen (fun I1 hI1 => ?_)
    have h1 : I1 (m + 1) = I (m + 1) := by rw [hI1, cd_set_ne _ _ (by omega)]
    have hB : ∀ j, j < 76 → I1 (m + 4) j = I (m + 1) j := fun j hj => by rw [hI1, cd_set_eq]; exact if_pos hj
    have ho1 : cd_off I I1 [m + 4, m + 11, m + 12] := by rw [hI1]; exact cd_off.set _ _ (by simp)
    have hV1 : cd_V (I1 (m + 1)) mm tc := by rw [h1]; exact hV
    refine r_aload hO d_M_saved_17 rfl ?_
    refine r_getR hO f_M_9 rfl hM.2.1 (mo_r1 hM) d_M_saved_18 ?_
    refine r_k hO d_M_saved_21 ?_
    refine r_k hO d_M_saved_23 ?_
    refine r_iast hO (mo_s1 hM) (mo_l1 hM) (by omega) (by decide) d_M_saved_24 ?_
    refine r_aload hO d_M_saved_25 rfl ?_
    refine r_iload hO d_M_saved_26 rfl ?_
    refine r_cV1i hO hE (c_M_risingsBehind hM mm tc z (by rw [cd_set_eq, h1]; exact cd_V_upd hV (by decide) (by decide) (by decide)) (by omega) (I (m + 1)) (fun j hj => by rw [cd_set_ne _ _ (by omega)]; exact hB j hj) (fun j hj => by rw [cd_set_eq, h1]; exact if_neg (by omega))) mf_M_risingsBehind lk_M_180 hM.2.1 rfl (by decide) rfl (Nat.le_of_ble_eq_true rfl) d_M_saved_27 (Nat.zero_le _) (Nat.zero_le _) ?_
    rintro x I2 ⟨hx, h2, ho2⟩
    rw [cd_set_eq, h1] at hx
    have hB2 : ∀ j, j < 76 → I2 (m + 4) j = I (m + 1) j := fun j hj => by rw [ho2 _ (by simp), cd_set_ne _ _ (by omega)]; exact hB j hj
    have ho12 : cd_off I1 I2 [m + 1, m + 11, m + 12] := (cd_off.set _ _ (by simp)).tr ho2
    refine r_sI2 hO d_M_saved_30 rfl ?_
    refine r_aload hO d_M_saved_31 rfl ?_
    refine r_getR hO f_M_9 rfl hM.2.1 (mo_r1 hM) d_M_saved_32 ?_
    refine r_k hO d_M_saved_35 ?_
    refine r_k hO d_M_saved_37 ?_
    refine r_iast hO (mo_s1 hM) (mo_l1 hM) (by omega) (by decide) d_M_saved_38 ?_
    refine r_iload hO d_M_saved_39 rfl ?_
    refine r_aload hO d_M_saved_40 rfl ?_
    refine r_iload hO d_M_saved_41 rfl ?_
    refine r_cV1i hO hE (c_M_risingsBehind hM mm tc z (by rw [cd_set_eq, h2]; exact cd_V_upd hV (by decide) (by decide) (by decide)) (by omega) (I (m + 1)) (fun j hj => by rw [cd_set_ne _ _ (by omega)]; exact hB2 j hj) (fun j hj => by rw [cd_set_eq, h2]; exact if_neg (by omega))) mf_M_risingsBehind lk_M_180 hM.2.1 rfl (by decide) rfl (Nat.le_of_ble_eq_true rfl) d_M_saved_42 (Nat.zero_le _) (Nat.zero_le _) ?_
    rintro y I3 ⟨hy, h3, ho3⟩
    rw [cd_set_eq, h2] at hy
    refine r_isub hO d_M_saved_45 ?_
    refine r_iret hO hE (Nat.zero_le _) (Nat.zero_le _) d_M_saved_46 ?_
    exact ⟨_, rfl, rfl, by unfold sp_saved; rw [if_pos c_7, cd_tn_nI (by omega), hx, hy], cd_off_in ho1 h3 (ho12.tr ((cd_off.set _ _ (by simp)).tr ho3))⟩
  · refine r_ldc hO k_M_87 d_M_saved_10 ?_
    refine r_iret hO hE (Nat.zero_le _) (Nat.zero_le _) d_M_saved_12 ?_
    exact ⟨_, rfl, rfl, by unfold sp_saved; rw [if_neg c_7], cd_off.rf _ _⟩
theorem d_M_givenIn_0 : cd_D_iload b_M_givenIn 0 1 1 := Or.inr ⟨1, ⟨by decide +kernel, rfl⟩, rfl⟩
theorem d_M_givenIn_1 : cd_Dk b_M_givenIn 1 (nI 1) 2 := Or.inl ⟨1, ⟨by decide +kernel, rfl⟩, by decide +kernel⟩
theorem d_M_givenIn_2 : cd_Dk b_M_givenIn 2 (nI 100) 4 := Or.inr (Or.inl ⟨100, ⟨by decide +kernel, rfl⟩, by decide +kernel⟩)
theorem d_M_givenIn_4 : cd_D 3 b_M_givenIn 4 (.invokestatic 75) 7 := ⟨by decide +kernel, rfl⟩
theorem d_M_givenIn_7 : cd_D_if_eq b_M_givenIn 7 18 10 := ⟨11, by decide +kernel, by decide, rfl⟩
theorem d_M_givenIn_10 : cd_D_aload b_M_givenIn 10 0 11 := Or.inr ⟨0, ⟨by decide +kernel, rfl⟩, rfl⟩
theorem d_M_givenIn_11 : cd_D_iload b_M_givenIn 11 2 12 := Or.inr ⟨2, ⟨by decide +kernel, rfl⟩, rfl⟩
theorem d_M_givenIn_12 : cd_D 3 b_M_givenIn 12 (.invokevirtual 108) 15 := ⟨by decide +kernel, rfl⟩
theorem d_M_givenIn_15 : cd_D_if_ne b_M_givenIn 15 21 18 := ⟨6, by decide +kernel, by decide, rfl⟩
theorem d_M_givenIn_18 : cd_D 2 b_M_givenIn 18 (.ldc 87) 20 := ⟨by decide +kernel, rfl⟩
theorem d_M_givenIn_20 : cd_D 1 b_M_givenIn 20 .ireturn 21 := ⟨by decide +kernel, rfl⟩
theorem d_M_givenIn_21 : cd_D_aload b_M_givenIn 21 0 22 := Or.inr ⟨0, ⟨by decide +kernel, rfl⟩, rfl⟩
theorem d_M_givenIn_22 : cd_D 3 b_M_givenIn 22 (.invokevirtual 170) 25 := ⟨by decide +kernel, rfl⟩
theorem d_M_givenIn_25 : cd_D_aload b_M_givenIn 25 0 26 := Or.inr ⟨0, ⟨by decide +kernel, rfl⟩, rfl⟩
theorem d_M_givenIn_26 : cd_D_iload b_M_givenIn 26 1 27 := Or.inr ⟨1, ⟨by decide +kernel, rfl⟩, rfl⟩
theorem d_M_givenIn_27 : cd_D 3 b_M_givenIn 27 (.invokevirtual 177) 30 := ⟨by decide +kernel, rfl⟩
theorem d_M_givenIn_30 : cd_D_istore b_M_givenIn 30 3 31 := Or.inr ⟨3, ⟨by decide +kernel, rfl⟩, rfl⟩
theorem d_M_givenIn_31 : cd_D_aload b_M_givenIn 31 0 32 := Or.inr ⟨0, ⟨by decide +kernel, rfl⟩, rfl⟩
theorem d_M_givenIn_32 : cd_D_iload b_M_givenIn 32 2 33 := Or.inr ⟨2, ⟨by decide +kernel, rfl⟩, rfl⟩
theorem d_M_givenIn_33 : cd_D 3 b_M_givenIn 33 (.invokevirtual 145) 36 := ⟨by decide +kernel, rfl⟩
theorem d_M_givenIn_36 : cd_D_aload b_M_givenIn 36 0 37 := Or.inr ⟨0, ⟨by decide +kernel, rfl⟩, rfl⟩
theorem d_M_givenIn_37 : cd_D_iload b_M_givenIn 37 1 38 := Or.inr ⟨1, ⟨by decide +kernel, rfl⟩, rfl⟩
theorem d_M_givenIn_38 : cd_D 3 b_M_givenIn 38 (.invokevirtual 177) 41 := ⟨by decide +kernel, rfl⟩
theorem d_M_givenIn_41 : cd_D_iload b_M_givenIn 41 3 42 := Or.inr ⟨3, ⟨by decide +kernel, rfl⟩, rfl⟩
theorem d_M_givenIn_42 : cd_D 1 b_M_givenIn 42 .isub 43 := ⟨by decide +kernel, rfl⟩
theorem d_M_givenIn_43 : cd_D 1 b_M_givenIn 43 .ireturn 44 := ⟨by decide +kernel, rfl⟩
theorem c_M_givenIn {l : Launch} {w : cd_WT} {S : cd_Sp} {I : cd_Mem} {m : Nat} (hM : cd_MO w S m) (mm tc : Nat) (hV : cd_V (I (m + 1)) mm tc) (n a : Int32) : cd_C l w m_M_givenIn 8 0 0 [.ref m, .int n, .int a] S I (cd_Pi S (fun x I' => x = sp_givenIn (I (m + 1)) mm tc n a ∧ cd_off I I' [m + 4, m + 11, m + 12])) := by
  refine cd_intro (by decide) (by simp [Value.category]) (Nat.le_of_ble_eq_true rfl) ?_
  intro X hO hE
  show cd_J w X 0 0 S I 0 [some (.ref m), some (.int n), some (.int a), none] []
  refine r_iload hO d_M_givenIn_0 rfl ?_
  refine r_k hO d_M_givenIn_1 ?_
  refine r_k hO d_M_givenIn_2 ?_
  refine r_cS3fi hO hE (c_M_in _ _ _) mf_M_in lk_M_75 (by decide) rfl (Nat.le_of_ble_eq_true rfl) d_M_givenIn_4 (Nat.zero_le _) (Nat.zero_le _) ?_
  refine r_if_eqB hO d_M_givenIn_7 (fun c_7 => ?_) (fun c_7 => ?_)
  · refine r_ldc hO k_M_87 d_M_givenIn_18 ?_
    refine r_iret hO hE (Nat.zero_le _) (Nat.zero_le _) d_M_givenIn_20 ?_
    exact ⟨_, rfl, rfl, by unfold sp_givenIn; rw [if_neg c_7], cd_off.rf _ _⟩
  · obtain ⟨z, hz1, hz2, rfl⟩ := cd_in_ex c_7 (by decide) (by decide)
    refine r_aload hO d_M_givenIn_10 rfl ?_
    refine r_iload hO d_M_givenIn_11 rfl ?_
    refine r_cV1fi hO hE (c_M_isAsking hM _) mf_M_isAsking lk_M_108 hM.2.1 rfl (by decide) rfl (Nat.le_of_ble_eq_true rfl) d_M_givenIn_12 (Nat.zero_le _) (Nat.zero_le _) ?_
    refine r_if_neB hO d_M_givenIn_15 (fun c_15 => ?_) (fun c_15 => ?_)
    · obtain ⟨i, hi, rfl⟩ := cd_isA_ex hV.1 hV.2.1 c_15
      have hmm := hV.2.1
      refine r_aload hO d_M_givenIn_21 rfl ?_
      refine r_cV0fv hO hE (c_M_thinks hM) mf_M_thinks lk_M_170 hM.2.1 rfl (by decide) rfl (Nat.le_of_ble_eq_true rfl) d_M_givenIn_22 (Nat.zero_le _) (Nat.zero_le _) ?_
      refine r_gen (fun I1 hI1 => ?_)
      have h1 : I1 (m + 1) = I (m + 1) := by rw [hI1, cd_set_ne _ _ (by omega)]
      have hB : ∀ j, j < 76 → I1 (m + 4) j = I (m + 1) j := fun j hj => by rw [hI1, cd_set_eq]; exact if_pos hj
      have ho1 : cd_off I I1 [m + 4, m + 11, m + 12] := by rw [hI1]; exact cd_off.set _ _ (by simp)
      have hV1 : cd_V (I1 (m + 1)) mm tc := by rw [h1]; exact hV
      refine r_aload hO d_M_givenIn_25 rfl ?_
      refine r_iload hO d_M_givenIn_26 rfl ?_
      refine r_cV1i hO hE (c_M_habitsBehind hM mm tc z hV1 (by omega) (I (m + 1)) hB (fun j hj => by rw [h1])) mf_M_habitsBehind lk_M_177 hM.2.1 rfl (by decide) rfl (Nat.le_of_ble_eq_true rfl) d_M_givenIn_27 (Nat.zero_le _) (Nat.zero_le _) ?_
      rintro x I2 ⟨hx, h2, ho2⟩
      rw [h1] at hx
      have hB2 : ∀ j, j < 76 → I2 (m + 4) j = I (m + 1) j := fun j hj => by rw [ho2 _ (by simp)]; exact hB j hj
      refine r_sI3 hO d_M_givenIn_30 rfl ?_
      refine r_aload hO d_M_givenIn_31 rfl ?_
      refine r_iload hO d_M_givenIn_32 rfl ?_
      refine r_cV1fv hO hE (c_M_learns hM _ (by omega)) mf_M_learns lk_M_145 hM.2.1 rfl (by decide) rfl (Nat.le_of_ble_eq_true rfl) d_M_givenIn_33 (Nat.zero_le _) (Nat.zero_le _) ?_
      refine r_aload hO d_M_givenIn_36 rfl ?_
      refine r_iload hO d_M_givenIn_37 rfl ?_
      refine r_cV1i hO hE (c_M_habitsBehind hM mm tc z (by rw [cd_set_eq, h2]; exact hV.kq (kq_le _ (by omega))) (by omega) (I (m + 1)) (fun j hj => by rw [cd_set_ne _ _ (by omega)]; exact hB2 j hj) (fun j hj => by rw [cd_set_eq, h2]; exact kq_le _ (by omega) j (by omega))) mf_M_habitsBehind lk_M_177 hM.2.1 rfl (by decide) rfl (Nat.le_of_ble_eq_true rfl) d_M_givenIn_38 (Nat.zero_le _) (Nat.zero_le _) ?_
      rintro y I3 ⟨hy, h3, ho3⟩
      rw [cd_set_eq, h2] at hy
      refine r_iload hO d_M_givenIn_41 rfl ?_
      refine r_isub hO d_M_givenIn_42 ?_
      refine r_iret hO hE (Nat.zero_le _) (Nat.zero_le _) d_M_givenIn_43 ?_
      exact ⟨_, rfl, rfl, by unfold sp_givenIn; rw [if_pos c_7, if_pos c_15, cd_tn_nI (by omega), cd_tn_nI (by omega), hx, hy], cd_off_in ho1 h3 (ho2.tr ((cd_off.set _ _ (by simp)).tr ho3))⟩
    · refine r_ldc hO k_M_87 d_M_givenIn_18 ?_
      refine r_iret hO hE (Nat.zero_le _) (Nat.zero_le _) d_M_givenIn_20 ?_
      exact ⟨_, rfl, rfl, by unfold sp_givenIn; rw [if_pos c_7, if_neg c_15], cd_off.rf _ _⟩
theorem d_M_lamp_0 : cd_D_iload b_M_lamp 0 1 1 := Or.inr ⟨1, ⟨by decide +kernel, rfl⟩, rfl⟩
theorem d_M_lamp_1 : cd_Dk b_M_lamp 1 (nI 1) 2 := Or.inl ⟨1, ⟨by decide +kernel, rfl⟩, by decide +kernel⟩
theorem d_M_lamp_2 : cd_Dk b_M_lamp 2 (nI 100) 4 := Or.inr (Or.inl ⟨100, ⟨by decide +kernel, rfl⟩, by decide +kernel⟩)
theorem d_M_lamp_4 : cd_D 3 b_M_lamp 4 (.invokestatic 75) 7 := ⟨by decide +kernel, rfl⟩
theorem d_M_lamp_7 : cd_D_if_ne b_M_lamp 7 13 10 := ⟨6, by decide +kernel, by decide, rfl⟩
theorem d_M_lamp_10 : cd_D 2 b_M_lamp 10 (.ldc 87) 12 := ⟨by decide +kernel, rfl⟩
theorem d_M_lamp_12 : cd_D 1 b_M_lamp 12 .ireturn 13 := ⟨by decide +kernel, rfl⟩
theorem d_M_lamp_13 : cd_D_aload b_M_lamp 13 0 14 := Or.inr ⟨0, ⟨by decide +kernel, rfl⟩, rfl⟩
theorem d_M_lamp_14 : cd_D 3 b_M_lamp 14 (.invokevirtual 170) 17 := ⟨by decide +kernel, rfl⟩
theorem d_M_lamp_17 : cd_Dk b_M_lamp 17 (nI 0) 18 := Or.inl ⟨0, ⟨by decide +kernel, rfl⟩, by decide +kernel⟩
theorem d_M_lamp_18 : cd_D_istore b_M_lamp 18 2 19 := Or.inr ⟨2, ⟨by decide +kernel, rfl⟩, rfl⟩
theorem d_M_lamp_19 : cd_Dk b_M_lamp 19 (nI 0) 20 := Or.inl ⟨0, ⟨by decide +kernel, rfl⟩, by decide +kernel⟩
theorem d_M_lamp_20 : cd_D_istore b_M_lamp 20 3 21 := Or.inr ⟨3, ⟨by decide +kernel, rfl⟩, rfl⟩
theorem d_M_lamp_21 : cd_D_iload b_M_lamp 21 3 22 := Or.inr ⟨3, ⟨by decide +kernel, rfl⟩, rfl⟩
theorem d_M_lamp_22 : cd_D_iload b_M_lamp 22 1 23 := Or.inr ⟨1, ⟨by decide +kernel, rfl⟩, rfl⟩
theorem d_M_lamp_23 : cd_D_icmp_ge b_M_lamp 23 48 26 := ⟨25, by decide +kernel, by decide, rfl⟩
theorem d_M_lamp_26 : cd_D_aload b_M_lamp 26 0 27 := Or.inr ⟨0, ⟨by decide +kernel, rfl⟩, rfl⟩
theorem d_M_lamp_27 : cd_D 3 b_M_lamp 27 (.invokevirtual 158) 30 := ⟨by decide +kernel, rfl⟩
theorem d_M_lamp_30 : cd_D_iload b_M_lamp 30 2 31 := Or.inr ⟨2, ⟨by decide +kernel, rfl⟩, rfl⟩
theorem d_M_lamp_31 : cd_Dk b_M_lamp 31 (nI 1) 32 := Or.inl ⟨1, ⟨by decide +kernel, rfl⟩, by decide +kernel⟩
theorem d_M_lamp_32 : cd_D_aload b_M_lamp 32 0 33 := Or.inr ⟨0, ⟨by decide +kernel, rfl⟩, rfl⟩
theorem d_M_lamp_33 : cd_D 3 b_M_lamp 33 (.getfield 9) 36 := ⟨by decide +kernel, rfl⟩
theorem d_M_lamp_36 : cd_Dk b_M_lamp 36 (nI 7) 38 := Or.inr (Or.inl ⟨7, ⟨by decide +kernel, rfl⟩, by decide +kernel⟩)
theorem d_M_lamp_38 : cd_D 1 b_M_lamp 38 .iaload 39 := ⟨by decide +kernel, rfl⟩
theorem d_M_lamp_39 : cd_D 1 b_M_lamp 39 .isub 40 := ⟨by decide +kernel, rfl⟩
theorem d_M_lamp_40 : cd_D 1 b_M_lamp 40 .iadd 41 := ⟨by decide +kernel, rfl⟩
theorem d_M_lamp_41 : cd_D_istore b_M_lamp 41 2 42 := Or.inr ⟨2, ⟨by decide +kernel, rfl⟩, rfl⟩
theorem d_M_lamp_42 : cd_D 3 b_M_lamp 42 (.iinc 3 (1)) 45 := ⟨by decide +kernel, rfl⟩
theorem d_M_lamp_45 : cd_D_goto b_M_lamp 45 21 := ⟨-24, by decide +kernel, by decide⟩
theorem d_M_lamp_48 : cd_D_aload b_M_lamp 48 0 49 := Or.inr ⟨0, ⟨by decide +kernel, rfl⟩, rfl⟩
theorem d_M_lamp_49 : cd_D 3 b_M_lamp 49 (.invokevirtual 173) 52 := ⟨by decide +kernel, rfl⟩
theorem d_M_lamp_52 : cd_D_iload b_M_lamp 52 2 53 := Or.inr ⟨2, ⟨by decide +kernel, rfl⟩, rfl⟩
theorem d_M_lamp_53 : cd_D 1 b_M_lamp 53 .ireturn 54 := ⟨by decide +kernel, rfl⟩
theorem c_M_lamp {l : Launch} {w : cd_WT} {S : cd_Sp} {I : cd_Mem} {m : Nat} (hM : cd_MO w S m) (mm tc : Nat) (hV : cd_V (I (m + 1)) mm tc) (n : Int32) : cd_C l w m_M_lamp 6 0 0 [.ref m, .int n] S I (cd_Pi S (fun x I' => x = sp_lamp (I (m + 1)) mm tc n ∧ cd_off I I' [m + 4, m + 11, m + 12])) := by
  refine cd_intro (by decide) (by simp [Value.category]) (Nat.le_of_ble_eq_true rfl) ?_
  intro X hO hE
  show cd_J w X 0 0 S I 0 [some (.ref m), some (.int n), none, none] []
  have hmm := hV.2.1
  have loop : ∀ (I1 : cd_Mem), I1 (m + 1) = I (m + 1) → (∀ j, j < 76 → I1 (m + 4) j = I (m + 1) j) → cd_off I I1 [m + 4, m + 11, m + 12] → ∀ (z : Nat) (hz : z ≤ 100) (hp : sp_lamp (I (m + 1)) mm tc n = cd_la (I (m + 1)) mm tc z) (r k : Nat) (I2 : cd_Mem), k + r = z → I2 (m + 1) = cd_hs (I (m + 1)) mm tc k → cd_off I1 I2 [m + 1, m + 11, m + 12] → cd_J w X 0 0 S I2 21 [some (.ref m), some (.int (nI z)), some (.int (cd_la (I (m + 1)) mm tc k)), some (.int (nI k))] [] := by
    intro I1 h1 hB ho1 z hz hp r
    induction r with
    | zero =>
      intro k I2 hk h2 ho
      have hkz : k = z := by omega
      subst hkz
      have hback : cd_cp 76 (I2 (m + 4)) (I2 (m + 1)) = I (m + 1) := by rw [ho (m + 4) (by simp), h2]; exact cd_cp_back hB (fun j hj => kq_hs _ hV.2.1 tc k j (by omega))
      refine r_iload hO d_M_lamp_21 rfl ?_
      refine r_iload hO d_M_lamp_22 rfl ?_
      refine r_icmp_ge hO d_M_lamp_23 (fun c_23 => ?_) (fun c_23 => ?_)
      · refine r_aload hO d_M_lamp_48 rfl ?_
        refine r_cV0fv hO hE (c_M_putsBack hM) mf_M_putsBack lk_M_173 hM.2.1 rfl (by decide) rfl (Nat.le_of_ble_eq_true rfl) d_M_lamp_49 (Nat.zero_le _) (Nat.zero_le _) ?_
        rw [hback]
        refine r_iload hO d_M_lamp_52 rfl ?_
        refine r_iret hO hE (Nat.zero_le _) (Nat.zero_le _) d_M_lamp_53 ?_
        exact ⟨_, rfl, rfl, hp.symm, cd_off_in ho1 (cd_set_eq _ _ _) (ho.tr (cd_off.set _ _ (by simp)))⟩
      · exact absurd (nI_le (Nat.le_refl _) (by omega)) c_23
    | succ r ih =>
      intro k I2 hk h2 ho
      refine r_iload hO d_M_lamp_21 rfl ?_
      refine r_iload hO d_M_lamp_22 rfl ?_
      refine r_icmp_ge hO d_M_lamp_23 (fun c_23 => ?_) (fun c_23 => ?_)
      · exact absurd c_23 (nI_ge (by omega) (by omega))
      · refine r_aload hO d_M_lamp_26 rfl ?_
        refine r_cV0v hO hE (c_M_hour hM mm tc (by rw [h2]; exact hV.kq (kq_hs _ hmm tc k))) mf_M_hour lk_M_158 hM.2.1 rfl (by decide) rfl (Nat.le_of_ble_eq_true rfl) d_M_lamp_27 (Nat.zero_le _) (Nat.zero_le _) ?_
        rintro I3 ⟨h3, ho3⟩
        rw [h2] at h3
        refine r_iload hO d_M_lamp_30 rfl ?_
        refine r_k hO d_M_lamp_31 ?_
        refine r_aload hO d_M_lamp_32 rfl ?_
        refine r_getR hO f_M_9 rfl hM.2.1 (mo_r1 hM) d_M_lamp_33 ?_
        refine r_k hO d_M_lamp_36 ?_
        refine r_iald hO (mo_s1 hM) (by omega) (by decide) d_M_lamp_38 ?_
        rw [h3]
        refine r_isub hO d_M_lamp_39 ?_
        refine r_iadd hO d_M_lamp_40 ?_
        refine r_sI2 hO d_M_lamp_41 rfl ?_
        refine r_incN3 hO d_M_lamp_42 rfl ?_
        refine r_goto hO d_M_lamp_45 ?_
        exact ih (k + 1) I3 (by omega) h3 (ho.tr ho3)
  refine r_iload hO d_M_lamp_0 rfl ?_
  refine r_k hO d_M_lamp_1 ?_
  refine r_k hO d_M_lamp_2 ?_
  refine r_cS3fi hO hE (c_M_in _ _ _) mf_M_in lk_M_75 (by decide) rfl (Nat.le_of_ble_eq_true rfl) d_M_lamp_4 (Nat.zero_le _) (Nat.zero_le _) ?_
  refine r_if_neB hO d_M_lamp_7 (fun c_7 => ?_) (fun c_7 => ?_)
  · obtain ⟨z, hz1, hz2, rfl⟩ := cd_in_ex c_7 (by decide) (by decide)
    refine r_aload hO d_M_lamp_13 rfl ?_
    refine r_cV0fv hO hE (c_M_thinks hM) mf_M_thinks lk_M_170 hM.2.1 rfl (by decide) rfl (Nat.le_of_ble_eq_true rfl) d_M_lamp_14 (Nat.zero_le _) (Nat.zero_le _) ?_
    refine r_gen (fun I1 hI1 => ?_)
    have h1 : I1 (m + 1) = I (m + 1) := by rw [hI1, cd_set_ne _ _ (by omega)]
    have hB : ∀ j, j < 76 → I1 (m + 4) j = I (m + 1) j := fun j hj => by rw [hI1, cd_set_eq]; exact if_pos hj
    have ho1 : cd_off I I1 [m + 4, m + 11, m + 12] := by rw [hI1]; exact cd_off.set _ _ (by simp)
    have hV1 : cd_V (I1 (m + 1)) mm tc := by rw [h1]; exact hV
    refine r_k hO d_M_lamp_17 ?_
    refine r_sI2 hO d_M_lamp_18 rfl ?_
    refine r_k hO d_M_lamp_19 ?_
    refine r_sI3 hO d_M_lamp_20 rfl ?_
    exact loop I1 h1 hB ho1 z (by omega) (by unfold sp_lamp; rw [if_pos c_7, cd_tn_nI (by omega)]) z 0 I1 (Nat.zero_add _) h1 (cd_off.rf _ _)
  · refine r_ldc hO k_M_87 d_M_lamp_10 ?_
    refine r_iret hO hE (Nat.zero_le _) (Nat.zero_le _) d_M_lamp_12 ?_
    exact ⟨_, rfl, rfl, by unfold sp_lamp; rw [if_neg c_7], cd_off.rf _ _⟩
theorem d_M_firm_0 : cd_D_iload b_M_firm 0 1 1 := Or.inr ⟨1, ⟨by decide +kernel, rfl⟩, rfl⟩
theorem d_M_firm_1 : cd_Dk b_M_firm 1 (nI 1) 2 := Or.inl ⟨1, ⟨by decide +kernel, rfl⟩, by decide +kernel⟩
theorem d_M_firm_2 : cd_Dk b_M_firm 2 (nI 48) 4 := Or.inr (Or.inl ⟨48, ⟨by decide +kernel, rfl⟩, by decide +kernel⟩)
theorem d_M_firm_4 : cd_D 3 b_M_firm 4 (.invokestatic 75) 7 := ⟨by decide +kernel, rfl⟩
theorem d_M_firm_7 : cd_D_if_eq b_M_firm 7 19 10 := ⟨12, by decide +kernel, by decide, rfl⟩
theorem d_M_firm_10 : cd_D_iload b_M_firm 10 2 11 := Or.inr ⟨2, ⟨by decide +kernel, rfl⟩, rfl⟩
theorem d_M_firm_11 : cd_Dk b_M_firm 11 (nI 0) 12 := Or.inl ⟨0, ⟨by decide +kernel, rfl⟩, by decide +kernel⟩
theorem d_M_firm_12 : cd_Dk b_M_firm 12 (nI 1) 13 := Or.inl ⟨1, ⟨by decide +kernel, rfl⟩, by decide +kernel⟩
theorem d_M_firm_13 : cd_D 3 b_M_firm 13 (.invokestatic 75) 16 := ⟨by decide +kernel, rfl⟩
theorem d_M_firm_16 : cd_D_if_ne b_M_firm 16 22 19 := ⟨6, by decide +kernel, by decide, rfl⟩
theorem d_M_firm_19 : cd_D 2 b_M_firm 19 (.ldc 87) 21 := ⟨by decide +kernel, rfl⟩
theorem d_M_firm_21 : cd_D 1 b_M_firm 21 .ireturn 22 := ⟨by decide +kernel, rfl⟩
theorem d_M_firm_22 : cd_D_aload b_M_firm 22 0 23 := Or.inr ⟨0, ⟨by decide +kernel, rfl⟩, rfl⟩
theorem d_M_firm_23 : cd_D 3 b_M_firm 23 (.invokevirtual 170) 26 := ⟨by decide +kernel, rfl⟩
theorem d_M_firm_26 : cd_Dk b_M_firm 26 (-1) 27 := Or.inl ⟨-1, ⟨by decide +kernel, rfl⟩, by decide +kernel⟩
theorem d_M_firm_27 : cd_D_istore b_M_firm 27 3 28 := Or.inr ⟨3, ⟨by decide +kernel, rfl⟩, rfl⟩
theorem d_M_firm_28 : cd_Dk b_M_firm 28 (nI 0) 29 := Or.inl ⟨0, ⟨by decide +kernel, rfl⟩, by decide +kernel⟩
theorem d_M_firm_29 : cd_D_istore b_M_firm 29 4 31 := Or.inl ⟨by decide +kernel, rfl⟩
theorem d_M_firm_31 : cd_Dk b_M_firm 31 (nI 0) 32 := Or.inl ⟨0, ⟨by decide +kernel, rfl⟩, by decide +kernel⟩
theorem d_M_firm_32 : cd_D_istore b_M_firm 32 5 34 := Or.inl ⟨by decide +kernel, rfl⟩
theorem d_M_firm_34 : cd_D_iload b_M_firm 34 5 36 := Or.inl ⟨by decide +kernel, rfl⟩
theorem d_M_firm_36 : cd_Dk b_M_firm 36 (nI 100) 38 := Or.inr (Or.inl ⟨100, ⟨by decide +kernel, rfl⟩, by decide +kernel⟩)
theorem d_M_firm_38 : cd_D_icmp_ge b_M_firm 38 80 41 := ⟨42, by decide +kernel, by decide, rfl⟩
theorem d_M_firm_41 : cd_D_aload b_M_firm 41 0 42 := Or.inr ⟨0, ⟨by decide +kernel, rfl⟩, rfl⟩
theorem d_M_firm_42 : cd_D 3 b_M_firm 42 (.getfield 9) 45 := ⟨by decide +kernel, rfl⟩
theorem d_M_firm_45 : cd_Dk b_M_firm 45 (nI 3) 46 := Or.inl ⟨3, ⟨by decide +kernel, rfl⟩, by decide +kernel⟩
theorem d_M_firm_46 : cd_D_iload b_M_firm 46 5 48 := Or.inl ⟨by decide +kernel, rfl⟩
theorem d_M_firm_48 : cd_D 1 b_M_firm 48 .iastore 49 := ⟨by decide +kernel, rfl⟩
theorem d_M_firm_49 : cd_D_aload b_M_firm 49 0 50 := Or.inr ⟨0, ⟨by decide +kernel, rfl⟩, rfl⟩
theorem d_M_firm_50 : cd_D_iload b_M_firm 50 1 51 := Or.inr ⟨1, ⟨by decide +kernel, rfl⟩, rfl⟩
theorem d_M_firm_51 : cd_D 3 b_M_firm 51 (.invokevirtual 177) 54 := ⟨by decide +kernel, rfl⟩
theorem d_M_firm_54 : cd_D_istore b_M_firm 54 6 56 := Or.inl ⟨by decide +kernel, rfl⟩
theorem d_M_firm_56 : cd_D_iload b_M_firm 56 3 57 := Or.inr ⟨3, ⟨by decide +kernel, rfl⟩, rfl⟩
theorem d_M_firm_57 : cd_D_if_lt b_M_firm 57 67 60 := ⟨10, by decide +kernel, by decide, rfl⟩
theorem d_M_firm_60 : cd_D_iload b_M_firm 60 6 62 := Or.inl ⟨by decide +kernel, rfl⟩
theorem d_M_firm_62 : cd_D_iload b_M_firm 62 4 64 := Or.inl ⟨by decide +kernel, rfl⟩
theorem d_M_firm_64 : cd_D_icmp_ge b_M_firm 64 74 67 := ⟨10, by decide +kernel, by decide, rfl⟩
theorem d_M_firm_67 : cd_D_iload b_M_firm 67 5 69 := Or.inl ⟨by decide +kernel, rfl⟩
theorem d_M_firm_69 : cd_D_istore b_M_firm 69 3 70 := Or.inr ⟨3, ⟨by decide +kernel, rfl⟩, rfl⟩
theorem d_M_firm_70 : cd_D_iload b_M_firm 70 6 72 := Or.inl ⟨by decide +kernel, rfl⟩
theorem d_M_firm_72 : cd_D_istore b_M_firm 72 4 74 := Or.inl ⟨by decide +kernel, rfl⟩
theorem d_M_firm_74 : cd_D 3 b_M_firm 74 (.iinc 5 (1)) 77 := ⟨by decide +kernel, rfl⟩
theorem d_M_firm_77 : cd_D_goto b_M_firm 77 34 := ⟨-43, by decide +kernel, by decide⟩
theorem d_M_firm_80 : cd_D_iload b_M_firm 80 2 81 := Or.inr ⟨2, ⟨by decide +kernel, rfl⟩, rfl⟩
theorem d_M_firm_81 : cd_D_if_ne b_M_firm 81 88 84 := ⟨7, by decide +kernel, by decide, rfl⟩
theorem d_M_firm_84 : cd_D_iload b_M_firm 84 3 85 := Or.inr ⟨3, ⟨by decide +kernel, rfl⟩, rfl⟩
theorem d_M_firm_85 : cd_D_goto b_M_firm 85 90 := ⟨5, by decide +kernel, by decide⟩
theorem d_M_firm_88 : cd_D_iload b_M_firm 88 4 90 := Or.inl ⟨by decide +kernel, rfl⟩
theorem d_M_firm_90 : cd_D 1 b_M_firm 90 .ireturn 91 := ⟨by decide +kernel, rfl⟩
theorem c_M_firm {l : Launch} {w : cd_WT} {S : cd_Sp} {I : cd_Mem} {m : Nat} (hM : cd_MO w S m) (mm tc : Nat) (hV : cd_V (I (m + 1)) mm tc) (n q : Int32) : cd_C l w m_M_firm 8 0 0 [.ref m, .int n, .int q] S I (cd_Pi S (fun x I' => x = sp_firm (I (m + 1)) mm tc n q ∧ cd_off I I' [m + 4, m + 11, m + 12])) := by
  refine cd_intro (by decide) (by simp [Value.category]) (Nat.le_of_ble_eq_true rfl) ?_
  intro X hO hE
  show cd_J w X 0 0 S I 0 [some (.ref m), some (.int n), some (.int q), none, none, none, none] []
  have hmm := hV.2.1
  have loop : ∀ (I1 : cd_Mem), I1 (m + 1) = I (m + 1) → (∀ j, j < 76 → I1 (m + 4) j = I (m + 1) j) → cd_off I I1 [m + 4, m + 11, m + 12] → ∀ (z : Nat) (hz : z ≤ 100) (hp : sp_firm (I (m + 1)) mm tc n q = (if q = 0 then (cd_bm (fun p => cd_hb (cd_hs (upd (I (m + 1)) 3 (nI p)) mm tc z) mm) 100).1 else (cd_bm (fun p => cd_hb (cd_hs (upd (I (m + 1)) 3 (nI p)) mm tc z) mm) 100).2)) (r k : Nat) (I2 : cd_Mem) (x6 : Option Value) (bb bl : Int32), cd_bm (fun p => cd_hb (cd_hs (upd (I (m + 1)) 3 (nI p)) mm tc z) mm) k = (bb, bl) → k + r = 100 → I2 (m + 1) = I (m + 1) → cd_off I1 I2 [m + 1, m + 11, m + 12] → cd_J w X 0 0 S I2 34 [some (.ref m), some (.int (nI z)), some (.int q), some (.int bb), some (.int bl), some (.int (nI k)), x6] [] := by
    intro I1 h1 hB ho1 z hz hp r
    induction r with
    | zero =>
      intro k I2 x6 bb bl hb hk h2 ho
      have hkz : k = 100 := by omega
      rw [hkz] at hb
      rw [hkz]
      rw [hb] at hp
      refine r_iload hO d_M_firm_34 rfl ?_
      refine r_k hO d_M_firm_36 ?_
      refine r_icmp_ge hO d_M_firm_38 (fun c_38 => ?_) (fun c_38 => ?_)
      · refine r_iload hO d_M_firm_80 rfl ?_
        refine r_if_ne hO d_M_firm_81 (fun c_81 => ?_) (fun c_81 => ?_)
        · refine r_iload hO d_M_firm_88 rfl ?_
          refine r_iret hO hE (Nat.zero_le _) (Nat.zero_le _) d_M_firm_90 ?_
          exact ⟨_, rfl, rfl, by rw [hp, if_neg c_81], cd_off_in ho1 h2 ho⟩
        · refine r_iload hO d_M_firm_84 rfl ?_
          refine r_goto hO d_M_firm_85 ?_
          refine r_iret hO hE (Nat.zero_le _) (Nat.zero_le _) d_M_firm_90 ?_
          exact ⟨_, rfl, rfl, by rw [hp, if_pos c_81], cd_off_in ho1 h2 ho⟩
      · exact absurd (nI_le (Nat.le_refl _) (by decide)) c_38
    | succ r ih =>
      intro k I2 x6 bb bl hb hk h2 ho
      have hB2 : ∀ j, j < 76 → I2 (m + 4) j = I (m + 1) j := fun j hj => by rw [ho _ (by simp)]; exact hB j hj
      refine r_iload hO d_M_firm_34 rfl ?_
      refine r_k hO d_M_firm_36 ?_
      refine r_icmp_ge hO d_M_firm_38 (fun c_38 => ?_) (fun c_38 => ?_)
      · exact absurd c_38 (nI_ge (by omega) (by decide))
      · refine r_aload hO d_M_firm_41 rfl ?_
        refine r_getR hO f_M_9 rfl hM.2.1 (mo_r1 hM) d_M_firm_42 ?_
        refine r_k hO d_M_firm_45 ?_
        refine r_iload hO d_M_firm_46 rfl ?_
        refine r_iast hO (mo_s1 hM) (mo_l1 hM) (by omega) (by decide) d_M_firm_48 ?_
        refine r_aload hO d_M_firm_49 rfl ?_
        refine r_iload hO d_M_firm_50 rfl ?_
        refine r_cV1i hO hE (c_M_habitsBehind hM mm tc z (by rw [cd_set_eq, h2]; exact cd_V_upd hV (by omega) (by omega) (by omega)) (by omega) (I (m + 1)) (fun j hj => by rw [cd_set_ne _ _ (by omega)]; exact hB2 j hj) (fun j hj => by rw [cd_set_eq, h2]; exact if_neg (by omega))) mf_M_habitsBehind lk_M_177 hM.2.1 rfl (by decide) rfl (Nat.le_of_ble_eq_true rfl) d_M_firm_51 (Nat.zero_le _) (Nat.zero_le _) ?_
        rintro x I3 ⟨hx, h3, ho3⟩
        rw [cd_set_eq, h2] at hx
        have ho4 : cd_off I1 I3 [m + 1, m + 11, m + 12] := ho.tr ((cd_off.set _ _ (by simp)).tr ho3)
        refine r_sI6 hO d_M_firm_54 rfl ?_
        refine r_iload hO d_M_firm_56 rfl ?_
        refine r_if_lt hO d_M_firm_57 (fun c_57 => ?_) (fun c_57 => ?_)
        · refine r_iload hO d_M_firm_67 rfl ?_
          refine r_sI3 hO d_M_firm_69 rfl ?_
          refine r_iload hO d_M_firm_70 rfl ?_
          refine r_sI4 hO d_M_firm_72 rfl ?_
          refine r_incN5 hO d_M_firm_74 rfl ?_
          refine r_goto hO d_M_firm_77 ?_
          exact ih (k + 1) I3 _ _ _ (cd_bm_a hb hx c_57) (by omega) h3 ho4
        · refine r_iload hO d_M_firm_60 rfl ?_
          refine r_iload hO d_M_firm_62 rfl ?_
          refine r_icmp_ge hO d_M_firm_64 (fun c_64 => ?_) (fun c_64 => ?_)
          · refine r_incN5 hO d_M_firm_74 rfl ?_
            refine r_goto hO d_M_firm_77 ?_
            exact ih (k + 1) I3 _ _ _ (cd_bm_b hb hx c_57 c_64) (by omega) h3 ho4
          · refine r_iload hO d_M_firm_67 rfl ?_
            refine r_sI3 hO d_M_firm_69 rfl ?_
            refine r_iload hO d_M_firm_70 rfl ?_
            refine r_sI4 hO d_M_firm_72 rfl ?_
            refine r_incN5 hO d_M_firm_74 rfl ?_
            refine r_goto hO d_M_firm_77 ?_
            exact ih (k + 1) I3 _ _ _ (cd_bm_c hb hx c_57 c_64) (by omega) h3 ho4
  refine r_iload hO d_M_firm_0 rfl ?_
  refine r_k hO d_M_firm_1 ?_
  refine r_k hO d_M_firm_2 ?_
  refine r_cS3fi hO hE (c_M_in _ _ _) mf_M_in lk_M_75 (by decide) rfl (Nat.le_of_ble_eq_true rfl) d_M_firm_4 (Nat.zero_le _) (Nat.zero_le _) ?_
  refine r_if_eqB hO d_M_firm_7 (fun c_7 => ?_) (fun c_7 => ?_)
  · refine r_ldc hO k_M_87 d_M_firm_19 ?_
    refine r_iret hO hE (Nat.zero_le _) (Nat.zero_le _) d_M_firm_21 ?_
    exact ⟨_, rfl, rfl, by unfold sp_firm; rw [if_neg c_7], cd_off.rf _ _⟩
  · obtain ⟨z, hz1, hz2, rfl⟩ := cd_in_ex c_7 (by decide) (by decide)
    refine r_iload hO d_M_firm_10 rfl ?_
    refine r_k hO d_M_firm_11 ?_
    refine r_k hO d_M_firm_12 ?_
    refine r_cS3fi hO hE (c_M_in _ _ _) mf_M_in lk_M_75 (by decide) rfl (Nat.le_of_ble_eq_true rfl) d_M_firm_13 (Nat.zero_le _) (Nat.zero_le _) ?_
    refine r_if_neB hO d_M_firm_16 (fun c_16 => ?_) (fun c_16 => ?_)
    · refine r_aload hO d_M_firm_22 rfl ?_
      refine r_cV0fv hO hE (c_M_thinks hM) mf_M_thinks lk_M_170 hM.2.1 rfl (by decide) rfl (Nat.le_of_ble_eq_true rfl) d_M_firm_23 (Nat.zero_le _) (Nat.zero_le _) ?_
      refine r_gen (fun I1 hI1 => ?_)
      have h1 : I1 (m + 1) = I (m + 1) := by rw [hI1, cd_set_ne _ _ (by omega)]
      have hB : ∀ j, j < 76 → I1 (m + 4) j = I (m + 1) j := fun j hj => by rw [hI1, cd_set_eq]; exact if_pos hj
      have ho1 : cd_off I I1 [m + 4, m + 11, m + 12] := by rw [hI1]; exact cd_off.set _ _ (by simp)
      have hV1 : cd_V (I1 (m + 1)) mm tc := by rw [h1]; exact hV
      refine r_k hO d_M_firm_26 ?_
      refine r_sI3 hO d_M_firm_27 rfl ?_
      refine r_k hO d_M_firm_28 ?_
      refine r_sI4 hO d_M_firm_29 rfl ?_
      refine r_k hO d_M_firm_31 ?_
      refine r_sI5 hO d_M_firm_32 rfl ?_
      exact loop I1 h1 hB ho1 z (by omega) (by unfold sp_firm; rw [if_pos c_7, if_pos c_16, cd_tn_nI (by omega)]) 100 0 I1 _ _ _ rfl (Nat.zero_add _) h1 (cd_off.rf _ _)
    · refine r_ldc hO k_M_87 d_M_firm_19 ?_
      refine r_iret hO hE (Nat.zero_le _) (Nat.zero_le _) d_M_firm_21 ?_
      exact ⟨_, rfl, rfl, by unfold sp_firm; rw [if_pos c_7, if_neg c_16], cd_off.rf _ _⟩
theorem d_M_heard_0 : cd_D_iload b_M_heard 0 1 1 := Or.inr ⟨1, ⟨by decide +kernel, rfl⟩, rfl⟩
theorem d_M_heard_1 : cd_Dk b_M_heard 1 (nI 1) 2 := Or.inl ⟨1, ⟨by decide +kernel, rfl⟩, by decide +kernel⟩
theorem d_M_heard_2 : cd_Dk b_M_heard 2 (nI 100) 4 := Or.inr (Or.inl ⟨100, ⟨by decide +kernel, rfl⟩, by decide +kernel⟩)
theorem d_M_heard_4 : cd_D 3 b_M_heard 4 (.invokestatic 75) 7 := ⟨by decide +kernel, rfl⟩
theorem d_M_heard_7 : cd_D_if_eq b_M_heard 7 19 10 := ⟨12, by decide +kernel, by decide, rfl⟩
theorem d_M_heard_10 : cd_D_iload b_M_heard 10 2 11 := Or.inr ⟨2, ⟨by decide +kernel, rfl⟩, rfl⟩
theorem d_M_heard_11 : cd_Dk b_M_heard 11 (nI 0) 12 := Or.inl ⟨0, ⟨by decide +kernel, rfl⟩, by decide +kernel⟩
theorem d_M_heard_12 : cd_Dk b_M_heard 12 (nI 1) 13 := Or.inl ⟨1, ⟨by decide +kernel, rfl⟩, by decide +kernel⟩
theorem d_M_heard_13 : cd_D 3 b_M_heard 13 (.invokestatic 75) 16 := ⟨by decide +kernel, rfl⟩
theorem d_M_heard_16 : cd_D_if_ne b_M_heard 16 22 19 := ⟨6, by decide +kernel, by decide, rfl⟩
theorem d_M_heard_19 : cd_D 2 b_M_heard 19 (.ldc 87) 21 := ⟨by decide +kernel, rfl⟩
theorem d_M_heard_21 : cd_D 1 b_M_heard 21 .ireturn 22 := ⟨by decide +kernel, rfl⟩
theorem d_M_heard_22 : cd_D_aload b_M_heard 22 0 23 := Or.inr ⟨0, ⟨by decide +kernel, rfl⟩, rfl⟩
theorem d_M_heard_23 : cd_D 3 b_M_heard 23 (.invokevirtual 170) 26 := ⟨by decide +kernel, rfl⟩
theorem d_M_heard_26 : cd_Dk b_M_heard 26 (-1) 27 := Or.inl ⟨-1, ⟨by decide +kernel, rfl⟩, by decide +kernel⟩
theorem d_M_heard_27 : cd_D_istore b_M_heard 27 3 28 := Or.inr ⟨3, ⟨by decide +kernel, rfl⟩, rfl⟩
theorem d_M_heard_28 : cd_Dk b_M_heard 28 (nI 0) 29 := Or.inl ⟨0, ⟨by decide +kernel, rfl⟩, by decide +kernel⟩
theorem d_M_heard_29 : cd_D_istore b_M_heard 29 4 31 := Or.inl ⟨by decide +kernel, rfl⟩
theorem d_M_heard_31 : cd_Dk b_M_heard 31 (nI 0) 32 := Or.inl ⟨0, ⟨by decide +kernel, rfl⟩, by decide +kernel⟩
theorem d_M_heard_32 : cd_D_istore b_M_heard 32 5 34 := Or.inl ⟨by decide +kernel, rfl⟩
theorem d_M_heard_34 : cd_D_iload b_M_heard 34 5 36 := Or.inl ⟨by decide +kernel, rfl⟩
theorem d_M_heard_36 : cd_D_aload b_M_heard 36 0 37 := Or.inr ⟨0, ⟨by decide +kernel, rfl⟩, rfl⟩
theorem d_M_heard_37 : cd_D 3 b_M_heard 37 (.getfield 9) 40 := ⟨by decide +kernel, rfl⟩
theorem d_M_heard_40 : cd_Dk b_M_heard 40 (nI 1) 41 := Or.inl ⟨1, ⟨by decide +kernel, rfl⟩, by decide +kernel⟩
theorem d_M_heard_41 : cd_D 1 b_M_heard 41 .iaload 42 := ⟨by decide +kernel, rfl⟩
theorem d_M_heard_42 : cd_D_icmp_ge b_M_heard 42 84 45 := ⟨42, by decide +kernel, by decide, rfl⟩
theorem d_M_heard_45 : cd_D_aload b_M_heard 45 0 46 := Or.inr ⟨0, ⟨by decide +kernel, rfl⟩, rfl⟩
theorem d_M_heard_46 : cd_D_iload b_M_heard 46 5 48 := Or.inl ⟨by decide +kernel, rfl⟩
theorem d_M_heard_48 : cd_Dk b_M_heard 48 (nI 2) 49 := Or.inl ⟨2, ⟨by decide +kernel, rfl⟩, by decide +kernel⟩
theorem d_M_heard_49 : cd_Dk b_M_heard 49 (nI 0) 50 := Or.inl ⟨0, ⟨by decide +kernel, rfl⟩, by decide +kernel⟩
theorem d_M_heard_50 : cd_D 3 b_M_heard 50 (.invokevirtual 79) 53 := ⟨by decide +kernel, rfl⟩
theorem d_M_heard_53 : cd_D_aload b_M_heard 53 0 54 := Or.inr ⟨0, ⟨by decide +kernel, rfl⟩, rfl⟩
theorem d_M_heard_54 : cd_D_iload b_M_heard 54 1 55 := Or.inr ⟨1, ⟨by decide +kernel, rfl⟩, rfl⟩
theorem d_M_heard_55 : cd_D 3 b_M_heard 55 (.invokevirtual 180) 58 := ⟨by decide +kernel, rfl⟩
theorem d_M_heard_58 : cd_D_istore b_M_heard 58 6 60 := Or.inl ⟨by decide +kernel, rfl⟩
theorem d_M_heard_60 : cd_D_iload b_M_heard 60 3 61 := Or.inr ⟨3, ⟨by decide +kernel, rfl⟩, rfl⟩
theorem d_M_heard_61 : cd_D_if_lt b_M_heard 61 71 64 := ⟨10, by decide +kernel, by decide, rfl⟩
theorem d_M_heard_64 : cd_D_iload b_M_heard 64 6 66 := Or.inl ⟨by decide +kernel, rfl⟩
theorem d_M_heard_66 : cd_D_iload b_M_heard 66 4 68 := Or.inl ⟨by decide +kernel, rfl⟩
theorem d_M_heard_68 : cd_D_icmp_ge b_M_heard 68 78 71 := ⟨10, by decide +kernel, by decide, rfl⟩
theorem d_M_heard_71 : cd_D_iload b_M_heard 71 5 73 := Or.inl ⟨by decide +kernel, rfl⟩
theorem d_M_heard_73 : cd_D_istore b_M_heard 73 3 74 := Or.inr ⟨3, ⟨by decide +kernel, rfl⟩, rfl⟩
theorem d_M_heard_74 : cd_D_iload b_M_heard 74 6 76 := Or.inl ⟨by decide +kernel, rfl⟩
theorem d_M_heard_76 : cd_D_istore b_M_heard 76 4 78 := Or.inl ⟨by decide +kernel, rfl⟩
theorem d_M_heard_78 : cd_D 3 b_M_heard 78 (.iinc 5 (1)) 81 := ⟨by decide +kernel, rfl⟩
theorem d_M_heard_81 : cd_D_goto b_M_heard 81 34 := ⟨-47, by decide +kernel, by decide⟩
theorem d_M_heard_84 : cd_D_iload b_M_heard 84 3 85 := Or.inr ⟨3, ⟨by decide +kernel, rfl⟩, rfl⟩
theorem d_M_heard_85 : cd_D_if_ge b_M_heard 85 93 88 := ⟨8, by decide +kernel, by decide, rfl⟩
theorem d_M_heard_88 : cd_D 2 b_M_heard 88 (.ldc 176) 90 := ⟨by decide +kernel, rfl⟩
theorem d_M_heard_90 : cd_D_goto b_M_heard 90 103 := ⟨13, by decide +kernel, by decide⟩
theorem d_M_heard_93 : cd_D_iload b_M_heard 93 2 94 := Or.inr ⟨2, ⟨by decide +kernel, rfl⟩, rfl⟩
theorem d_M_heard_94 : cd_D_if_ne b_M_heard 94 101 97 := ⟨7, by decide +kernel, by decide, rfl⟩
theorem d_M_heard_97 : cd_D_iload b_M_heard 97 3 98 := Or.inr ⟨3, ⟨by decide +kernel, rfl⟩, rfl⟩
theorem d_M_heard_98 : cd_D_goto b_M_heard 98 103 := ⟨5, by decide +kernel, by decide⟩
theorem d_M_heard_101 : cd_D_iload b_M_heard 101 4 103 := Or.inl ⟨by decide +kernel, rfl⟩
theorem d_M_heard_103 : cd_D 1 b_M_heard 103 .ireturn 104 := ⟨by decide +kernel, rfl⟩
theorem c_M_heard {l : Launch} {w : cd_WT} {S : cd_Sp} {I : cd_Mem} {m : Nat} (hM : cd_MO w S m) (mm tc : Nat) (hV : cd_V (I (m + 1)) mm tc) (n q : Int32) : cd_C l w m_M_heard 8 0 0 [.ref m, .int n, .int q] S I (cd_Pi S (fun x I' => x = sp_heard (I (m + 1)) mm tc n q ∧ cd_off I I' [m + 4, m + 11, m + 12])) := by
  refine cd_intro (by decide) (by simp [Value.category]) (Nat.le_of_ble_eq_true rfl) ?_
  intro X hO hE
  show cd_J w X 0 0 S I 0 [some (.ref m), some (.int n), some (.int q), none, none, none, none] []
  have hmm := hV.2.1
  have loop : ∀ (I1 : cd_Mem), I1 (m + 1) = I (m + 1) → (∀ j, j < 76 → I1 (m + 4) j = I (m + 1) j) → cd_off I I1 [m + 4, m + 11, m + 12] → ∀ (z : Nat) (hz : z ≤ 100) (hp : sp_heard (I (m + 1)) mm tc n q = (if 0 ≤ (cd_bm (fun p => cd_hs (upd (I (m + 1)) (16 + 5 * p + 2) (nI 0)) mm tc z 10) mm).1 then (if q = 0 then (cd_bm (fun p => cd_hs (upd (I (m + 1)) (16 + 5 * p + 2) (nI 0)) mm tc z 10) mm).1 else (cd_bm (fun p => cd_hs (upd (I (m + 1)) (16 + 5 * p + 2) (nI 0)) mm tc z 10) mm).2) else cd_NONE)) (r k : Nat) (I2 : cd_Mem) (x6 : Option Value) (bb bl : Int32), cd_bm (fun p => cd_hs (upd (I (m + 1)) (16 + 5 * p + 2) (nI 0)) mm tc z 10) k = (bb, bl) → k + r = mm → I2 (m + 1) = I (m + 1) → cd_off I1 I2 [m + 1, m + 11, m + 12] → cd_J w X 0 0 S I2 34 [some (.ref m), some (.int (nI z)), some (.int q), some (.int bb), some (.int bl), some (.int (nI k)), x6] [] := by
    intro I1 h1 hB ho1 z hz hp r
    induction r with
    | zero =>
      intro k I2 x6 bb bl hb hk h2 ho
      have hkz : k = mm := by omega
      rw [hkz] at hb
      rw [hkz]
      rw [hb] at hp
      refine r_iload hO d_M_heard_34 rfl ?_
      refine r_aload hO d_M_heard_36 rfl ?_
      refine r_getR hO f_M_9 rfl hM.2.1 (mo_r1 hM) d_M_heard_37 ?_
      refine r_k hO d_M_heard_40 ?_
      refine r_iald hO (mo_s1 hM) (by omega) (by decide) d_M_heard_41 ?_
      rw [h2]
      refine r_tops hV.1 ?_
      refine r_icmp_ge hO d_M_heard_42 (fun c_42 => ?_) (fun c_42 => ?_)
      · refine r_iload hO d_M_heard_84 rfl ?_
        refine r_if_ge hO d_M_heard_85 (fun c_85 => ?_) (fun c_85 => ?_)
        · refine r_iload hO d_M_heard_93 rfl ?_
          refine r_if_ne hO d_M_heard_94 (fun c_94 => ?_) (fun c_94 => ?_)
          · refine r_iload hO d_M_heard_101 rfl ?_
            refine r_iret hO hE (Nat.zero_le _) (Nat.zero_le _) d_M_heard_103 ?_
            exact ⟨_, rfl, rfl, by rw [hp, if_pos c_85, if_neg c_94], cd_off_in ho1 h2 ho⟩
          · refine r_iload hO d_M_heard_97 rfl ?_
            refine r_goto hO d_M_heard_98 ?_
            refine r_iret hO hE (Nat.zero_le _) (Nat.zero_le _) d_M_heard_103 ?_
            exact ⟨_, rfl, rfl, by rw [hp, if_pos c_85, if_pos c_94], cd_off_in ho1 h2 ho⟩
        · refine r_ldc hO k_M_176 d_M_heard_88 ?_
          refine r_goto hO d_M_heard_90 ?_
          refine r_iret hO hE (Nat.zero_le _) (Nat.zero_le _) d_M_heard_103 ?_
          exact ⟨_, rfl, rfl, by rw [hp, if_neg c_85], cd_off_in ho1 h2 ho⟩
      · exact absurd (nI_le (Nat.le_refl _) (by omega)) c_42
    | succ r ih =>
      intro k I2 x6 bb bl hb hk h2 ho
      have hB2 : ∀ j, j < 76 → I2 (m + 4) j = I (m + 1) j := fun j hj => by rw [ho _ (by simp)]; exact hB j hj
      refine r_iload hO d_M_heard_34 rfl ?_
      refine r_aload hO d_M_heard_36 rfl ?_
      refine r_getR hO f_M_9 rfl hM.2.1 (mo_r1 hM) d_M_heard_37 ?_
      refine r_k hO d_M_heard_40 ?_
      refine r_iald hO (mo_s1 hM) (by omega) (by decide) d_M_heard_41 ?_
      rw [h2]
      refine r_tops hV.1 ?_
      refine r_icmp_ge hO d_M_heard_42 (fun c_42 => ?_) (fun c_42 => ?_)
      · exact absurd c_42 (nI_ge (by omega) (by omega))
      · refine r_aload hO d_M_heard_45 rfl ?_
        refine r_iload hO d_M_heard_46 rfl ?_
        refine r_k hO d_M_heard_48 ?_
        refine r_k hO d_M_heard_49 ?_
        refine r_cV3fv hO hE (c_M_put hM _ _ _ (by omega)) mf_M_put lk_M_79 hM.2.1 rfl (by decide) rfl (Nat.le_of_ble_eq_true rfl) d_M_heard_50 (Nat.zero_le _) (Nat.zero_le _) ?_
        refine r_aload hO d_M_heard_53 rfl ?_
        refine r_iload hO d_M_heard_54 rfl ?_
        refine r_cV1i hO hE (c_M_risingsBehind hM mm tc z (by rw [cd_set_eq, h2]; exact cd_V_upd hV (by omega) (by omega) (by omega)) (by omega) (I (m + 1)) (fun j hj => by rw [cd_set_ne _ _ (by omega)]; exact hB2 j hj) (fun j hj => by rw [cd_set_eq, h2]; exact if_neg (by omega))) mf_M_risingsBehind lk_M_180 hM.2.1 rfl (by decide) rfl (Nat.le_of_ble_eq_true rfl) d_M_heard_55 (Nat.zero_le _) (Nat.zero_le _) ?_
        rintro x I3 ⟨hx, h3, ho3⟩
        rw [cd_set_eq, h2] at hx
        have ho4 : cd_off I1 I3 [m + 1, m + 11, m + 12] := ho.tr ((cd_off.set _ _ (by simp)).tr ho3)
        refine r_sI6 hO d_M_heard_58 rfl ?_
        refine r_iload hO d_M_heard_60 rfl ?_
        refine r_if_lt hO d_M_heard_61 (fun c_61 => ?_) (fun c_61 => ?_)
        · refine r_iload hO d_M_heard_71 rfl ?_
          refine r_sI3 hO d_M_heard_73 rfl ?_
          refine r_iload hO d_M_heard_74 rfl ?_
          refine r_sI4 hO d_M_heard_76 rfl ?_
          refine r_incN5 hO d_M_heard_78 rfl ?_
          refine r_goto hO d_M_heard_81 ?_
          exact ih (k + 1) I3 _ _ _ (cd_bm_a hb hx c_61) (by omega) h3 ho4
        · refine r_iload hO d_M_heard_64 rfl ?_
          refine r_iload hO d_M_heard_66 rfl ?_
          refine r_icmp_ge hO d_M_heard_68 (fun c_68 => ?_) (fun c_68 => ?_)
          · refine r_incN5 hO d_M_heard_78 rfl ?_
            refine r_goto hO d_M_heard_81 ?_
            exact ih (k + 1) I3 _ _ _ (cd_bm_b hb hx c_61 c_68) (by omega) h3 ho4
          · refine r_iload hO d_M_heard_71 rfl ?_
            refine r_sI3 hO d_M_heard_73 rfl ?_
            refine r_iload hO d_M_heard_74 rfl ?_
            refine r_sI4 hO d_M_heard_76 rfl ?_
            refine r_incN5 hO d_M_heard_78 rfl ?_
            refine r_goto hO d_M_heard_81 ?_
            exact ih (k + 1) I3 _ _ _ (cd_bm_c hb hx c_61 c_68) (by omega) h3 ho4
  refine r_iload hO d_M_heard_0 rfl ?_
  refine r_k hO d_M_heard_1 ?_
  refine r_k hO d_M_heard_2 ?_
  refine r_cS3fi hO hE (c_M_in _ _ _) mf_M_in lk_M_75 (by decide) rfl (Nat.le_of_ble_eq_true rfl) d_M_heard_4 (Nat.zero_le _) (Nat.zero_le _) ?_
  refine r_if_eqB hO d_M_heard_7 (fun c_7 => ?_) (fun c_7 => ?_)
  · refine r_ldc hO k_M_87 d_M_heard_19 ?_
    refine r_iret hO hE (Nat.zero_le _) (Nat.zero_le _) d_M_heard_21 ?_
    exact ⟨_, rfl, rfl, by unfold sp_heard; rw [if_neg c_7], cd_off.rf _ _⟩
  · obtain ⟨z, hz1, hz2, rfl⟩ := cd_in_ex c_7 (by decide) (by decide)
    refine r_iload hO d_M_heard_10 rfl ?_
    refine r_k hO d_M_heard_11 ?_
    refine r_k hO d_M_heard_12 ?_
    refine r_cS3fi hO hE (c_M_in _ _ _) mf_M_in lk_M_75 (by decide) rfl (Nat.le_of_ble_eq_true rfl) d_M_heard_13 (Nat.zero_le _) (Nat.zero_le _) ?_
    refine r_if_neB hO d_M_heard_16 (fun c_16 => ?_) (fun c_16 => ?_)
    · refine r_aload hO d_M_heard_22 rfl ?_
      refine r_cV0fv hO hE (c_M_thinks hM) mf_M_thinks lk_M_170 hM.2.1 rfl (by decide) rfl (Nat.le_of_ble_eq_true rfl) d_M_heard_23 (Nat.zero_le _) (Nat.zero_le _) ?_
      refine r_gen (fun I1 hI1 => ?_)
      have h1 : I1 (m + 1) = I (m + 1) := by rw [hI1, cd_set_ne _ _ (by omega)]
      have hB : ∀ j, j < 76 → I1 (m + 4) j = I (m + 1) j := fun j hj => by rw [hI1, cd_set_eq]; exact if_pos hj
      have ho1 : cd_off I I1 [m + 4, m + 11, m + 12] := by rw [hI1]; exact cd_off.set _ _ (by simp)
      have hV1 : cd_V (I1 (m + 1)) mm tc := by rw [h1]; exact hV
      refine r_k hO d_M_heard_26 ?_
      refine r_sI3 hO d_M_heard_27 rfl ?_
      refine r_k hO d_M_heard_28 ?_
      refine r_sI4 hO d_M_heard_29 rfl ?_
      refine r_k hO d_M_heard_31 ?_
      refine r_sI5 hO d_M_heard_32 rfl ?_
      exact loop I1 h1 hB ho1 z (by omega) (by unfold sp_heard; rw [if_pos c_7, if_pos c_16, cd_tn_nI (by omega)]) mm 0 I1 _ _ _ rfl (Nat.zero_add _) h1 (cd_off.rf _ _)
    · refine r_ldc hO k_M_87 d_M_heard_19 ?_
      refine r_iret hO hE (Nat.zero_le _) (Nat.zero_le _) d_M_heard_21 ?_
      exact ⟨_, rfl, rfl, by unfold sp_heard; rw [if_pos c_7, if_neg c_16], cd_off.rf _ _⟩
