theorem cd_V_upd {N : Nat → Int32} {mm tc k : Nat} {v : Int32} (h : cd_V N mm tc) (hk : k < 76) (h1 : k ≠ 1) (h15 : k ≠ 15) : cd_V (upd N k v) mm tc := by
  have e : ∀ j, (j = 1 ∨ j = 15 ∨ 76 ≤ j) → upd N k v j = N j := fun j hj => if_neg (by omega)
  obtain ⟨a1, a2, a3, a4, a5⟩ := h
  refine ⟨by rw [e 1 (by omega)]; exact a1, a2, by rw [e 15 (by omega)]; exact a3, a4, fun t ht => ?_⟩
  obtain ⟨ky, n, b1, b2, b3, b4, b5, b6⟩ := a5 t ht
  have e2 : (fun q => upd N k v (104 + 96 * t + q)) = fun q => N (104 + 96 * t + q) := by
    funext q
    exact e _ (by omega)
  exact ⟨ky, n, by rw [e _ (by omega)]; exact b1, b2, b3, b4, by rw [e2]; exact b5, by rw [e2]; exact b6⟩
theorem cd_cp_back {N B r : Nat → Int32} (h1 : ∀ j, j < 76 → B j = N j) (h2 : ∀ j, 76 ≤ j → r j = N j) : cd_cp 76 B r = N := by
  funext j
  unfold cd_cp
  split
  · exact h1 j ‹_›
  · exact h2 j (by omega)
theorem cd_hs_add (N : Nat → Int32) (mm tc a : Nat) : ∀ b, cd_hs (cd_hs N mm tc a) mm tc b = cd_hs N mm tc (a + b)
  | 0 => rfl
  | b + 1 => by
    show cd_hr (cd_hs (cd_hs N mm tc a) mm tc b) mm tc = _
    rw [cd_hs_add N mm tc a b]
    rfl
theorem d_M_habitsBehind_0 : cd_D_aload b_M_habitsBehind 0 0 1 := Or.inr ⟨0, ⟨by decide +kernel, rfl⟩, rfl⟩
theorem d_M_habitsBehind_1 : cd_D_iload b_M_habitsBehind 1 1 2 := Or.inr ⟨1, ⟨by decide +kernel, rfl⟩, rfl⟩
theorem d_M_habitsBehind_2 : cd_D 3 b_M_habitsBehind 2 (.invokevirtual 161) 5 := ⟨by decide +kernel, rfl⟩
theorem d_M_habitsBehind_5 : cd_D_aload b_M_habitsBehind 5 0 6 := Or.inr ⟨0, ⟨by decide +kernel, rfl⟩, rfl⟩
theorem d_M_habitsBehind_6 : cd_D 3 b_M_habitsBehind 6 (.invokevirtual 164) 9 := ⟨by decide +kernel, rfl⟩
theorem d_M_habitsBehind_9 : cd_D_istore b_M_habitsBehind 9 2 10 := Or.inr ⟨2, ⟨by decide +kernel, rfl⟩, rfl⟩
theorem d_M_habitsBehind_10 : cd_D_aload b_M_habitsBehind 10 0 11 := Or.inr ⟨0, ⟨by decide +kernel, rfl⟩, rfl⟩
theorem d_M_habitsBehind_11 : cd_D 3 b_M_habitsBehind 11 (.invokevirtual 173) 14 := ⟨by decide +kernel, rfl⟩
theorem d_M_habitsBehind_14 : cd_D_iload b_M_habitsBehind 14 2 15 := Or.inr ⟨2, ⟨by decide +kernel, rfl⟩, rfl⟩
theorem d_M_habitsBehind_15 : cd_D 1 b_M_habitsBehind 15 .ireturn 16 := ⟨by decide +kernel, rfl⟩
theorem c_M_habitsBehind {l : Launch} {w : cd_WT} {S : cd_Sp} {I : cd_Mem} {m : Nat} (hM : cd_MO w S m) (mm tc n : Nat) (hV : cd_V (I (m + 1)) mm tc) (hn : n < 2 ^ 31) (N0 : Nat → Int32) (hB : ∀ j, j < 76 → I (m + 4) j = N0 j) (hA : ∀ j, 76 ≤ j → I (m + 1) j = N0 j) : cd_C l w m_M_habitsBehind 7 0 0 [.ref m, .int (nI n)] S I (cd_Pi S (fun x I' => x = cd_hb (cd_hs (I (m + 1)) mm tc n) mm ∧ I' (m + 1) = N0 ∧ cd_off I I' [m + 1, m + 11, m + 12])) := by
  refine cd_intro (by decide) (by simp [Value.category]) (Nat.le_of_ble_eq_true rfl) ?_
  intro X hO hE
  show cd_J w X 0 0 S I 0 [some (.ref m), some (.int (nI n)), none] []
  refine r_aload hO d_M_habitsBehind_0 rfl ?_
  refine r_iload hO d_M_habitsBehind_1 rfl ?_
  refine r_cV1v hO hE (c_M_goesOn hM mm tc n hn hV) mf_M_goesOn lk_M_161 hM.2.1 rfl (by decide) rfl (Nat.le_of_ble_eq_true rfl) d_M_habitsBehind_2 (Nat.zero_le _) (Nat.zero_le _) ?_
  rintro I2 ⟨h2, ho2⟩
  have h4 : I2 (m + 4) = I (m + 4) := ho2 _ (by simp)
  have hback : cd_cp 76 (I2 (m + 4)) (I2 (m + 1)) = N0 := by rw [h4, h2]; exact cd_cp_back hB (fun j hj => (kq_hs _ hV.2.1 tc n j (by omega)).trans (hA j hj))
  refine r_aload hO d_M_habitsBehind_5 rfl ?_
  refine r_cV0fi hO hE (c_M_habits hM mm (by rw [h2]; exact (hV.kq (kq_hs _ hV.2.1 tc n)).1) hV.2.1) mf_M_habits lk_M_164 hM.2.1 rfl (by decide) rfl (Nat.le_of_ble_eq_true rfl) d_M_habitsBehind_6 (Nat.zero_le _) (Nat.zero_le _) ?_
  refine r_sI2 hO d_M_habitsBehind_9 rfl ?_
  refine r_aload hO d_M_habitsBehind_10 rfl ?_
  refine r_cV0fv hO hE (c_M_putsBack hM) mf_M_putsBack lk_M_173 hM.2.1 rfl (by decide) rfl (Nat.le_of_ble_eq_true rfl) d_M_habitsBehind_11 (Nat.zero_le _) (Nat.zero_le _) ?_
  rw [hback]
  refine r_iload hO d_M_habitsBehind_14 rfl ?_
  refine r_iret hO hE (Nat.zero_le _) (Nat.zero_le _) d_M_habitsBehind_15 ?_
  exact ⟨_, rfl, rfl, by rw [h2], cd_set_eq _ _ _, ho2.tr (cd_off.set _ _ (by simp))⟩
theorem d_M_risingsBehind_0 : cd_D_aload b_M_risingsBehind 0 0 1 := Or.inr ⟨0, ⟨by decide +kernel, rfl⟩, rfl⟩
theorem d_M_risingsBehind_1 : cd_D_iload b_M_risingsBehind 1 1 2 := Or.inr ⟨1, ⟨by decide +kernel, rfl⟩, rfl⟩
theorem d_M_risingsBehind_2 : cd_D 3 b_M_risingsBehind 2 (.invokevirtual 161) 5 := ⟨by decide +kernel, rfl⟩
theorem d_M_risingsBehind_5 : cd_D_aload b_M_risingsBehind 5 0 6 := Or.inr ⟨0, ⟨by decide +kernel, rfl⟩, rfl⟩
theorem d_M_risingsBehind_6 : cd_D 3 b_M_risingsBehind 6 (.getfield 9) 9 := ⟨by decide +kernel, rfl⟩
theorem d_M_risingsBehind_9 : cd_Dk b_M_risingsBehind 9 (nI 10) 11 := Or.inr (Or.inl ⟨10, ⟨by decide +kernel, rfl⟩, by decide +kernel⟩)
theorem d_M_risingsBehind_11 : cd_D 1 b_M_risingsBehind 11 .iaload 12 := ⟨by decide +kernel, rfl⟩
theorem d_M_risingsBehind_12 : cd_D_istore b_M_risingsBehind 12 2 13 := Or.inr ⟨2, ⟨by decide +kernel, rfl⟩, rfl⟩
theorem d_M_risingsBehind_13 : cd_D_aload b_M_risingsBehind 13 0 14 := Or.inr ⟨0, ⟨by decide +kernel, rfl⟩, rfl⟩
theorem d_M_risingsBehind_14 : cd_D 3 b_M_risingsBehind 14 (.invokevirtual 173) 17 := ⟨by decide +kernel, rfl⟩
theorem d_M_risingsBehind_17 : cd_D_iload b_M_risingsBehind 17 2 18 := Or.inr ⟨2, ⟨by decide +kernel, rfl⟩, rfl⟩
theorem d_M_risingsBehind_18 : cd_D 1 b_M_risingsBehind 18 .ireturn 19 := ⟨by decide +kernel, rfl⟩
theorem c_M_risingsBehind {l : Launch} {w : cd_WT} {S : cd_Sp} {I : cd_Mem} {m : Nat} (hM : cd_MO w S m) (mm tc n : Nat) (hV : cd_V (I (m + 1)) mm tc) (hn : n < 2 ^ 31) (N0 : Nat → Int32) (hB : ∀ j, j < 76 → I (m + 4) j = N0 j) (hA : ∀ j, 76 ≤ j → I (m + 1) j = N0 j) : cd_C l w m_M_risingsBehind 7 0 0 [.ref m, .int (nI n)] S I (cd_Pi S (fun x I' => x = cd_hs (I (m + 1)) mm tc n 10 ∧ I' (m + 1) = N0 ∧ cd_off I I' [m + 1, m + 11, m + 12])) := by
  refine cd_intro (by decide) (by simp [Value.category]) (Nat.le_of_ble_eq_true rfl) ?_
  intro X hO hE
  show cd_J w X 0 0 S I 0 [some (.ref m), some (.int (nI n)), none] []
  refine r_aload hO d_M_risingsBehind_0 rfl ?_
  refine r_iload hO d_M_risingsBehind_1 rfl ?_
  refine r_cV1v hO hE (c_M_goesOn hM mm tc n hn hV) mf_M_goesOn lk_M_161 hM.2.1 rfl (by decide) rfl (Nat.le_of_ble_eq_true rfl) d_M_risingsBehind_2 (Nat.zero_le _) (Nat.zero_le _) ?_
  rintro I2 ⟨h2, ho2⟩
  have h4 : I2 (m + 4) = I (m + 4) := ho2 _ (by simp)
  have hback : cd_cp 76 (I2 (m + 4)) (I2 (m + 1)) = N0 := by rw [h4, h2]; exact cd_cp_back hB (fun j hj => (kq_hs _ hV.2.1 tc n j (by omega)).trans (hA j hj))
  refine r_aload hO d_M_risingsBehind_5 rfl ?_
  refine r_getR hO f_M_9 rfl hM.2.1 (mo_r1 hM) d_M_risingsBehind_6 ?_
  refine r_k hO d_M_risingsBehind_9 ?_
  refine r_iald hO (mo_s1 hM) (by omega) (by decide) d_M_risingsBehind_11 ?_
  refine r_sI2 hO d_M_risingsBehind_12 rfl ?_
  refine r_aload hO d_M_risingsBehind_13 rfl ?_
  refine r_cV0fv hO hE (c_M_putsBack hM) mf_M_putsBack lk_M_173 hM.2.1 rfl (by decide) rfl (Nat.le_of_ble_eq_true rfl) d_M_risingsBehind_14 (Nat.zero_le _) (Nat.zero_le _) ?_
  rw [hback]
  refine r_iload hO d_M_risingsBehind_17 rfl ?_
  refine r_iret hO hE (Nat.zero_le _) (Nat.zero_le _) d_M_risingsBehind_18 ?_
  exact ⟨_, rfl, rfl, by rw [h2], cd_set_eq _ _ _, ho2.tr (cd_off.set _ _ (by simp))⟩
def cd_bh (N : Nat → Int32) (q : Int32) : Int32 := if q = 0 then N 10 else if q = nI 1 then N 11 else if q = nI 2 then N 7 else N (16 + 5 * cd_tn (q - nI 3) + 2)
def sp_behind (N : Nat → Int32) (mm tc : Nat) (n q : Int32) : Int32 := if nI 0 ≤ n ∧ n ≤ nI 100 then (if q < 0 then cd_BAD else if q ≤ nI 2 then cd_bh (cd_hs N mm tc (cd_tn n)) q else if cd_isA N (q - nI 3) then cd_bh (cd_hs N mm tc (cd_tn n)) q else cd_BAD) else cd_BAD
theorem cd_le0 {x : Int32} (h : ¬ x < 0) : nI 0 ≤ x := by
  rw [Int32.lt_iff_toInt_lt] at h
  rw [Int32.le_iff_toInt_le]
  have e : (nI 0).toInt = 0 := rfl
  have e2 : (0 : Int32).toInt = 0 := rfl
  omega
theorem cd_addsub (x y : Int32) : y + (x - y) = x := by
  rw [Int32.add_comm, Int32.sub_add_cancel]
theorem d_M_behind_0 : cd_D_iload b_M_behind 0 1 1 := Or.inr ⟨1, ⟨by decide +kernel, rfl⟩, rfl⟩
theorem d_M_behind_1 : cd_Dk b_M_behind 1 (nI 0) 2 := Or.inl ⟨0, ⟨by decide +kernel, rfl⟩, by decide +kernel⟩
theorem d_M_behind_2 : cd_Dk b_M_behind 2 (nI 100) 4 := Or.inr (Or.inl ⟨100, ⟨by decide +kernel, rfl⟩, by decide +kernel⟩)
theorem d_M_behind_4 : cd_D 3 b_M_behind 4 (.invokestatic 75) 7 := ⟨by decide +kernel, rfl⟩
theorem d_M_behind_7 : cd_D_if_eq b_M_behind 7 29 10 := ⟨22, by decide +kernel, by decide, rfl⟩
theorem d_M_behind_10 : cd_D_iload b_M_behind 10 2 11 := Or.inr ⟨2, ⟨by decide +kernel, rfl⟩, rfl⟩
theorem d_M_behind_11 : cd_D_if_lt b_M_behind 11 29 14 := ⟨18, by decide +kernel, by decide, rfl⟩
theorem d_M_behind_14 : cd_D_iload b_M_behind 14 2 15 := Or.inr ⟨2, ⟨by decide +kernel, rfl⟩, rfl⟩
theorem d_M_behind_15 : cd_Dk b_M_behind 15 (nI 2) 16 := Or.inl ⟨2, ⟨by decide +kernel, rfl⟩, by decide +kernel⟩
theorem d_M_behind_16 : cd_D_icmp_le b_M_behind 16 32 19 := ⟨16, by decide +kernel, by decide, rfl⟩
theorem d_M_behind_19 : cd_D_aload b_M_behind 19 0 20 := Or.inr ⟨0, ⟨by decide +kernel, rfl⟩, rfl⟩
theorem d_M_behind_20 : cd_D_iload b_M_behind 20 2 21 := Or.inr ⟨2, ⟨by decide +kernel, rfl⟩, rfl⟩
theorem d_M_behind_21 : cd_Dk b_M_behind 21 (nI 3) 22 := Or.inl ⟨3, ⟨by decide +kernel, rfl⟩, by decide +kernel⟩
theorem d_M_behind_22 : cd_D 1 b_M_behind 22 .isub 23 := ⟨by decide +kernel, rfl⟩
theorem d_M_behind_23 : cd_D 3 b_M_behind 23 (.invokevirtual 108) 26 := ⟨by decide +kernel, rfl⟩
theorem d_M_behind_26 : cd_D_if_ne b_M_behind 26 32 29 := ⟨6, by decide +kernel, by decide, rfl⟩
theorem d_M_behind_29 : cd_D 2 b_M_behind 29 (.ldc 87) 31 := ⟨by decide +kernel, rfl⟩
theorem d_M_behind_31 : cd_D 1 b_M_behind 31 .ireturn 32 := ⟨by decide +kernel, rfl⟩
theorem d_M_behind_32 : cd_D_aload b_M_behind 32 0 33 := Or.inr ⟨0, ⟨by decide +kernel, rfl⟩, rfl⟩
theorem d_M_behind_33 : cd_D 3 b_M_behind 33 (.invokevirtual 170) 36 := ⟨by decide +kernel, rfl⟩
theorem d_M_behind_36 : cd_D_aload b_M_behind 36 0 37 := Or.inr ⟨0, ⟨by decide +kernel, rfl⟩, rfl⟩
theorem d_M_behind_37 : cd_D_iload b_M_behind 37 1 38 := Or.inr ⟨1, ⟨by decide +kernel, rfl⟩, rfl⟩
theorem d_M_behind_38 : cd_D 3 b_M_behind 38 (.invokevirtual 161) 41 := ⟨by decide +kernel, rfl⟩
theorem d_M_behind_41 : cd_D_iload b_M_behind 41 2 42 := Or.inr ⟨2, ⟨by decide +kernel, rfl⟩, rfl⟩
theorem d_M_behind_42 : cd_D_if_ne b_M_behind 42 55 45 := ⟨13, by decide +kernel, by decide, rfl⟩
theorem d_M_behind_45 : cd_D_aload b_M_behind 45 0 46 := Or.inr ⟨0, ⟨by decide +kernel, rfl⟩, rfl⟩
theorem d_M_behind_46 : cd_D 3 b_M_behind 46 (.getfield 9) 49 := ⟨by decide +kernel, rfl⟩
theorem d_M_behind_49 : cd_Dk b_M_behind 49 (nI 10) 51 := Or.inr (Or.inl ⟨10, ⟨by decide +kernel, rfl⟩, by decide +kernel⟩)
theorem d_M_behind_51 : cd_D 1 b_M_behind 51 .iaload 52 := ⟨by decide +kernel, rfl⟩
theorem d_M_behind_52 : cd_D_goto b_M_behind 52 93 := ⟨41, by decide +kernel, by decide⟩
theorem d_M_behind_55 : cd_D_iload b_M_behind 55 2 56 := Or.inr ⟨2, ⟨by decide +kernel, rfl⟩, rfl⟩
theorem d_M_behind_56 : cd_Dk b_M_behind 56 (nI 1) 57 := Or.inl ⟨1, ⟨by decide +kernel, rfl⟩, by decide +kernel⟩
theorem d_M_behind_57 : cd_D_icmp_ne b_M_behind 57 70 60 := ⟨13, by decide +kernel, by decide, rfl⟩
theorem d_M_behind_60 : cd_D_aload b_M_behind 60 0 61 := Or.inr ⟨0, ⟨by decide +kernel, rfl⟩, rfl⟩
theorem d_M_behind_61 : cd_D 3 b_M_behind 61 (.getfield 9) 64 := ⟨by decide +kernel, rfl⟩
theorem d_M_behind_64 : cd_Dk b_M_behind 64 (nI 11) 66 := Or.inr (Or.inl ⟨11, ⟨by decide +kernel, rfl⟩, by decide +kernel⟩)
theorem d_M_behind_66 : cd_D 1 b_M_behind 66 .iaload 67 := ⟨by decide +kernel, rfl⟩
theorem d_M_behind_67 : cd_D_goto b_M_behind 67 93 := ⟨26, by decide +kernel, by decide⟩
theorem d_M_behind_70 : cd_D_iload b_M_behind 70 2 71 := Or.inr ⟨2, ⟨by decide +kernel, rfl⟩, rfl⟩
theorem d_M_behind_71 : cd_Dk b_M_behind 71 (nI 2) 72 := Or.inl ⟨2, ⟨by decide +kernel, rfl⟩, by decide +kernel⟩
theorem d_M_behind_72 : cd_D_icmp_ne b_M_behind 72 85 75 := ⟨13, by decide +kernel, by decide, rfl⟩
theorem d_M_behind_75 : cd_D_aload b_M_behind 75 0 76 := Or.inr ⟨0, ⟨by decide +kernel, rfl⟩, rfl⟩
theorem d_M_behind_76 : cd_D 3 b_M_behind 76 (.getfield 9) 79 := ⟨by decide +kernel, rfl⟩
theorem d_M_behind_79 : cd_Dk b_M_behind 79 (nI 7) 81 := Or.inr (Or.inl ⟨7, ⟨by decide +kernel, rfl⟩, by decide +kernel⟩)
theorem d_M_behind_81 : cd_D 1 b_M_behind 81 .iaload 82 := ⟨by decide +kernel, rfl⟩
theorem d_M_behind_82 : cd_D_goto b_M_behind 82 93 := ⟨11, by decide +kernel, by decide⟩
theorem d_M_behind_85 : cd_D_aload b_M_behind 85 0 86 := Or.inr ⟨0, ⟨by decide +kernel, rfl⟩, rfl⟩
theorem d_M_behind_86 : cd_D_iload b_M_behind 86 2 87 := Or.inr ⟨2, ⟨by decide +kernel, rfl⟩, rfl⟩
theorem d_M_behind_87 : cd_Dk b_M_behind 87 (nI 3) 88 := Or.inl ⟨3, ⟨by decide +kernel, rfl⟩, by decide +kernel⟩
theorem d_M_behind_88 : cd_D 1 b_M_behind 88 .isub 89 := ⟨by decide +kernel, rfl⟩
theorem d_M_behind_89 : cd_Dk b_M_behind 89 (nI 2) 90 := Or.inl ⟨2, ⟨by decide +kernel, rfl⟩, by decide +kernel⟩
theorem d_M_behind_90 : cd_D 3 b_M_behind 90 (.invokevirtual 97) 93 := ⟨by decide +kernel, rfl⟩
theorem d_M_behind_93 : cd_D_istore b_M_behind 93 3 94 := Or.inr ⟨3, ⟨by decide +kernel, rfl⟩, rfl⟩
theorem d_M_behind_94 : cd_D_aload b_M_behind 94 0 95 := Or.inr ⟨0, ⟨by decide +kernel, rfl⟩, rfl⟩
theorem d_M_behind_95 : cd_D 3 b_M_behind 95 (.invokevirtual 173) 98 := ⟨by decide +kernel, rfl⟩
theorem d_M_behind_98 : cd_D_iload b_M_behind 98 3 99 := Or.inr ⟨3, ⟨by decide +kernel, rfl⟩, rfl⟩
theorem d_M_behind_99 : cd_D 1 b_M_behind 99 .ireturn 100 := ⟨by decide +kernel, rfl⟩
theorem c_M_behind {l : Launch} {w : cd_WT} {S : cd_Sp} {I : cd_Mem} {m : Nat} (hM : cd_MO w S m) (mm tc : Nat) (hV : cd_V (I (m + 1)) mm tc) (n q : Int32) : cd_C l w m_M_behind 7 0 0 [.ref m, .int n, .int q] S I (cd_Pi S (fun x I' => x = sp_behind (I (m + 1)) mm tc n q ∧ cd_off I I' [m + 4, m + 11, m + 12])) := by
  refine cd_intro (by decide) (by simp [Value.category]) (Nat.le_of_ble_eq_true rfl) ?_
  intro X hO hE
  show cd_J w X 0 0 S I 0 [some (.ref m), some (.int n), some (.int q), none] []
  have rest : ∀ (z : Nat) (hz : z ≤ 100) (hp : sp_behind (I (m + 1)) mm tc n q = cd_bh (cd_hs (I (m + 1)) mm tc z) q) (hq : q = 0 ∨ q = nI 1 ∨ q = nI 2 ∨ ∃ i, i < mm ∧ q = nI (3 + i)), cd_J w X 0 0 S I 32 [some (.ref m), some (.int (nI z)), some (.int q), none] [] := by
    intro z hz hp hq
    refine r_aload hO d_M_behind_32 rfl ?_
    refine r_cV0fv hO hE (c_M_thinks hM) mf_M_thinks lk_M_170 hM.2.1 rfl (by decide) rfl (Nat.le_of_ble_eq_true rfl) d_M_behind_33 (Nat.zero_le _) (Nat.zero_le _) ?_
    refine r_gen (fun I1 hI1 => ?_)
    have h1 : I1 (m + 1) = I (m + 1) := by rw [hI1, cd_set_ne _ _ (by omega)]
    have hB : ∀ j, j < 76 → I1 (m + 4) j = I (m + 1) j := fun j hj => by rw [hI1, cd_set_eq]; exact if_pos hj
    have ho1 : cd_off I I1 [m + 4, m + 11, m + 12] := by rw [hI1]; exact cd_off.set _ _ (by simp)
    have hV1 : cd_V (I1 (m + 1)) mm tc := by rw [h1]; exact hV
    refine r_aload hO d_M_behind_36 rfl ?_
    refine r_iload hO d_M_behind_37 rfl ?_
    refine r_cV1v hO hE (c_M_goesOn hM mm tc z (by omega) hV1) mf_M_goesOn lk_M_161 hM.2.1 rfl (by decide) rfl (Nat.le_of_ble_eq_true rfl) d_M_behind_38 (Nat.zero_le _) (Nat.zero_le _) ?_
    rintro I2 ⟨h2, ho2⟩
    rw [h1] at h2
    have hback : cd_cp 76 (I2 (m + 4)) (I2 (m + 1)) = I (m + 1) := by rw [ho2 (m + 4) (by simp), h2]; exact cd_cp_back hB (fun j hj => kq_hs _ hV.2.1 tc z j (by omega))
    refine r_iload hO d_M_behind_41 rfl ?_
    refine r_if_ne hO d_M_behind_42 (fun c_42 => ?_) (fun c_42 => ?_)
    · refine r_iload hO d_M_behind_55 rfl ?_
      refine r_k hO d_M_behind_56 ?_
      refine r_icmp_ne hO d_M_behind_57 (fun c_57 => ?_) (fun c_57 => ?_)
      · refine r_iload hO d_M_behind_70 rfl ?_
        refine r_k hO d_M_behind_71 ?_
        refine r_icmp_ne hO d_M_behind_72 (fun c_72 => ?_) (fun c_72 => ?_)
        · obtain ⟨i, hi, rfl⟩ : ∃ i, i < mm ∧ q = nI (3 + i) := by
            rcases hq with h | h | h | h
            · exact absurd h c_42
            · exact absurd h c_57
            · exact absurd h c_72
            · exact h
          have hmm := hV.2.1
          refine r_aload hO d_M_behind_85 rfl ?_
          refine r_iload hO d_M_behind_86 rfl ?_
          refine r_k hO d_M_behind_87 ?_
          refine r_isubN hO d_M_behind_88 (by omega) ?_
          refine r_k hO d_M_behind_89 ?_
          refine r_cV2fi hO hE (c_M_of hM _ _ (by omega)) mf_M_of lk_M_97 hM.2.1 rfl (by decide) rfl (Nat.le_of_ble_eq_true rfl) d_M_behind_90 (Nat.zero_le _) (Nat.zero_le _) ?_
          rw [h2]
          refine r_sI3 hO d_M_behind_93 rfl ?_
          refine r_aload hO d_M_behind_94 rfl ?_
          refine r_cV0fv hO hE (c_M_putsBack hM) mf_M_putsBack lk_M_173 hM.2.1 rfl (by decide) rfl (Nat.le_of_ble_eq_true rfl) d_M_behind_95 (Nat.zero_le _) (Nat.zero_le _) ?_
          rw [hback]
          refine r_iload hO d_M_behind_98 rfl ?_
          refine r_iret hO hE (Nat.zero_le _) (Nat.zero_le _) d_M_behind_99 ?_
          exact ⟨_, rfl, rfl, by rw [hp]; unfold cd_bh; rw [if_neg c_42, if_neg c_57, if_neg c_72]; rw [pk_sub (by omega), cd_tn_nI (by omega)], fun b hb => by
            by_cases hb1 : b = m + 1
            · subst hb1; exact cd_set_eq _ _ _
            · rw [cd_set_ne _ _ hb1]
              exact (ho2 b (by simp at hb ⊢; omega)).trans (ho1 b hb)⟩
        · refine r_aload hO d_M_behind_75 rfl ?_
          refine r_getR hO f_M_9 rfl hM.2.1 (mo_r1 hM) d_M_behind_76 ?_
          refine r_k hO d_M_behind_79 ?_
          refine r_iald hO (mo_s1 hM) (by omega) (by decide) d_M_behind_81 ?_
          rw [h2]
          refine r_goto hO d_M_behind_82 ?_
          refine r_sI3 hO d_M_behind_93 rfl ?_
          refine r_aload hO d_M_behind_94 rfl ?_
          refine r_cV0fv hO hE (c_M_putsBack hM) mf_M_putsBack lk_M_173 hM.2.1 rfl (by decide) rfl (Nat.le_of_ble_eq_true rfl) d_M_behind_95 (Nat.zero_le _) (Nat.zero_le _) ?_
          rw [hback]
          refine r_iload hO d_M_behind_98 rfl ?_
          refine r_iret hO hE (Nat.zero_le _) (Nat.zero_le _) d_M_behind_99 ?_
          exact ⟨_, rfl, rfl, by rw [hp]; unfold cd_bh; rw [if_neg c_42, if_neg c_57, if_pos c_72], fun b hb => by
            by_cases hb1 : b = m + 1
            · subst hb1; exact cd_set_eq _ _ _
            · rw [cd_set_ne _ _ hb1]
              exact (ho2 b (by simp at hb ⊢; omega)).trans (ho1 b hb)⟩
      · refine r_aload hO d_M_behind_60 rfl ?_
        refine r_getR hO f_M_9 rfl hM.2.1 (mo_r1 hM) d_M_behind_61 ?_
        refine r_k hO d_M_behind_64 ?_
        refine r_iald hO (mo_s1 hM) (by omega) (by decide) d_M_behind_66 ?_
        rw [h2]
        refine r_goto hO d_M_behind_67 ?_
        refine r_sI3 hO d_M_behind_93 rfl ?_
        refine r_aload hO d_M_behind_94 rfl ?_
        refine r_cV0fv hO hE (c_M_putsBack hM) mf_M_putsBack lk_M_173 hM.2.1 rfl (by decide) rfl (Nat.le_of_ble_eq_true rfl) d_M_behind_95 (Nat.zero_le _) (Nat.zero_le _) ?_
        rw [hback]
        refine r_iload hO d_M_behind_98 rfl ?_
        refine r_iret hO hE (Nat.zero_le _) (Nat.zero_le _) d_M_behind_99 ?_
        exact ⟨_, rfl, rfl, by rw [hp]; unfold cd_bh; rw [if_neg c_42, if_pos c_57], fun b hb => by
          by_cases hb1 : b = m + 1
          · subst hb1; exact cd_set_eq _ _ _
          · rw [cd_set_ne _ _ hb1]
            exact (ho2 b (by simp at hb ⊢; omega)).trans (ho1 b hb)⟩
    · refine r_aload hO d_M_behind_45 rfl ?_
      refine r_getR hO f_M_9 rfl hM.2.1 (mo_r1 hM) d_M_behind_46 ?_
      refine r_k hO d_M_behind_49 ?_
      refine r_iald hO (mo_s1 hM) (by omega) (by decide) d_M_behind_51 ?_
      rw [h2]
      refine r_goto hO d_M_behind_52 ?_
      refine r_sI3 hO d_M_behind_93 rfl ?_
      refine r_aload hO d_M_behind_94 rfl ?_
      refine r_cV0fv hO hE (c_M_putsBack hM) mf_M_putsBack lk_M_173 hM.2.1 rfl (by decide) rfl (Nat.le_of_ble_eq_true rfl) d_M_behind_95 (Nat.zero_le _) (Nat.zero_le _) ?_
      rw [hback]
      refine r_iload hO d_M_behind_98 rfl ?_
      refine r_iret hO hE (Nat.zero_le _) (Nat.zero_le _) d_M_behind_99 ?_
      exact ⟨_, rfl, rfl, by rw [hp]; unfold cd_bh; rw [if_pos c_42], fun b hb => by
        by_cases hb1 : b = m + 1
        · subst hb1; exact cd_set_eq _ _ _
        · rw [cd_set_ne _ _ hb1]
          exact (ho2 b (by simp at hb ⊢; omega)).trans (ho1 b hb)⟩
  refine r_iload hO d_M_behind_0 rfl ?_
  refine r_k hO d_M_behind_1 ?_
  refine r_k hO d_M_behind_2 ?_
  refine r_cS3fi hO hE (c_M_in _ _ _) mf_M_in lk_M_75 (by decide) rfl (Nat.le_of_ble_eq_true rfl) d_M_behind_4 (Nat.zero_le _) (Nat.zero_le _) ?_
  refine r_if_eqB hO d_M_behind_7 (fun c_7 => ?_) (fun c_7 => ?_)
  · refine r_ldc hO k_M_87 d_M_behind_29 ?_
    refine r_iret hO hE (Nat.zero_le _) (Nat.zero_le _) d_M_behind_31 ?_
    exact ⟨_, rfl, rfl, by unfold sp_behind; rw [if_neg c_7], cd_off.rf _ _⟩
  · refine r_iload hO d_M_behind_10 rfl ?_
    refine r_if_lt hO d_M_behind_11 (fun c_11 => ?_) (fun c_11 => ?_)
    · refine r_ldc hO k_M_87 d_M_behind_29 ?_
      refine r_iret hO hE (Nat.zero_le _) (Nat.zero_le _) d_M_behind_31 ?_
      exact ⟨_, rfl, rfl, by unfold sp_behind; rw [if_pos c_7, if_pos c_11], cd_off.rf _ _⟩
    · refine r_iload hO d_M_behind_14 rfl ?_
      refine r_k hO d_M_behind_15 ?_
      refine r_icmp_le hO d_M_behind_16 (fun c_16 => ?_) (fun c_16 => ?_)
      · obtain ⟨z, -, hz2, rfl⟩ := cd_in_ex c_7 (by decide) (by decide)
        obtain ⟨y, -, hy, rfl⟩ := cd_in_ex (lo := 0) ⟨cd_le0 c_11, c_16⟩ (by decide) (by decide)
        refine rest z hz2 (by unfold sp_behind; rw [if_pos c_7, if_neg c_11, if_pos c_16, cd_tn_nI (by omega)]) ?_
        rcases (show y = 0 ∨ y = 1 ∨ y = 2 by omega) with rfl | rfl | rfl
        · exact Or.inl rfl
        · exact Or.inr (Or.inl rfl)
        · exact Or.inr (Or.inr (Or.inl rfl))
      · refine r_aload hO d_M_behind_19 rfl ?_
        refine r_iload hO d_M_behind_20 rfl ?_
        refine r_k hO d_M_behind_21 ?_
        refine r_isub hO d_M_behind_22 ?_
        refine r_cV1fi hO hE (c_M_isAsking hM _) mf_M_isAsking lk_M_108 hM.2.1 rfl (by decide) rfl (Nat.le_of_ble_eq_true rfl) d_M_behind_23 (Nat.zero_le _) (Nat.zero_le _) ?_
        refine r_if_neB hO d_M_behind_26 (fun c_26 => ?_) (fun c_26 => ?_)
        · obtain ⟨z, -, hz2, rfl⟩ := cd_in_ex c_7 (by decide) (by decide)
          obtain ⟨i, hi, hie⟩ := cd_isA_ex hV.1 hV.2.1 c_26
          refine rest z hz2 (by unfold sp_behind; rw [if_pos c_7, if_neg c_11, if_neg c_16, if_pos c_26, cd_tn_nI (by omega)]) (Or.inr (Or.inr (Or.inr ⟨i, hi, ?_⟩)))
          rw [← nI_add, ← hie]
          exact (cd_addsub q (nI 3)).symm
        · refine r_ldc hO k_M_87 d_M_behind_29 ?_
          refine r_iret hO hE (Nat.zero_le _) (Nat.zero_le _) d_M_behind_31 ?_
          exact ⟨_, rfl, rfl, by unfold sp_behind; rw [if_pos c_7, if_neg c_11, if_neg c_16, if_neg c_26], cd_off.rf _ _⟩
def cd_q (N : Nat → Int32) (mm tc : Nat) : Nat → Nat → Nat
  | 0, n => n
  | r + 1, n => if cd_hb (cd_hs N mm tc n) mm ≤ 0 then n else cd_q N mm tc r (n + 1)
def sp_quiet (N : Nat → Int32) (mm tc : Nat) : Int32 := if cd_q N mm tc 301 0 ≤ 300 then nI (cd_q N mm tc 301 0) else cd_NONE
theorem d_M_quiet_0 : cd_D_aload b_M_quiet 0 0 1 := Or.inr ⟨0, ⟨by decide +kernel, rfl⟩, rfl⟩
theorem d_M_quiet_1 : cd_D 3 b_M_quiet 1 (.invokevirtual 170) 4 := ⟨by decide +kernel, rfl⟩
theorem d_M_quiet_4 : cd_Dk b_M_quiet 4 (nI 0) 5 := Or.inl ⟨0, ⟨by decide +kernel, rfl⟩, by decide +kernel⟩
theorem d_M_quiet_5 : cd_D_istore b_M_quiet 5 1 6 := Or.inr ⟨1, ⟨by decide +kernel, rfl⟩, rfl⟩
theorem d_M_quiet_6 : cd_D_iload b_M_quiet 6 1 7 := Or.inr ⟨1, ⟨by decide +kernel, rfl⟩, rfl⟩
theorem d_M_quiet_7 : cd_Dk b_M_quiet 7 (nI 300) 10 := Or.inr (Or.inr ⟨300, ⟨by decide +kernel, rfl⟩, by decide +kernel⟩)
theorem d_M_quiet_10 : cd_D_icmp_gt b_M_quiet 10 30 13 := ⟨20, by decide +kernel, by decide, rfl⟩
theorem d_M_quiet_13 : cd_D_aload b_M_quiet 13 0 14 := Or.inr ⟨0, ⟨by decide +kernel, rfl⟩, rfl⟩
theorem d_M_quiet_14 : cd_D 3 b_M_quiet 14 (.invokevirtual 164) 17 := ⟨by decide +kernel, rfl⟩
theorem d_M_quiet_17 : cd_D_if_le b_M_quiet 17 30 20 := ⟨13, by decide +kernel, by decide, rfl⟩
theorem d_M_quiet_20 : cd_D_aload b_M_quiet 20 0 21 := Or.inr ⟨0, ⟨by decide +kernel, rfl⟩, rfl⟩
theorem d_M_quiet_21 : cd_D 3 b_M_quiet 21 (.invokevirtual 158) 24 := ⟨by decide +kernel, rfl⟩
theorem d_M_quiet_24 : cd_D 3 b_M_quiet 24 (.iinc 1 (1)) 27 := ⟨by decide +kernel, rfl⟩
theorem d_M_quiet_27 : cd_D_goto b_M_quiet 27 6 := ⟨-21, by decide +kernel, by decide⟩
theorem d_M_quiet_30 : cd_D_aload b_M_quiet 30 0 31 := Or.inr ⟨0, ⟨by decide +kernel, rfl⟩, rfl⟩
theorem d_M_quiet_31 : cd_D 3 b_M_quiet 31 (.invokevirtual 173) 34 := ⟨by decide +kernel, rfl⟩
theorem d_M_quiet_34 : cd_D_iload b_M_quiet 34 1 35 := Or.inr ⟨1, ⟨by decide +kernel, rfl⟩, rfl⟩
theorem d_M_quiet_35 : cd_Dk b_M_quiet 35 (nI 300) 38 := Or.inr (Or.inr ⟨300, ⟨by decide +kernel, rfl⟩, by decide +kernel⟩)
theorem d_M_quiet_38 : cd_D_icmp_le b_M_quiet 38 46 41 := ⟨8, by decide +kernel, by decide, rfl⟩
theorem d_M_quiet_41 : cd_D 2 b_M_quiet 41 (.ldc 176) 43 := ⟨by decide +kernel, rfl⟩
theorem d_M_quiet_43 : cd_D_goto b_M_quiet 43 47 := ⟨4, by decide +kernel, by decide⟩
theorem d_M_quiet_46 : cd_D_iload b_M_quiet 46 1 47 := Or.inr ⟨1, ⟨by decide +kernel, rfl⟩, rfl⟩
theorem d_M_quiet_47 : cd_D 1 b_M_quiet 47 .ireturn 48 := ⟨by decide +kernel, rfl⟩
theorem c_M_quiet {l : Launch} {w : cd_WT} {S : cd_Sp} {I : cd_Mem} {m : Nat} (hM : cd_MO w S m) (mm tc : Nat) (hV : cd_V (I (m + 1)) mm tc)  : cd_C l w m_M_quiet 6 0 0 [.ref m] S I (cd_Pi S (fun x I' => x = sp_quiet (I (m + 1)) mm tc ∧ cd_off I I' [m + 4, m + 11, m + 12])) := by
  refine cd_intro (by decide) (by simp [Value.category]) (Nat.le_of_ble_eq_true rfl) ?_
  intro X hO hE
  show cd_J w X 0 0 S I 0 [some (.ref m), none] []
  have hmm := hV.2.1
  have loop : ∀ (I1 : cd_Mem), I1 (m + 1) = I (m + 1) → (∀ j, j < 76 → I1 (m + 4) j = I (m + 1) j) → cd_off I I1 [m + 4, m + 11, m + 12] → ∀ (r k : Nat) (I2 : cd_Mem), k + r = 301 → cd_q (I (m + 1)) mm tc r k = cd_q (I (m + 1)) mm tc 301 0 → I2 (m + 1) = cd_hs (I (m + 1)) mm tc k → cd_off I1 I2 [m + 1, m + 11, m + 12] → cd_J w X 0 0 S I2 6 [some (.ref m), some (.int (nI k))] [] := by
    intro I1 h1 hB ho1
    have fin : ∀ (k : Nat) (I2 : cd_Mem), k ≤ 301 → cd_q (I (m + 1)) mm tc 301 0 = k → I2 (m + 1) = cd_hs (I (m + 1)) mm tc k → cd_off I1 I2 [m + 1, m + 11, m + 12] → cd_J w X 0 0 S I2 30 [some (.ref m), some (.int (nI k))] [] := by
      intro k I2 hk hq h2 ho
      have hback : cd_cp 76 (I2 (m + 4)) (I2 (m + 1)) = I (m + 1) := by rw [ho (m + 4) (by simp), h2]; exact cd_cp_back hB (fun j hj => kq_hs _ hV.2.1 tc k j (by omega))
      refine r_aload hO d_M_quiet_30 rfl ?_
      refine r_cV0fv hO hE (c_M_putsBack hM) mf_M_putsBack lk_M_173 hM.2.1 rfl (by decide) rfl (Nat.le_of_ble_eq_true rfl) d_M_quiet_31 (Nat.zero_le _) (Nat.zero_le _) ?_
      rw [hback]
      refine r_iload hO d_M_quiet_34 rfl ?_
      refine r_k hO d_M_quiet_35 ?_
      refine r_icmp_le hO d_M_quiet_38 (fun c_38 => ?_) (fun c_38 => ?_)
      · have hk3 : k ≤ 300 := Nat.le_of_not_lt (fun q => absurd c_38 (nI_ge q (by omega)))
        refine r_iload hO d_M_quiet_46 rfl ?_
        refine r_iret hO hE (Nat.zero_le _) (Nat.zero_le _) d_M_quiet_47 ?_
        exact ⟨_, rfl, rfl, by unfold sp_quiet; rw [hq, if_pos hk3], fun b hb => by
          by_cases hb1 : b = m + 1
          · subst hb1; exact cd_set_eq _ _ _
          · rw [cd_set_ne _ _ hb1]
            exact (ho b (by simp at hb ⊢; omega)).trans (ho1 b hb)⟩
      · have hk3 : ¬ k ≤ 300 := fun q => c_38 (nI_le q (by omega))
        refine r_ldc hO k_M_176 d_M_quiet_41 ?_
        refine r_goto hO d_M_quiet_43 ?_
        refine r_iret hO hE (Nat.zero_le _) (Nat.zero_le _) d_M_quiet_47 ?_
        exact ⟨_, rfl, rfl, by unfold sp_quiet; rw [hq, if_neg hk3], fun b hb => by
          by_cases hb1 : b = m + 1
          · subst hb1; exact cd_set_eq _ _ _
          · rw [cd_set_ne _ _ hb1]
            exact (ho b (by simp at hb ⊢; omega)).trans (ho1 b hb)⟩
    intro r
    induction r with
    | zero =>
      intro k I2 hk hq h2 ho
      have hk1 : k = 301 := by omega
      subst hk1
      refine r_iload hO d_M_quiet_6 rfl ?_
      refine r_k hO d_M_quiet_7 ?_
      refine r_icmp_gt hO d_M_quiet_10 (fun c_10 => ?_) (fun c_10 => ?_)
      · exact fin 301 I2 (by decide) hq.symm h2 ho
      · exact absurd (nI_lt (by decide : 300 < 301) (by decide)) c_10
    | succ r ih =>
      intro k I2 hk hq h2 ho
      refine r_iload hO d_M_quiet_6 rfl ?_
      refine r_k hO d_M_quiet_7 ?_
      refine r_icmp_gt hO d_M_quiet_10 (fun c_10 => ?_) (fun c_10 => ?_)
      · exact absurd c_10 (nI_nlt (by omega) (by omega))
      · refine r_aload hO d_M_quiet_13 rfl ?_
        refine r_cV0fi hO hE (c_M_habits hM mm (by rw [h2]; exact (hV.kq (kq_hs _ hV.2.1 tc k)).1) hV.2.1) mf_M_habits lk_M_164 hM.2.1 rfl (by decide) rfl (Nat.le_of_ble_eq_true rfl) d_M_quiet_14 (Nat.zero_le _) (Nat.zero_le _) ?_
        rw [h2]
        refine r_if_le hO d_M_quiet_17 (fun c_17 => ?_) (fun c_17 => ?_)
        · exact fin k I2 (by omega) (by rw [← hq]; exact if_pos c_17) h2 ho
        · refine r_aload hO d_M_quiet_20 rfl ?_
          refine r_cV0v hO hE (c_M_hour hM mm tc (by rw [h2]; exact hV.kq (kq_hs _ hmm tc k))) mf_M_hour lk_M_158 hM.2.1 rfl (by decide) rfl (Nat.le_of_ble_eq_true rfl) d_M_quiet_21 (Nat.zero_le _) (Nat.zero_le _) ?_
          rintro I3 ⟨h3, ho3⟩
          rw [h2] at h3
          refine r_incN1 hO d_M_quiet_24 rfl ?_
          refine r_goto hO d_M_quiet_27 ?_
          exact ih (k + 1) I3 (by omega) (by rw [← hq]; exact (if_neg c_17).symm) h3 (ho.tr ho3)
  refine r_aload hO d_M_quiet_0 rfl ?_
  refine r_cV0fv hO hE (c_M_thinks hM) mf_M_thinks lk_M_170 hM.2.1 rfl (by decide) rfl (Nat.le_of_ble_eq_true rfl) d_M_quiet_1 (Nat.zero_le _) (Nat.zero_le _) ?_
  refine r_gen (fun I1 hI1 => ?_)
  have h1 : I1 (m + 1) = I (m + 1) := by rw [hI1, cd_set_ne _ _ (by omega)]
  have hB : ∀ j, j < 76 → I1 (m + 4) j = I (m + 1) j := fun j hj => by rw [hI1, cd_set_eq]; exact if_pos hj
  have ho1 : cd_off I I1 [m + 4, m + 11, m + 12] := by rw [hI1]; exact cd_off.set _ _ (by simp)
  have hV1 : cd_V (I1 (m + 1)) mm tc := by rw [h1]; exact hV
  refine r_k hO d_M_quiet_4 ?_
  refine r_sI1 hO d_M_quiet_5 rfl ?_
  exact loop I1 h1 hB ho1 301 0 I1 (by decide) rfl h1 (cd_off.rf _ _)
