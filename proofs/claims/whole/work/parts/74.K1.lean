theorem ln_C_28 : ("CatDoors", 28, m_T_init.1, "CatDoors") ∈ cd_nn := by decide +kernel
theorem ln_C_56 : ("CatDoors", 56, m_S_init.1, "CatDoors") ∈ cd_nn := by decide +kernel
theorem ln_C_57 : ("CatDoors", 57, m_L_init.1, "CatDoors") ∈ cd_nn := by decide +kernel
theorem ln_H_47 : ("CatDoors$House", 47, m_A_init.1, "CatDoors") ∈ cd_nn := by decide +kernel
theorem ln_L_20 : ("CatDoors$Slot", 20, m_A_init.1, "CatDoors") ∈ cd_nn := by decide +kernel
theorem ln_L_27 : ("CatDoors$Slot", 27, m_S_init.1, "CatDoors") ∈ cd_nn := by decide +kernel
theorem d_A_init_0 : cd_D_aload b_A_init 0 0 1 := Or.inr ⟨0, ⟨by decide +kernel, rfl⟩, rfl⟩
theorem d_A_init_1 : cd_D 3 b_A_init 1 (.invokespecial 3) 4 := ⟨by decide +kernel, rfl⟩
theorem d_A_init_4 : cd_D_aload b_A_init 4 0 5 := Or.inr ⟨0, ⟨by decide +kernel, rfl⟩, rfl⟩
theorem d_A_init_5 : cd_Dk b_A_init 5 (nI 0) 6 := Or.inl ⟨0, ⟨by decide +kernel, rfl⟩, by decide +kernel⟩
theorem d_A_init_6 : cd_D 3 b_A_init 6 (.putfield 9) 9 := ⟨by decide +kernel, rfl⟩
theorem d_A_init_9 : cd_D_aload b_A_init 9 0 10 := Or.inr ⟨0, ⟨by decide +kernel, rfl⟩, rfl⟩
theorem d_A_init_10 : cd_Dk b_A_init 10 (nI 0) 11 := Or.inl ⟨0, ⟨by decide +kernel, rfl⟩, by decide +kernel⟩
theorem d_A_init_11 : cd_D 3 b_A_init 11 (.putfield 15) 14 := ⟨by decide +kernel, rfl⟩
theorem d_A_init_14 : cd_D_aload b_A_init 14 0 15 := Or.inr ⟨0, ⟨by decide +kernel, rfl⟩, rfl⟩
theorem d_A_init_15 : cd_Dk b_A_init 15 (nI 0) 16 := Or.inl ⟨0, ⟨by decide +kernel, rfl⟩, by decide +kernel⟩
theorem d_A_init_16 : cd_D 3 b_A_init 16 (.putfield 18) 19 := ⟨by decide +kernel, rfl⟩
theorem d_A_init_19 : cd_D_aload b_A_init 19 0 20 := Or.inr ⟨0, ⟨by decide +kernel, rfl⟩, rfl⟩
theorem d_A_init_20 : cd_Dk b_A_init 20 (nI 0) 21 := Or.inl ⟨0, ⟨by decide +kernel, rfl⟩, by decide +kernel⟩
theorem d_A_init_21 : cd_D 3 b_A_init 21 (.putfield 21) 24 := ⟨by decide +kernel, rfl⟩
theorem d_A_init_24 : cd_D_aload b_A_init 24 0 25 := Or.inr ⟨0, ⟨by decide +kernel, rfl⟩, rfl⟩
theorem d_A_init_25 : cd_Dk b_A_init 25 (nI 0) 26 := Or.inl ⟨0, ⟨by decide +kernel, rfl⟩, by decide +kernel⟩
theorem d_A_init_26 : cd_D 3 b_A_init 26 (.putfield 24) 29 := ⟨by decide +kernel, rfl⟩
theorem d_A_init_29 : cd_D 1 b_A_init 29 .return_ 30 := ⟨by decide +kernel, rfl⟩
theorem c_A_init {l : Launch} {w : cd_WT} {S : cd_Sp} {I : cd_Mem} {a : Nat} (ha : S.2.1 a = (1, 0)) (hal : w.1 ≤ a) : cd_C l w m_A_init 1 0 0 [.ref a] S I (cd_Pv S (fun I' => ∃ R, I' = cd_set I a R ∧ ∀ q, q < 5 → R q = nI 0)) := by
  refine cd_intro (by decide) (by simp [Value.category]) (Nat.le_of_ble_eq_true rfl) ?_
  intro X hO hE
  show cd_J w X 0 0 S I 0 [some (.ref a)] []
  refine r_aload hO d_A_init_0 rfl ?_
  refine r_objI hO hE lk_A_3 oi_i oi_c (by omega) rfl (Nat.le_of_ble_eq_true rfl) d_A_init_1 ?_
  try simp (disch := omega) only [cd_set_eq, cd_set_ne, cd_set_set]
  refine r_aload hO d_A_init_4 rfl ?_
  refine r_k hO d_A_init_5 ?_
  refine r_putI hO f_A_9 rfl ha hal d_A_init_6 ?_
  try simp (disch := omega) only [cd_set_eq, cd_set_ne, cd_set_set]
  refine r_aload hO d_A_init_9 rfl ?_
  refine r_k hO d_A_init_10 ?_
  refine r_putI hO f_A_15 rfl ha hal d_A_init_11 ?_
  try simp (disch := omega) only [cd_set_eq, cd_set_ne, cd_set_set]
  refine r_aload hO d_A_init_14 rfl ?_
  refine r_k hO d_A_init_15 ?_
  refine r_putI hO f_A_18 rfl ha hal d_A_init_16 ?_
  try simp (disch := omega) only [cd_set_eq, cd_set_ne, cd_set_set]
  refine r_aload hO d_A_init_19 rfl ?_
  refine r_k hO d_A_init_20 ?_
  refine r_putI hO f_A_21 rfl ha hal d_A_init_21 ?_
  try simp (disch := omega) only [cd_set_eq, cd_set_ne, cd_set_set]
  refine r_aload hO d_A_init_24 rfl ?_
  refine r_k hO d_A_init_25 ?_
  refine r_putI hO f_A_24 rfl ha hal d_A_init_26 ?_
  try simp (disch := omega) only [cd_set_eq, cd_set_ne, cd_set_set]
  refine r_vret hO hE (by omega) (by omega) d_A_init_29 ?_
  refine ⟨rfl, rfl, _, rfl, fun q hq => ?_⟩
  rcases (show q = 0 ∨ q = 1 ∨ q = 2 ∨ q = 3 ∨ q = 4 by omega) with rfl | rfl | rfl | rfl | rfl <;> rfl
theorem d_S_init_0 : cd_D_aload b_S_init 0 0 1 := Or.inr ⟨0, ⟨by decide +kernel, rfl⟩, rfl⟩
theorem d_S_init_1 : cd_D 3 b_S_init 1 (.invokespecial 3) 4 := ⟨by decide +kernel, rfl⟩
theorem d_S_init_4 : cd_D_aload b_S_init 4 0 5 := Or.inr ⟨0, ⟨by decide +kernel, rfl⟩, rfl⟩
theorem d_S_init_5 : cd_Dk b_S_init 5 (-1) 6 := Or.inl ⟨-1, ⟨by decide +kernel, rfl⟩, by decide +kernel⟩
theorem d_S_init_6 : cd_D 3 b_S_init 6 (.putfield 9) 9 := ⟨by decide +kernel, rfl⟩
theorem d_S_init_9 : cd_D_aload b_S_init 9 0 10 := Or.inr ⟨0, ⟨by decide +kernel, rfl⟩, rfl⟩
theorem d_S_init_10 : cd_Dk b_S_init 10 (nI 0) 11 := Or.inl ⟨0, ⟨by decide +kernel, rfl⟩, by decide +kernel⟩
theorem d_S_init_11 : cd_D 3 b_S_init 11 (.putfield 15) 14 := ⟨by decide +kernel, rfl⟩
theorem d_S_init_14 : cd_D_aload b_S_init 14 0 15 := Or.inr ⟨0, ⟨by decide +kernel, rfl⟩, rfl⟩
theorem d_S_init_15 : cd_Dk b_S_init 15 (nI 24) 17 := Or.inr (Or.inl ⟨24, ⟨by decide +kernel, rfl⟩, by decide +kernel⟩)
theorem d_S_init_17 : cd_D 2 b_S_init 17 (.newarray .int) 19 := ⟨by decide +kernel, rfl⟩
theorem d_S_init_19 : cd_D 3 b_S_init 19 (.putfield 18) 22 := ⟨by decide +kernel, rfl⟩
theorem d_S_init_22 : cd_D 1 b_S_init 22 .return_ 23 := ⟨by decide +kernel, rfl⟩
theorem c_S_init {l : Launch} {w : cd_WT} {S : cd_Sp} {I : cd_Mem} {s a : Nat} (hs : S.2.1 s = (1, 2)) (hsl : w.1 ≤ s) (ha : a = w.1 + S.1) (hsa : s ≠ a) : cd_C l w m_S_init 1 1 24 [.ref s] S I (fun r S' I' => r = none ∧ S' = cd_sr (cd_al S a (2, 24)) s 2 a ∧ ∃ R, I' = cd_set (cd_set I s R) a (fun _ => nI 0) ∧ R 0 = (-1) ∧ R 1 = nI 0) := by
  refine cd_intro (by decide) (by simp [Value.category]) (Nat.le_of_ble_eq_true rfl) ?_
  intro X hO hE
  show cd_J w X 0 0 S I 0 [some (.ref s)] []
  refine r_aload hO d_S_init_0 rfl ?_
  refine r_objI hO hE lk_S_3 oi_i oi_c (by omega) rfl (Nat.le_of_ble_eq_true rfl) d_S_init_1 ?_
  try simp (disch := omega) only [cd_set_eq, cd_set_ne, cd_set_set]
  refine r_aload hO d_S_init_4 rfl ?_
  refine r_k hO d_S_init_5 ?_
  refine r_putI hO f_S_9 rfl hs hsl d_S_init_6 ?_
  try simp (disch := omega) only [cd_set_eq, cd_set_ne, cd_set_set]
  refine r_aload hO d_S_init_9 rfl ?_
  refine r_k hO d_S_init_10 ?_
  refine r_putI hO f_S_15 rfl hs hsl d_S_init_11 ?_
  try simp (disch := omega) only [cd_set_eq, cd_set_ne, cd_set_set]
  refine r_aload hO d_S_init_14 rfl ?_
  refine r_k hO d_S_init_15 ?_
  refine r_na0 (a) hO (ha) (N := 24) (by decide) d_S_init_17 (by omega) (by omega) ?_
  refine r_putFR hO hE f_S_18 rfl rfl rfl rfl (show (cd_al S a (2, 24)).2.1 s = (1, 2) by rw [cd_al_n hsa]; exact hs) hsl d_S_init_19 ?_
  try simp (disch := omega) only [cd_set_eq, cd_set_ne, cd_set_set]
  refine r_vret hO hE (by omega) (by omega) d_S_init_22 ?_
  exact ⟨rfl, rfl, _, rfl, rfl, rfl⟩
theorem d_L_init_0 : cd_D_aload b_L_init 0 0 1 := Or.inr ⟨0, ⟨by decide +kernel, rfl⟩, rfl⟩
theorem d_L_init_1 : cd_D 3 b_L_init 1 (.invokespecial 3) 4 := ⟨by decide +kernel, rfl⟩
theorem d_L_init_4 : cd_D_aload b_L_init 4 0 5 := Or.inr ⟨0, ⟨by decide +kernel, rfl⟩, rfl⟩
theorem d_L_init_5 : cd_Dk b_L_init 5 (nI 0) 6 := Or.inl ⟨0, ⟨by decide +kernel, rfl⟩, by decide +kernel⟩
theorem d_L_init_6 : cd_D 3 b_L_init 6 (.putfield 9) 9 := ⟨by decide +kernel, rfl⟩
theorem d_L_init_9 : cd_D_aload b_L_init 9 0 10 := Or.inr ⟨0, ⟨by decide +kernel, rfl⟩, rfl⟩
theorem d_L_init_10 : cd_Dk b_L_init 10 (nI 0) 11 := Or.inl ⟨0, ⟨by decide +kernel, rfl⟩, by decide +kernel⟩
theorem d_L_init_11 : cd_D 3 b_L_init 11 (.putfield 15) 14 := ⟨by decide +kernel, rfl⟩
theorem d_L_init_14 : cd_D_aload b_L_init 14 0 15 := Or.inr ⟨0, ⟨by decide +kernel, rfl⟩, rfl⟩
theorem d_L_init_15 : cd_D 3 b_L_init 15 (.new 18) 18 := ⟨by decide +kernel, rfl⟩
theorem d_L_init_18 : cd_D 1 b_L_init 18 .dup 19 := ⟨by decide +kernel, rfl⟩
theorem d_L_init_19 : cd_D 3 b_L_init 19 (.invokespecial 20) 22 := ⟨by decide +kernel, rfl⟩
theorem d_L_init_22 : cd_D 3 b_L_init 22 (.putfield 21) 25 := ⟨by decide +kernel, rfl⟩
theorem d_L_init_25 : cd_D_aload b_L_init 25 0 26 := Or.inr ⟨0, ⟨by decide +kernel, rfl⟩, rfl⟩
theorem d_L_init_26 : cd_D 3 b_L_init 26 (.new 25) 29 := ⟨by decide +kernel, rfl⟩
theorem d_L_init_29 : cd_D 1 b_L_init 29 .dup 30 := ⟨by decide +kernel, rfl⟩
theorem d_L_init_30 : cd_D 3 b_L_init 30 (.invokespecial 27) 33 := ⟨by decide +kernel, rfl⟩
theorem d_L_init_33 : cd_D 3 b_L_init 33 (.putfield 28) 36 := ⟨by decide +kernel, rfl⟩
theorem d_L_init_36 : cd_D 1 b_L_init 36 .return_ 37 := ⟨by decide +kernel, rfl⟩
theorem c_L_init {l : Launch} {w : cd_WT} {S : cd_Sp} {I : cd_Mem} {s : Nat} (hs : S.2.1 s = (1, 3)) (hsl : w.1 ≤ s) (ha : s + 1 = w.1 + S.1) : cd_C l w m_L_init 2 3 32 [.ref s] S I (fun r S' I' => r = none ∧ S'.1 = S.1 + 3 ∧ (∀ b, b < s + 1 ∨ s + 4 ≤ b → S'.2.1 b = S.2.1 b ∧ (b ≠ s → S'.2.2 b = S.2.2 b)) ∧ S'.2.1 s = (1, 3) ∧ S'.2.2 s 2 = some (s + 1) ∧ S'.2.2 s 3 = some (s + 2) ∧ S'.2.1 (s + 1) = (1, 0) ∧ cd_SH S' (s + 2) ∧ I' s 0 = nI 0 ∧ I' s 1 = nI 0 ∧ ∀ b, b < s + 1 ∨ s + 4 ≤ b → b ≠ s → I' b = I b) := by
  refine cd_intro (by decide) (by simp [Value.category]) (Nat.le_of_ble_eq_true rfl) ?_
  intro X hO hE
  show cd_J w X 0 0 S I 0 [some (.ref s)] []
  refine r_aload hO d_L_init_0 rfl ?_
  refine r_objI hO hE lk_L_3 oi_i oi_c (by omega) rfl (Nat.le_of_ble_eq_true rfl) d_L_init_1 ?_
  try simp (disch := omega) only [cd_set_eq, cd_set_ne, cd_set_set]
  refine r_aload hO d_L_init_4 rfl ?_
  refine r_k hO d_L_init_5 ?_
  refine r_putI hO f_L_9 rfl hs hsl d_L_init_6 ?_
  try simp (disch := omega) only [cd_set_eq, cd_set_ne, cd_set_set]
  refine r_aload hO d_L_init_9 rfl ?_
  refine r_k hO d_L_init_10 ?_
  refine r_putI hO f_L_15 rfl hs hsl d_L_init_11 ?_
  try simp (disch := omega) only [cd_set_eq, cd_set_ne, cd_set_set]
  refine r_aload hO d_L_init_14 rfl ?_
  refine r_newa (s + 1) hO (ha) cd_ci0 df_A cl_L_18 in_A it_A d_L_init_15 (by omega) (by omega) ?_
  refine r_dup hO d_L_init_18 rfl ?_
  refine cd_callIN (rest := [.ref (s + 1), .ref s]) hO hE.1 (c_A_init (a := s + 1) (cd_al_e _ _ _) (by omega)) mf_A_init ln_L_20 (by decide) rfl rfl rfl (Nat.le_of_ble_eq_true rfl) d_L_init_19 ⟨by omega, by omega⟩ ?_
  rintro r S1 I1 ⟨rfl, rfl, RA, rfl, hRA⟩
  show cd_J w X _ _ (cd_al S (s + 1) (1, 0)) _ 22 [some (.ref s)] [.ref (s + 1), .ref s]
  rw [cd_set_set]
  try simp (disch := omega) only [cd_set_eq, cd_set_ne, cd_set_set]
  refine r_putFR hO hE f_L_21 rfl rfl rfl rfl (by simp (disch := omega) only [cd_al_n, cd_al_e, cd_sr_s, cd_sr_e, cd_sr_o, cd_sr_n, cd_al_rn]; exact hs) hsl d_L_init_22 ?_
  try simp (disch := omega) only [cd_set_eq, cd_set_ne, cd_set_set]
  refine r_aload hO d_L_init_25 rfl ?_
  refine r_newa (s + 2) hO (show s + 2 = w.1 + (S.1 + 1) by omega) cd_ci2 df_S cl_L_25 in_S it_S d_L_init_26 (by omega) (by omega) ?_
  refine r_dup hO d_L_init_29 rfl ?_
  refine cd_callIN (rest := [.ref (s + 2), .ref s]) hO hE.1 (c_S_init (s := s + 2) (a := s + 3) (cd_al_e _ _ _) (by omega) (show s + 3 = w.1 + (S.1 + 1 + 1) by omega) (by omega)) mf_S_init ln_L_27 (by decide) rfl rfl rfl (Nat.le_of_ble_eq_true rfl) d_L_init_30 ⟨by omega, by omega⟩ ?_
  rintro r S1 I1 ⟨rfl, rfl, RS, rfl, hRS⟩
  show cd_J w X _ _ (cd_sr (cd_al (cd_al (cd_sr (cd_al S (s + 1) (1, 0)) s 2 (s + 1)) (s + 2) (1, 2)) (s + 3) (2, 24)) (s + 2) 2 (s + 3)) _ 33 [some (.ref s)] [.ref (s + 2), .ref s]
  rw [cd_set_set]
  try simp (disch := omega) only [cd_set_eq, cd_set_ne, cd_set_set]
  refine r_putFR hO hE f_L_28 rfl rfl rfl rfl (by simp (disch := omega) only [cd_al_n, cd_al_e, cd_sr_s, cd_sr_e, cd_sr_o, cd_sr_n, cd_al_rn]; exact hs) hsl d_L_init_33 ?_
  try simp (disch := omega) only [cd_set_eq, cd_set_ne, cd_set_set]
  refine r_vret hO hE (by omega) (by omega) d_L_init_36 ?_
  refine ⟨rfl, rfl, fun b hb => ⟨?_, fun h => ?_⟩, ?_, ?_, ?_, ?_, ⟨?_, ?_, ?_⟩, ?_, ?_, fun b hb hb2 => ?_⟩
  · simp (disch := omega) only [cd_al_n, cd_al_e, cd_sr_s, cd_sr_e, cd_sr_o, cd_sr_n, cd_al_rn]
  · simp (disch := omega) only [cd_al_n, cd_al_e, cd_sr_s, cd_sr_e, cd_sr_o, cd_sr_n, cd_al_rn]
  · simp (disch := omega) only [cd_al_n, cd_al_e, cd_sr_s, cd_sr_e, cd_sr_o, cd_sr_n, cd_al_rn]; exact hs
  · simp (disch := omega) only [cd_al_n, cd_al_e, cd_sr_s, cd_sr_e, cd_sr_o, cd_sr_n, cd_al_rn]
  · simp (disch := omega) only [cd_al_n, cd_al_e, cd_sr_s, cd_sr_e, cd_sr_o, cd_sr_n, cd_al_rn]
  · simp (disch := omega) only [cd_al_n, cd_al_e, cd_sr_s, cd_sr_e, cd_sr_o, cd_sr_n, cd_al_rn]
  · simp (disch := omega) only [cd_al_n, cd_al_e, cd_sr_s, cd_sr_e, cd_sr_o, cd_sr_n, cd_al_rn]
  · simp (disch := omega) only [cd_al_n, cd_al_e, cd_sr_s, cd_sr_e, cd_sr_o, cd_sr_n, cd_al_rn]
  · simp (disch := omega) only [cd_al_n, cd_al_e, cd_sr_s, cd_sr_e, cd_sr_o, cd_sr_n, cd_al_rn]
  · simp (disch := omega) only [cd_set_eq, cd_set_ne]; rfl
  · simp (disch := omega) only [cd_set_eq, cd_set_ne]; rfl
  · simp (disch := omega) only [cd_set_ne]
theorem d_T_init_0 : cd_D_aload b_T_init 0 0 1 := Or.inr ⟨0, ⟨by decide +kernel, rfl⟩, rfl⟩
theorem d_T_init_1 : cd_D 3 b_T_init 1 (.invokespecial 3) 4 := ⟨by decide +kernel, rfl⟩
theorem d_T_init_4 : cd_D_aload b_T_init 4 0 5 := Or.inr ⟨0, ⟨by decide +kernel, rfl⟩, rfl⟩
theorem d_T_init_5 : cd_Dk b_T_init 5 (nI 0) 6 := Or.inl ⟨0, ⟨by decide +kernel, rfl⟩, by decide +kernel⟩
theorem d_T_init_6 : cd_D 3 b_T_init 6 (.putfield 9) 9 := ⟨by decide +kernel, rfl⟩
theorem d_T_init_9 : cd_D_aload b_T_init 9 0 10 := Or.inr ⟨0, ⟨by decide +kernel, rfl⟩, rfl⟩
theorem d_T_init_10 : cd_Dk b_T_init 10 (nI 0) 11 := Or.inl ⟨0, ⟨by decide +kernel, rfl⟩, by decide +kernel⟩
theorem d_T_init_11 : cd_D 3 b_T_init 11 (.putfield 15) 14 := ⟨by decide +kernel, rfl⟩
theorem d_T_init_14 : cd_D_aload b_T_init 14 0 15 := Or.inr ⟨0, ⟨by decide +kernel, rfl⟩, rfl⟩
theorem d_T_init_15 : cd_Dk b_T_init 15 (nI 0) 16 := Or.inl ⟨0, ⟨by decide +kernel, rfl⟩, by decide +kernel⟩
theorem d_T_init_16 : cd_D 3 b_T_init 16 (.putfield 18) 19 := ⟨by decide +kernel, rfl⟩
theorem d_T_init_19 : cd_D_aload b_T_init 19 0 20 := Or.inr ⟨0, ⟨by decide +kernel, rfl⟩, rfl⟩
theorem d_T_init_20 : cd_Dk b_T_init 20 (nI 0) 21 := Or.inl ⟨0, ⟨by decide +kernel, rfl⟩, by decide +kernel⟩
theorem d_T_init_21 : cd_D 3 b_T_init 21 (.putfield 21) 24 := ⟨by decide +kernel, rfl⟩
theorem d_T_init_24 : cd_D_aload b_T_init 24 0 25 := Or.inr ⟨0, ⟨by decide +kernel, rfl⟩, rfl⟩
theorem d_T_init_25 : cd_Dk b_T_init 25 (nI 0) 26 := Or.inl ⟨0, ⟨by decide +kernel, rfl⟩, by decide +kernel⟩
theorem d_T_init_26 : cd_D 3 b_T_init 26 (.putfield 24) 29 := ⟨by decide +kernel, rfl⟩
theorem d_T_init_29 : cd_D_aload b_T_init 29 0 30 := Or.inr ⟨0, ⟨by decide +kernel, rfl⟩, rfl⟩
theorem d_T_init_30 : cd_Dk b_T_init 30 (nI 0) 31 := Or.inl ⟨0, ⟨by decide +kernel, rfl⟩, by decide +kernel⟩
theorem d_T_init_31 : cd_D 3 b_T_init 31 (.putfield 27) 34 := ⟨by decide +kernel, rfl⟩
theorem d_T_init_34 : cd_D_aload b_T_init 34 0 35 := Or.inr ⟨0, ⟨by decide +kernel, rfl⟩, rfl⟩
theorem d_T_init_35 : cd_Dk b_T_init 35 (nI 0) 36 := Or.inl ⟨0, ⟨by decide +kernel, rfl⟩, by decide +kernel⟩
theorem d_T_init_36 : cd_D 3 b_T_init 36 (.putfield 30) 39 := ⟨by decide +kernel, rfl⟩
theorem d_T_init_39 : cd_D_aload b_T_init 39 0 40 := Or.inr ⟨0, ⟨by decide +kernel, rfl⟩, rfl⟩
theorem d_T_init_40 : cd_Dk b_T_init 40 (nI 96) 42 := Or.inr (Or.inl ⟨96, ⟨by decide +kernel, rfl⟩, by decide +kernel⟩)
theorem d_T_init_42 : cd_D 2 b_T_init 42 (.newarray .byte) 44 := ⟨by decide +kernel, rfl⟩
theorem d_T_init_44 : cd_D 3 b_T_init 44 (.putfield 33) 47 := ⟨by decide +kernel, rfl⟩
theorem d_T_init_47 : cd_D_aload b_T_init 47 0 48 := Or.inr ⟨0, ⟨by decide +kernel, rfl⟩, rfl⟩
theorem d_T_init_48 : cd_Dk b_T_init 48 (nI 96) 50 := Or.inr (Or.inl ⟨96, ⟨by decide +kernel, rfl⟩, by decide +kernel⟩)
theorem d_T_init_50 : cd_D 2 b_T_init 50 (.newarray .int) 52 := ⟨by decide +kernel, rfl⟩
theorem d_T_init_52 : cd_D 3 b_T_init 52 (.putfield 37) 55 := ⟨by decide +kernel, rfl⟩
theorem d_T_init_55 : cd_D 1 b_T_init 55 .return_ 56 := ⟨by decide +kernel, rfl⟩
theorem c_T_init {l : Launch} {w : cd_WT} {S : cd_Sp} {I : cd_Mem} {t : Nat} (ht : S.2.1 t = (1, 4)) (htl : w.1 ≤ t) (ha : t + 1 = w.1 + S.1) : cd_C l w m_T_init 1 2 192 [.ref t] S I (fun r S' I' => r = none ∧ S'.1 = S.1 + 2 ∧ (∀ b, b < t + 1 ∨ t + 3 ≤ b → S'.2.1 b = S.2.1 b ∧ (b ≠ t → S'.2.2 b = S.2.2 b)) ∧ (S'.2.1 t = (1, 4) ∧ S'.2.2 t 7 = some (t + 1) ∧ S'.2.2 t 8 = some (t + 2) ∧ S'.2.1 (t + 1) = (3, 96) ∧ S'.2.1 (t + 2) = (2, 96)) ∧ I' t 0 = nI 0 ∧ ∀ b, b < t + 1 ∨ t + 3 ≤ b → b ≠ t → I' b = I b) := by
  refine cd_intro (by decide) (by simp [Value.category]) (Nat.le_of_ble_eq_true rfl) ?_
  intro X hO hE
  show cd_J w X 0 0 S I 0 [some (.ref t)] []
  refine r_aload hO d_T_init_0 rfl ?_
  refine r_objI hO hE lk_T_3 oi_i oi_c (by omega) rfl (Nat.le_of_ble_eq_true rfl) d_T_init_1 ?_
  try simp (disch := omega) only [cd_set_eq, cd_set_ne, cd_set_set]
  refine r_aload hO d_T_init_4 rfl ?_
  refine r_k hO d_T_init_5 ?_
  refine r_putI hO f_T_9 rfl ht htl d_T_init_6 ?_
  try simp (disch := omega) only [cd_set_eq, cd_set_ne, cd_set_set]
  refine r_aload hO d_T_init_9 rfl ?_
  refine r_k hO d_T_init_10 ?_
  refine r_putI hO f_T_15 rfl ht htl d_T_init_11 ?_
  try simp (disch := omega) only [cd_set_eq, cd_set_ne, cd_set_set]
  refine r_aload hO d_T_init_14 rfl ?_
  refine r_k hO d_T_init_15 ?_
  refine r_putI hO f_T_18 rfl ht htl d_T_init_16 ?_
  try simp (disch := omega) only [cd_set_eq, cd_set_ne, cd_set_set]
  refine r_aload hO d_T_init_19 rfl ?_
  refine r_k hO d_T_init_20 ?_
  refine r_putI hO f_T_21 rfl ht htl d_T_init_21 ?_
  try simp (disch := omega) only [cd_set_eq, cd_set_ne, cd_set_set]
  refine r_aload hO d_T_init_24 rfl ?_
  refine r_k hO d_T_init_25 ?_
  refine r_putI hO f_T_24 rfl ht htl d_T_init_26 ?_
  try simp (disch := omega) only [cd_set_eq, cd_set_ne, cd_set_set]
  refine r_aload hO d_T_init_29 rfl ?_
  refine r_k hO d_T_init_30 ?_
  refine r_putI hO f_T_27 rfl ht htl d_T_init_31 ?_
  try simp (disch := omega) only [cd_set_eq, cd_set_ne, cd_set_set]
  refine r_aload hO d_T_init_34 rfl ?_
  refine r_k hO d_T_init_35 ?_
  refine r_putI hO f_T_30 rfl ht htl d_T_init_36 ?_
  try simp (disch := omega) only [cd_set_eq, cd_set_ne, cd_set_set]
  refine r_aload hO d_T_init_39 rfl ?_
  refine r_k hO d_T_init_40 ?_
  refine r_na1 (t + 1) hO (ha) (N := 96) (by decide) d_T_init_42 (by omega) (by omega) ?_
  refine r_putFR hO hE f_T_33 rfl rfl rfl rfl (by simp (disch := omega) only [cd_al_n, cd_al_e, cd_sr_s, cd_sr_e, cd_sr_o, cd_sr_n, cd_al_rn]; exact ht) htl d_T_init_44 ?_
  try simp (disch := omega) only [cd_set_eq, cd_set_ne, cd_set_set]
  refine r_aload hO d_T_init_47 rfl ?_
  refine r_k hO d_T_init_48 ?_
  refine r_na0 (t + 2) hO (show t + 2 = w.1 + (S.1 + 1) by omega) (N := 96) (by decide) d_T_init_50 (by omega) (by omega) ?_
  refine r_putFR hO hE f_T_37 rfl rfl rfl rfl (by simp (disch := omega) only [cd_al_n, cd_al_e, cd_sr_s, cd_sr_e, cd_sr_o, cd_sr_n, cd_al_rn]; exact ht) htl d_T_init_52 ?_
  try simp (disch := omega) only [cd_set_eq, cd_set_ne, cd_set_set]
  refine r_vret hO hE (by omega) (by omega) d_T_init_55 ?_
  refine ⟨rfl, rfl, fun b hb => ⟨?_, fun h => ?_⟩, ⟨?_, ?_, ?_, ?_, ?_⟩, ?_, fun b hb hb2 => ?_⟩
  · simp (disch := omega) only [cd_al_n, cd_al_e, cd_sr_s, cd_sr_e, cd_sr_o, cd_sr_n, cd_al_rn]
  · simp (disch := omega) only [cd_al_n, cd_al_e, cd_sr_s, cd_sr_e, cd_sr_o, cd_sr_n, cd_al_rn]
  · simp (disch := omega) only [cd_al_n, cd_al_e, cd_sr_s, cd_sr_e, cd_sr_o, cd_sr_n, cd_al_rn]; exact ht
  · simp (disch := omega) only [cd_al_n, cd_al_e, cd_sr_s, cd_sr_e, cd_sr_o, cd_sr_n, cd_al_rn]
  · simp (disch := omega) only [cd_al_n, cd_al_e, cd_sr_s, cd_sr_e, cd_sr_o, cd_sr_n, cd_al_rn]
  · simp (disch := omega) only [cd_al_n, cd_al_e, cd_sr_s, cd_sr_e, cd_sr_o, cd_sr_n, cd_al_rn]
  · simp (disch := omega) only [cd_al_n, cd_al_e, cd_sr_s, cd_sr_e, cd_sr_o, cd_sr_n, cd_al_rn]
  · simp (disch := omega) only [cd_set_eq, cd_set_ne]; rfl
  · simp (disch := omega) only [cd_set_ne]
