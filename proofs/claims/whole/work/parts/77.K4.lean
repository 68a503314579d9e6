theorem d_C_init_0 : cd_D_aload b_C_init 0 0 1 := Or.inr ⟨0, ⟨by decide +kernel, rfl⟩, rfl⟩
theorem d_C_init_1 : cd_D 3 b_C_init 1 (.invokespecial 1) 4 := ⟨by decide +kernel, rfl⟩
theorem d_C_init_4 : cd_D_aload b_C_init 4 0 5 := Or.inr ⟨0, ⟨by decide +kernel, rfl⟩, rfl⟩
theorem d_C_init_5 : cd_D 3 b_C_init 5 (.new 7) 8 := ⟨by decide +kernel, rfl⟩
theorem d_C_init_8 : cd_D 1 b_C_init 8 .dup 9 := ⟨by decide +kernel, rfl⟩
theorem d_C_init_9 : cd_D 3 b_C_init 9 (.invokespecial 9) 12 := ⟨by decide +kernel, rfl⟩
theorem d_C_init_12 : cd_D 3 b_C_init 12 (.putfield 10) 15 := ⟨by decide +kernel, rfl⟩
theorem d_C_init_15 : cd_D_aload b_C_init 15 0 16 := Or.inr ⟨0, ⟨by decide +kernel, rfl⟩, rfl⟩
theorem d_C_init_16 : cd_D 3 b_C_init 16 (.new 7) 19 := ⟨by decide +kernel, rfl⟩
theorem d_C_init_19 : cd_D 1 b_C_init 19 .dup 20 := ⟨by decide +kernel, rfl⟩
theorem d_C_init_20 : cd_D 3 b_C_init 20 (.invokespecial 9) 23 := ⟨by decide +kernel, rfl⟩
theorem d_C_init_23 : cd_D 3 b_C_init 23 (.putfield 16) 26 := ⟨by decide +kernel, rfl⟩
theorem d_C_init_26 : cd_D_aload b_C_init 26 0 27 := Or.inr ⟨0, ⟨by decide +kernel, rfl⟩, rfl⟩
theorem d_C_init_27 : cd_D 3 b_C_init 27 (.new 7) 30 := ⟨by decide +kernel, rfl⟩
theorem d_C_init_30 : cd_D 1 b_C_init 30 .dup 31 := ⟨by decide +kernel, rfl⟩
theorem d_C_init_31 : cd_D 3 b_C_init 31 (.invokespecial 9) 34 := ⟨by decide +kernel, rfl⟩
theorem d_C_init_34 : cd_D 3 b_C_init 34 (.putfield 19) 37 := ⟨by decide +kernel, rfl⟩
theorem d_C_init_37 : cd_D_aload b_C_init 37 0 38 := Or.inr ⟨0, ⟨by decide +kernel, rfl⟩, rfl⟩
theorem d_C_init_38 : cd_Dk b_C_init 38 (nI 0) 39 := Or.inl ⟨0, ⟨by decide +kernel, rfl⟩, by decide +kernel⟩
theorem d_C_init_39 : cd_D 3 b_C_init 39 (.putfield 22) 42 := ⟨by decide +kernel, rfl⟩
theorem d_C_init_42 : cd_D_aload b_C_init 42 0 43 := Or.inr ⟨0, ⟨by decide +kernel, rfl⟩, rfl⟩
theorem d_C_init_43 : cd_D 3 b_C_init 43 (.new 26) 46 := ⟨by decide +kernel, rfl⟩
theorem d_C_init_46 : cd_D 1 b_C_init 46 .dup 47 := ⟨by decide +kernel, rfl⟩
theorem d_C_init_47 : cd_D 3 b_C_init 47 (.invokespecial 28) 50 := ⟨by decide +kernel, rfl⟩
theorem d_C_init_50 : cd_D 3 b_C_init 50 (.putfield 29) 53 := ⟨by decide +kernel, rfl⟩
theorem d_C_init_53 : cd_D_aload b_C_init 53 0 54 := Or.inr ⟨0, ⟨by decide +kernel, rfl⟩, rfl⟩
theorem d_C_init_54 : cd_Dk b_C_init 54 (nI 4) 55 := Or.inl ⟨4, ⟨by decide +kernel, rfl⟩, by decide +kernel⟩
theorem d_C_init_55 : cd_D 3 b_C_init 55 (.anewarray 33) 58 := ⟨by decide +kernel, rfl⟩
theorem d_C_init_58 : cd_D 3 b_C_init 58 (.putfield 35) 61 := ⟨by decide +kernel, rfl⟩
theorem d_C_init_61 : cd_D_aload b_C_init 61 0 62 := Or.inr ⟨0, ⟨by decide +kernel, rfl⟩, rfl⟩
theorem d_C_init_62 : cd_Dk b_C_init 62 (nI 5) 63 := Or.inl ⟨5, ⟨by decide +kernel, rfl⟩, by decide +kernel⟩
theorem d_C_init_63 : cd_D 3 b_C_init 63 (.anewarray 39) 66 := ⟨by decide +kernel, rfl⟩
theorem d_C_init_66 : cd_D 3 b_C_init 66 (.putfield 41) 69 := ⟨by decide +kernel, rfl⟩
theorem d_C_init_69 : cd_D_aload b_C_init 69 0 70 := Or.inr ⟨0, ⟨by decide +kernel, rfl⟩, rfl⟩
theorem d_C_init_70 : cd_Dk b_C_init 70 (nI 60) 72 := Or.inr (Or.inl ⟨60, ⟨by decide +kernel, rfl⟩, by decide +kernel⟩)
theorem d_C_init_72 : cd_D 2 b_C_init 72 (.newarray .int) 74 := ⟨by decide +kernel, rfl⟩
theorem d_C_init_74 : cd_D 3 b_C_init 74 (.putfield 45) 77 := ⟨by decide +kernel, rfl⟩
theorem d_C_init_77 : cd_D_aload b_C_init 77 0 78 := Or.inr ⟨0, ⟨by decide +kernel, rfl⟩, rfl⟩
theorem d_C_init_78 : cd_Dk b_C_init 78 (nI 0) 79 := Or.inl ⟨0, ⟨by decide +kernel, rfl⟩, by decide +kernel⟩
theorem d_C_init_79 : cd_D 3 b_C_init 79 (.putfield 49) 82 := ⟨by decide +kernel, rfl⟩
theorem d_C_init_82 : cd_D_aload b_C_init 82 0 83 := Or.inr ⟨0, ⟨by decide +kernel, rfl⟩, rfl⟩
theorem d_C_init_83 : cd_Dk b_C_init 83 (nI 12) 85 := Or.inr (Or.inl ⟨12, ⟨by decide +kernel, rfl⟩, by decide +kernel⟩)
theorem d_C_init_85 : cd_D 2 b_C_init 85 (.newarray .int) 87 := ⟨by decide +kernel, rfl⟩
theorem d_C_init_87 : cd_D 3 b_C_init 87 (.putfield 53) 90 := ⟨by decide +kernel, rfl⟩
theorem d_C_init_90 : cd_Dk b_C_init 90 (nI 0) 91 := Or.inl ⟨0, ⟨by decide +kernel, rfl⟩, by decide +kernel⟩
theorem d_C_init_91 : cd_D_istore b_C_init 91 1 92 := Or.inr ⟨1, ⟨by decide +kernel, rfl⟩, rfl⟩
theorem d_C_init_92 : cd_D_iload b_C_init 92 1 93 := Or.inr ⟨1, ⟨by decide +kernel, rfl⟩, rfl⟩
theorem d_C_init_93 : cd_Dk b_C_init 93 (nI 4) 94 := Or.inl ⟨4, ⟨by decide +kernel, rfl⟩, by decide +kernel⟩
theorem d_C_init_94 : cd_D_icmp_ge b_C_init 94 116 97 := ⟨22, by decide +kernel, by decide, rfl⟩
theorem d_C_init_97 : cd_D_aload b_C_init 97 0 98 := Or.inr ⟨0, ⟨by decide +kernel, rfl⟩, rfl⟩
theorem d_C_init_98 : cd_D 3 b_C_init 98 (.getfield 35) 101 := ⟨by decide +kernel, rfl⟩
theorem d_C_init_101 : cd_D_iload b_C_init 101 1 102 := Or.inr ⟨1, ⟨by decide +kernel, rfl⟩, rfl⟩
theorem d_C_init_102 : cd_D 3 b_C_init 102 (.new 33) 105 := ⟨by decide +kernel, rfl⟩
theorem d_C_init_105 : cd_D 1 b_C_init 105 .dup 106 := ⟨by decide +kernel, rfl⟩
theorem d_C_init_106 : cd_D 3 b_C_init 106 (.invokespecial 56) 109 := ⟨by decide +kernel, rfl⟩
theorem d_C_init_109 : cd_D 1 b_C_init 109 .aastore 110 := ⟨by decide +kernel, rfl⟩
theorem d_C_init_110 : cd_D 3 b_C_init 110 (.iinc 1 (1)) 113 := ⟨by decide +kernel, rfl⟩
theorem d_C_init_113 : cd_D_goto b_C_init 113 92 := ⟨-21, by decide +kernel, by decide⟩
theorem d_C_init_116 : cd_Dk b_C_init 116 (nI 0) 117 := Or.inl ⟨0, ⟨by decide +kernel, rfl⟩, by decide +kernel⟩
theorem d_C_init_117 : cd_D_istore b_C_init 117 1 118 := Or.inr ⟨1, ⟨by decide +kernel, rfl⟩, rfl⟩
theorem d_C_init_118 : cd_D_iload b_C_init 118 1 119 := Or.inr ⟨1, ⟨by decide +kernel, rfl⟩, rfl⟩
theorem d_C_init_119 : cd_Dk b_C_init 119 (nI 5) 120 := Or.inl ⟨5, ⟨by decide +kernel, rfl⟩, by decide +kernel⟩
theorem d_C_init_120 : cd_D_icmp_ge b_C_init 120 142 123 := ⟨22, by decide +kernel, by decide, rfl⟩
theorem d_C_init_123 : cd_D_aload b_C_init 123 0 124 := Or.inr ⟨0, ⟨by decide +kernel, rfl⟩, rfl⟩
theorem d_C_init_124 : cd_D 3 b_C_init 124 (.getfield 41) 127 := ⟨by decide +kernel, rfl⟩
theorem d_C_init_127 : cd_D_iload b_C_init 127 1 128 := Or.inr ⟨1, ⟨by decide +kernel, rfl⟩, rfl⟩
theorem d_C_init_128 : cd_D 3 b_C_init 128 (.new 39) 131 := ⟨by decide +kernel, rfl⟩
theorem d_C_init_131 : cd_D 1 b_C_init 131 .dup 132 := ⟨by decide +kernel, rfl⟩
theorem d_C_init_132 : cd_D 3 b_C_init 132 (.invokespecial 57) 135 := ⟨by decide +kernel, rfl⟩
theorem d_C_init_135 : cd_D 1 b_C_init 135 .aastore 136 := ⟨by decide +kernel, rfl⟩
theorem d_C_init_136 : cd_D 3 b_C_init 136 (.iinc 1 (1)) 139 := ⟨by decide +kernel, rfl⟩
theorem d_C_init_139 : cd_D_goto b_C_init 139 118 := ⟨-21, by decide +kernel, by decide⟩
theorem d_C_init_142 : cd_D 1 b_C_init 142 .return_ 143 := ⟨by decide +kernel, rfl⟩
theorem c_C_init {l : Launch} {w : cd_WT} {S : cd_Sp} {I : cd_Mem} (hc : S.2.1 w.1 = (1, 6)) (hS1 : S.1 = 1) : cd_C l w m_C_init 4 89 900 [.ref w.1] S I (fun r S' I' => r = none ∧ px_CN w S S' I') := by
  refine cd_intro (by decide) (by simp [Value.category]) (Nat.le_of_ble_eq_true rfl) ?_
  intro X hO hE
  show cd_J w X 0 0 S I 0 [some (.ref w.1), none] []
  have loop2 : ∀ (r j kk nn : Nat) (S2 : cd_Sp) (I2 : cd_Mem), j + r = 5 → px_C4 w S S2 I2 j → kk = 69 + 4 * j → nn = 720 + 36 * j → cd_J w X kk nn S2 I2 118 [some (.ref w.1), some (.int (nI j))] [] := by
    intro r
    induction r with
    | zero =>
      intro j kk nn S2 I2 hj H hkk hnn
      have hj5 : j = 5 := by omega
      subst hj5
      refine r_iload hO d_C_init_118 rfl ?_
      refine r_k hO d_C_init_119 ?_
      refine r_icmp_ge hO d_C_init_120 (fun c_120 => ?_) (fun c_120 => ?_)
      · refine r_vret hO hE (by omega) (by omega) d_C_init_142 ?_
        exact ⟨rfl, H.fin⟩
      · exact absurd (by decide) c_120
    | succ r ih =>
      intro j kk nn S2 I2 hj H hkk hnn
      have h1 := H.1
      refine r_iload hO d_C_init_118 rfl ?_
      refine r_k hO d_C_init_119 ?_
      refine r_icmp_ge hO d_C_init_120 (fun c_120 => ?_) (fun c_120 => ?_)
      · exact absurd c_120 (nI_ge (by omega) (by omega))
      · refine r_aload hO d_C_init_123 rfl ?_
        refine r_getR hO f_C_41 rfl H.2.1.1.1 H.2.1.1.2.2.2.2.2.2.1 d_C_init_124 ?_
        refine r_iload hO d_C_init_127 rfl ?_
        refine r_newa (w.1 + 70 + 4 * j) hO (show w.1 + 70 + 4 * j = w.1 + S2.1 by omega) cd_ci3 df_L cl_C_39 in_L it_L d_C_init_128 (by omega) (by omega) ?_
        refine r_dup hO d_C_init_131 rfl ?_
        refine cd_callIN (rest := [.ref (w.1 + 70 + 4 * j), .int (nI j), .ref (w.1 + 59)]) hO hE.1 (c_L_init (s := w.1 + 70 + 4 * j) (cd_al_e _ _ _) (by omega) (show w.1 + 70 + 4 * j + 1 = w.1 + (S2.1 + 1) by omega)) mf_L_init ln_C_57 (by decide) rfl rfl rfl (Nat.le_of_ble_eq_true rfl) d_C_init_132 ⟨by omega, by omega⟩ ?_
        rintro r S3 I3 ⟨rfl, y1, y2, y3, y4, y5, y6, y7, y8, y9, y10⟩
        have a71 : w.1 + 70 + 4 * j + 1 = w.1 + 71 + 4 * j := by omega
        have a72 : w.1 + 70 + 4 * j + 2 = w.1 + 72 + 4 * j := by omega
        rw [a71] at y4 y6
        rw [a72] at y5 y7
        show cd_J w X _ _ S3 I3 135 [some (.ref w.1), some (.int (nI j))] [.ref (w.1 + 70 + 4 * j), .int (nI j), .ref (w.1 + 59)]
        have hst := H.step (by omega) (S3 := S3) (I3 := I3) (show S3.1 = S2.1 + 4 by have q : S3.1 = S2.1 + 1 + 3 := y1; omega) (fun b hb => ⟨by rw [(y2 b (by omega)).1, cd_al_n (by omega)], by rw [(y2 b (by omega)).2 (by omega), cd_al_rn (by omega)]⟩) ⟨y3, y4, y5, y6, y7⟩ y8 (fun b hb => by rw [y10 b (by omega) (by omega), cd_set_ne _ _ (by omega)])
        refine r_aast (t := 7) (c := 3) (r := cd_cls[3]) (N := 5) hO (by rw [(y2 (w.1 + 59) (by omega)).1, cd_al_n (by omega)]; exact H.2.1.2.2.1.2.1) (by decide) (by decide) rfl rfl y3 (by omega) (by omega) (by decide) d_C_init_135 ?_
        refine r_incN1 hO d_C_init_136 rfl ?_
        refine r_goto hO d_C_init_139 ?_
        exact ih (j + 1) _ _ _ _ (by omega) hst (by omega) (by omega)
  have loop1 : ∀ (r i kk nn : Nat) (S2 : cd_Sp) (I2 : cd_Mem), i + r = 4 → px_C3 w S S2 I2 i → kk = 61 + 2 * i → nn = 612 + 27 * i → cd_J w X kk nn S2 I2 92 [some (.ref w.1), some (.int (nI i))] [] := by
    intro r
    induction r with
    | zero =>
      intro i kk nn S2 I2 hi H hkk hnn
      have hi4 : i = 4 := by omega
      subst hi4
      refine r_iload hO d_C_init_92 rfl ?_
      refine r_k hO d_C_init_93 ?_
      refine r_icmp_ge hO d_C_init_94 (fun c_94 => ?_) (fun c_94 => ?_)
      · refine r_k hO d_C_init_116 ?_
        refine r_sI1 hO d_C_init_117 rfl ?_
        exact loop2 5 0 _ _ S2 I2 (by omega) ⟨by have := H.1; omega, H.2.1, H.2.2.1, fun a ha => absurd ha (Nat.not_lt_zero _), fun b hb => H.2.2.2 b (by omega)⟩ (by omega) (by omega)
      · exact absurd (by decide) c_94
    | succ r ih =>
      intro i kk nn S2 I2 hi H hkk hnn
      have h1 := H.1
      refine r_iload hO d_C_init_92 rfl ?_
      refine r_k hO d_C_init_93 ?_
      refine r_icmp_ge hO d_C_init_94 (fun c_94 => ?_) (fun c_94 => ?_)
      · exact absurd c_94 (nI_ge (by omega) (by omega))
      · refine r_aload hO d_C_init_97 rfl ?_
        refine r_getR hO f_C_35 rfl H.2.1.1.1 H.2.1.1.2.2.2.2.2.1 d_C_init_98 ?_
        refine r_iload hO d_C_init_101 rfl ?_
        refine r_newa (w.1 + 62 + 2 * i) hO (show w.1 + 62 + 2 * i = w.1 + S2.1 by omega) cd_ci2 df_S cl_C_33 in_S it_S d_C_init_102 (by omega) (by omega) ?_
        refine r_dup hO d_C_init_105 rfl ?_
        refine cd_callIN (rest := [.ref (w.1 + 62 + 2 * i), .int (nI i), .ref (w.1 + 58)]) hO hE.1 (c_S_init (s := w.1 + 62 + 2 * i) (a := w.1 + 63 + 2 * i) (cd_al_e _ _ _) (by omega) (show w.1 + 63 + 2 * i = w.1 + (S2.1 + 1) by omega) (by omega)) mf_S_init ln_C_56 (by decide) rfl rfl rfl (Nat.le_of_ble_eq_true rfl) d_C_init_106 ⟨by omega, by omega⟩ ?_
        rintro r S3 I3 ⟨rfl, rfl, R, rfl, hR0, hR1⟩
        rw [cd_set_set]
        show cd_J w X _ _ (cd_sr (cd_al (cd_al S2 (w.1 + 62 + 2 * i) (1, 2)) (w.1 + 63 + 2 * i) (2, 24)) (w.1 + 62 + 2 * i) 2 (w.1 + 63 + 2 * i)) _ 109 [some (.ref w.1), some (.int (nI i))] [.ref (w.1 + 62 + 2 * i), .int (nI i), .ref (w.1 + 58)]
        refine r_aast (t := 6) (c := 2) (r := cd_cls[2]) (N := 4) hO (by rw [cd_sr_s, cd_al_n (by omega), cd_al_n (by omega)]; exact H.2.1.2.2.1.1) (by decide) (by decide) rfl rfl (by rw [cd_sr_s, cd_al_n (by omega)]; exact cd_al_e _ _ _) (by omega) (by omega) (by decide) d_C_init_109 ?_
        refine r_incN1 hO d_C_init_110 rfl ?_
        refine r_goto hO d_C_init_113 ?_
        exact ih (i + 1) _ _ _ _ (by omega) (H.step (by omega) hR0 hR1) (by omega) (by omega)
  refine r_aload hO d_C_init_0 rfl ?_
  refine r_objI hO hE lk_C_1 oi_i oi_c (by omega) rfl (Nat.le_of_ble_eq_true rfl) d_C_init_1 ?_
  try simp (disch := omega) only [cd_set_eq, cd_set_ne, cd_set_set]
  refine r_aload hO d_C_init_4 rfl ?_
  refine r_newa (w.1 + 1) hO (show w.1 + 1 = w.1 + S.1 by omega) cd_ci1 df_H cl_C_7 in_H it_H d_C_init_5 (by omega) (by omega) ?_
  refine r_dup hO d_C_init_8 rfl ?_
  refine cd_callI (rest := [.ref (w.1 + 1), .ref w.1]) hO hE.1 (c_H_init (h := w.1 + 1) (cd_al_e _ _ _) (by omega) (show w.1 + 1 + 1 = w.1 + (S.1 + 1) by omega)) mf_H_init lk_C_9 (by decide) rfl rfl rfl (Nat.le_of_ble_eq_true rfl) d_C_init_9 ⟨by omega, by omega⟩ ?_
  rintro r S1 I1 ⟨rfl, HN1⟩
  show cd_J w X _ _ S1 I1 12 [some (.ref w.1), none] [.ref (w.1 + 1), .ref w.1]
  have z1 : S1.1 = 19 := by have q : S1.1 = S.1 + 1 + 17 := HN1.1; omega
  have s1 : S1.2.1 w.1 = (1, 6) := by rw [(HN1.2.1 w.1 (by omega)).1, cd_al_n (by omega)]; exact hc
  have e1 : ∀ b, w.1 + 19 ≤ b → S1.2.1 b = S.2.1 b := fun b hb => by rw [(HN1.2.1 b (by omega)).1, cd_al_n (by omega)]
  have h1 := HN1.h0
  try simp (disch := omega) only [cd_set_eq, cd_set_ne, cd_set_set]
  refine r_putFR hO hE f_C_10 rfl rfl rfl rfl s1 (Nat.le_refl _) d_C_init_12 ?_
  try simp (disch := omega) only [cd_set_eq, cd_set_ne, cd_set_set]
  refine r_aload hO d_C_init_15 rfl ?_
  refine r_newa (w.1 + 19) hO (show w.1 + 19 = w.1 + S1.1 by omega) cd_ci1 df_H cl_C_7 in_H it_H d_C_init_16 (by omega) (by omega) ?_
  refine r_dup hO d_C_init_19 rfl ?_
  refine cd_callI (rest := [.ref (w.1 + 19), .ref w.1]) hO hE.1 (c_H_init (h := w.1 + 19) (cd_al_e _ _ _) (by omega) (show w.1 + 19 + 1 = w.1 + (S1.1 + 1) by omega)) mf_H_init lk_C_9 (by decide) rfl rfl rfl (Nat.le_of_ble_eq_true rfl) d_C_init_20 ⟨by omega, by omega⟩ ?_
  rintro r S2 I2 ⟨rfl, HN2⟩
  show cd_J w X _ _ S2 I2 23 [some (.ref w.1), none] [.ref (w.1 + 19), .ref w.1]
  have z2 : S2.1 = 37 := by have q : S2.1 = S1.1 + 1 + 17 := HN2.1; omega
  have s2 : S2.2.1 w.1 = (1, 6) := by rw [(HN2.2.1 w.1 (by omega)).1]; simp (disch := omega) only [cd_al_n, cd_sr_s, cd_sr_n, cd_al_rn, cd_sr_e, cd_sr_o]; exact s1
  have r20 : S2.2.2 w.1 0 = some (w.1 + 1) := by rw [(HN2.2.1 w.1 (by omega)).2]; simp (disch := omega) only [cd_al_n, cd_sr_s, cd_sr_n, cd_al_rn, cd_sr_e, cd_sr_o]
  have h21 : px_H0 w S2 I2 (w.1 + 1) := h1.cg (fun b b1 b2 => ⟨by rw [(HN2.2.1 b (by omega)).1]; simp (disch := omega) only [cd_al_n, cd_sr_s, cd_sr_n, cd_al_rn, cd_sr_e, cd_sr_o], by rw [(HN2.2.1 b (by omega)).2]; simp (disch := omega) only [cd_al_n, cd_sr_s, cd_sr_n, cd_al_rn, cd_sr_e, cd_sr_o], by rw [HN2.2.2.2.1 b (by omega), cd_set_ne _ _ (by omega)]⟩)
  have e2 : ∀ b, w.1 + 37 ≤ b → S2.2.1 b = S.2.1 b := fun b hb => by rw [(HN2.2.1 b (by omega)).1]; simp (disch := omega) only [cd_al_n, cd_sr_s, cd_sr_n, cd_al_rn, cd_sr_e, cd_sr_o]; exact e1 b (by omega)
  have h22 := HN2.h0
  try simp (disch := omega) only [cd_set_eq, cd_set_ne, cd_set_set]
  refine r_putFR hO hE f_C_16 rfl rfl rfl rfl s2 (Nat.le_refl _) d_C_init_23 ?_
  try simp (disch := omega) only [cd_set_eq, cd_set_ne, cd_set_set]
  refine r_aload hO d_C_init_26 rfl ?_
  refine r_newa (w.1 + 37) hO (show w.1 + 37 = w.1 + S2.1 by omega) cd_ci1 df_H cl_C_7 in_H it_H d_C_init_27 (by omega) (by omega) ?_
  refine r_dup hO d_C_init_30 rfl ?_
  refine cd_callI (rest := [.ref (w.1 + 37), .ref w.1]) hO hE.1 (c_H_init (h := w.1 + 37) (cd_al_e _ _ _) (by omega) (show w.1 + 37 + 1 = w.1 + (S2.1 + 1) by omega)) mf_H_init lk_C_9 (by decide) rfl rfl rfl (Nat.le_of_ble_eq_true rfl) d_C_init_31 ⟨by omega, by omega⟩ ?_
  rintro r S3 I3 ⟨rfl, HN3⟩
  show cd_J w X _ _ S3 I3 34 [some (.ref w.1), none] [.ref (w.1 + 37), .ref w.1]
  have z3 : S3.1 = 55 := by have q : S3.1 = S2.1 + 1 + 17 := HN3.1; omega
  have s3 : S3.2.1 w.1 = (1, 6) := by rw [(HN3.2.1 w.1 (by omega)).1]; simp (disch := omega) only [cd_al_n, cd_sr_s, cd_sr_n, cd_al_rn, cd_sr_e, cd_sr_o]; exact s2
  have r30 : S3.2.2 w.1 0 = some (w.1 + 1) := by rw [(HN3.2.1 w.1 (by omega)).2]; simp (disch := omega) only [cd_al_n, cd_sr_s, cd_sr_n, cd_al_rn, cd_sr_e, cd_sr_o]; exact r20
  have r31 : S3.2.2 w.1 1 = some (w.1 + 19) := by rw [(HN3.2.1 w.1 (by omega)).2]; simp (disch := omega) only [cd_al_n, cd_sr_s, cd_sr_n, cd_al_rn, cd_sr_e, cd_sr_o]
  have h31 : px_H0 w S3 I3 (w.1 + 1) := h21.cg (fun b b1 b2 => ⟨by rw [(HN3.2.1 b (by omega)).1]; simp (disch := omega) only [cd_al_n, cd_sr_s, cd_sr_n, cd_al_rn, cd_sr_e, cd_sr_o], by rw [(HN3.2.1 b (by omega)).2]; simp (disch := omega) only [cd_al_n, cd_sr_s, cd_sr_n, cd_al_rn, cd_sr_e, cd_sr_o], by rw [HN3.2.2.2.1 b (by omega), cd_set_ne _ _ (by omega)]⟩)
  have h32 : px_H0 w S3 I3 (w.1 + 19) := h22.cg (fun b b1 b2 => ⟨by rw [(HN3.2.1 b (by omega)).1]; simp (disch := omega) only [cd_al_n, cd_sr_s, cd_sr_n, cd_al_rn, cd_sr_e, cd_sr_o], by rw [(HN3.2.1 b (by omega)).2]; simp (disch := omega) only [cd_al_n, cd_sr_s, cd_sr_n, cd_al_rn, cd_sr_e, cd_sr_o], by rw [HN3.2.2.2.1 b (by omega), cd_set_ne _ _ (by omega)]⟩)
  have e3 : ∀ b, w.1 + 55 ≤ b → S3.2.1 b = S.2.1 b := fun b hb => by rw [(HN3.2.1 b (by omega)).1]; simp (disch := omega) only [cd_al_n, cd_sr_s, cd_sr_n, cd_al_rn, cd_sr_e, cd_sr_o]; exact e2 b (by omega)
  have h33 := HN3.h0
  try simp (disch := omega) only [cd_set_eq, cd_set_ne, cd_set_set]
  refine r_putFR hO hE f_C_19 rfl rfl rfl rfl s3 (Nat.le_refl _) d_C_init_34 ?_
  try simp (disch := omega) only [cd_set_eq, cd_set_ne, cd_set_set]
  refine r_aload hO d_C_init_37 rfl ?_
  refine r_k hO d_C_init_38 ?_
  refine r_putZ hO f_C_22 rfl (show (cd_sr S3 w.1 2 (w.1 + 37)).2.1 w.1 = (1, 6) from s3) (Nat.le_refl _) _ (Or.inl rfl) d_C_init_39 ?_
  try simp (disch := omega) only [cd_set_eq, cd_set_ne, cd_set_set]
  refine r_aload hO d_C_init_42 rfl ?_
  refine r_newa (w.1 + 55) hO (show w.1 + 55 = w.1 + S3.1 by omega) cd_ci4 df_T cl_C_26 in_T it_T d_C_init_43 (by omega) (by omega) ?_
  refine r_dup hO d_C_init_46 rfl ?_
  refine cd_callIN (rest := [.ref (w.1 + 55), .ref w.1]) hO hE.1 (c_T_init (t := w.1 + 55) (cd_al_e _ _ _) (by omega) (show w.1 + 55 + 1 = w.1 + (S3.1 + 1) by omega)) mf_T_init ln_C_28 (by decide) rfl rfl rfl (Nat.le_of_ble_eq_true rfl) d_C_init_47 ⟨by omega, by omega⟩ ?_
  rintro r S4 I4 ⟨rfl, t1, t2, t3, t4, t5⟩
  show cd_J w X _ _ S4 I4 50 [some (.ref w.1), none] [.ref (w.1 + 55), .ref w.1]
  have z4 : S4.1 = 58 := by have q : S4.1 = S3.1 + 1 + 2 := t1; omega
  have s4 : S4.2.1 w.1 = (1, 6) := by rw [(t2 w.1 (by omega)).1]; simp (disch := omega) only [cd_al_n, cd_sr_s, cd_sr_n, cd_al_rn, cd_sr_e, cd_sr_o]; exact s3
  have r40 : S4.2.2 w.1 0 = some (w.1 + 1) := by rw [(t2 w.1 (by omega)).2 (by omega)]; simp (disch := omega) only [cd_al_n, cd_sr_s, cd_sr_n, cd_al_rn, cd_sr_e, cd_sr_o]; exact r30
  have r41 : S4.2.2 w.1 1 = some (w.1 + 19) := by rw [(t2 w.1 (by omega)).2 (by omega)]; simp (disch := omega) only [cd_al_n, cd_sr_s, cd_sr_n, cd_al_rn, cd_sr_e, cd_sr_o]; exact r31
  have r42 : S4.2.2 w.1 2 = some (w.1 + 37) := by rw [(t2 w.1 (by omega)).2 (by omega)]; simp (disch := omega) only [cd_al_n, cd_sr_s, cd_sr_n, cd_al_rn, cd_sr_e, cd_sr_o]
  have h41 : px_H0 w S4 I4 (w.1 + 1) := h31.cg (fun b b1 b2 => ⟨by rw [(t2 b (by omega)).1]; simp (disch := omega) only [cd_al_n, cd_sr_s, cd_sr_n, cd_al_rn, cd_sr_e, cd_sr_o], by rw [(t2 b (by omega)).2 (by omega)]; simp (disch := omega) only [cd_al_n, cd_sr_s, cd_sr_n, cd_al_rn, cd_sr_e, cd_sr_o], by rw [t5 b (by omega) (by omega)]; simp (disch := omega) only [cd_set_ne]⟩)
  have h42 : px_H0 w S4 I4 (w.1 + 19) := h32.cg (fun b b1 b2 => ⟨by rw [(t2 b (by omega)).1]; simp (disch := omega) only [cd_al_n, cd_sr_s, cd_sr_n, cd_al_rn, cd_sr_e, cd_sr_o], by rw [(t2 b (by omega)).2 (by omega)]; simp (disch := omega) only [cd_al_n, cd_sr_s, cd_sr_n, cd_al_rn, cd_sr_e, cd_sr_o], by rw [t5 b (by omega) (by omega)]; simp (disch := omega) only [cd_set_ne]⟩)
  have h43 : px_H0 w S4 I4 (w.1 + 37) := h33.cg (fun b b1 b2 => ⟨by rw [(t2 b (by omega)).1]; simp (disch := omega) only [cd_al_n, cd_sr_s, cd_sr_n, cd_al_rn, cd_sr_e, cd_sr_o], by rw [(t2 b (by omega)).2 (by omega)]; simp (disch := omega) only [cd_al_n, cd_sr_s, cd_sr_n, cd_al_rn, cd_sr_e, cd_sr_o], by rw [t5 b (by omega) (by omega)]; simp (disch := omega) only [cd_set_ne]⟩)
  have m4 : I4 w.1 3 = nI 0 := by rw [t5 w.1 (by omega) (by omega)]; simp (disch := omega) only [cd_set_eq, cd_set_ne]; rfl
  have e4 : ∀ b, w.1 + 58 ≤ b → S4.2.1 b = S.2.1 b := fun b hb => by rw [(t2 b (by omega)).1]; simp (disch := omega) only [cd_al_n, cd_sr_s, cd_sr_n, cd_al_rn, cd_sr_e, cd_sr_o]; exact e3 b (by omega)
  try simp (disch := omega) only [cd_set_eq, cd_set_ne, cd_set_set]
  refine r_putFR hO hE f_C_29 rfl rfl rfl rfl s4 (Nat.le_refl _) d_C_init_50 ?_
  try simp (disch := omega) only [cd_set_eq, cd_set_ne, cd_set_set]
  refine r_aload hO d_C_init_53 rfl ?_
  refine r_k hO d_C_init_54 ?_
  refine r_anewa (w.1 + 58) hO (by show w.1 + 58 = w.1 + S4.1; omega) (N := 4) (by decide) (i := 2) (t := 6) (by decide) (by decide) rfl rfl cl_C_33 d_C_init_55 (by omega) (by omega) ?_
  refine r_putFR hO hE f_C_35 rfl rfl rfl rfl (by simp (disch := omega) only [cd_al_n, cd_sr_s]; exact s4) (Nat.le_refl _) d_C_init_58 ?_
  try simp (disch := omega) only [cd_set_eq, cd_set_ne, cd_set_set]
  refine r_aload hO d_C_init_61 rfl ?_
  refine r_k hO d_C_init_62 ?_
  refine r_anewa (w.1 + 59) hO (by show w.1 + 59 = w.1 + (S4.1 + 1); omega) (N := 5) (by decide) (i := 3) (t := 7) (by decide) (by decide) rfl rfl cl_C_39 d_C_init_63 (by omega) (by omega) ?_
  refine r_putFR hO hE f_C_41 rfl rfl rfl rfl (by simp (disch := omega) only [cd_al_n, cd_sr_s]; exact s4) (Nat.le_refl _) d_C_init_66 ?_
  try simp (disch := omega) only [cd_set_eq, cd_set_ne, cd_set_set]
  refine r_aload hO d_C_init_69 rfl ?_
  refine r_k hO d_C_init_70 ?_
  refine r_na0 (w.1 + 60) hO (show w.1 + 60 = w.1 + (S4.1 + 1 + 1) by omega) (N := 60) (by decide) d_C_init_72 (by omega) (by omega) ?_
  refine r_putFR hO hE f_C_45 rfl rfl rfl rfl (by simp (disch := omega) only [cd_al_n, cd_sr_s]; exact s4) (Nat.le_refl _) d_C_init_74 ?_
  try simp (disch := omega) only [cd_set_eq, cd_set_ne, cd_set_set]
  refine r_aload hO d_C_init_77 rfl ?_
  refine r_k hO d_C_init_78 ?_
  refine r_putI hO f_C_49 rfl (by simp (disch := omega) only [cd_al_n, cd_sr_s]; exact s4) (Nat.le_refl _) d_C_init_79 ?_
  try simp (disch := omega) only [cd_set_eq, cd_set_ne, cd_set_set]
  refine r_aload hO d_C_init_82 rfl ?_
  refine r_k hO d_C_init_83 ?_
  refine r_na0 (w.1 + 61) hO (show w.1 + 61 = w.1 + (S4.1 + 1 + 1 + 1) by omega) (N := 12) (by decide) d_C_init_85 (by omega) (by omega) ?_
  refine r_putFR hO hE f_C_53 rfl rfl rfl rfl (by simp (disch := omega) only [cd_al_n, cd_sr_s]; exact s4) (Nat.le_refl _) d_C_init_87 ?_
  try simp (disch := omega) only [cd_set_eq, cd_set_ne, cd_set_set]
  refine r_k hO d_C_init_90 ?_
  refine r_sI1 hO d_C_init_91 rfl ?_
  refine loop1 4 0 _ _ _ _ (by omega) ?_ (by omega) (by omega)
  refine ⟨show S4.1 + 1 + 1 + 1 + 1 = 62 + 2 * 0 by omega, ⟨⟨?_, ?_, ?_, ?_, ?_, ?_, ?_, ?_, ?_⟩, ⟨?_, ?_, ?_, ?_, ?_⟩, ⟨?_, ?_, ?_, ?_⟩, ⟨?_, ?_, ?_⟩, ?_, ?_, ?_⟩, fun a ha => absurd ha (Nat.not_lt_zero _), fun b hb => ?_⟩
  · simp (disch := omega) only [cd_al_n, cd_sr_s, cd_sr_n, cd_al_rn, cd_sr_e, cd_sr_o]; exact s4
  · simp (disch := omega) only [cd_al_n, cd_sr_s, cd_sr_n, cd_al_rn, cd_sr_e, cd_sr_o]; exact r40
  · simp (disch := omega) only [cd_al_n, cd_sr_s, cd_sr_n, cd_al_rn, cd_sr_e, cd_sr_o]; exact r41
  · simp (disch := omega) only [cd_al_n, cd_sr_s, cd_sr_n, cd_al_rn, cd_sr_e, cd_sr_o]; exact r42
  · simp (disch := omega) only [cd_al_n, cd_sr_s, cd_sr_n, cd_al_rn, cd_sr_e, cd_sr_o]
  · simp (disch := omega) only [cd_al_n, cd_sr_s, cd_sr_n, cd_al_rn, cd_sr_e, cd_sr_o]
  · simp (disch := omega) only [cd_al_n, cd_sr_s, cd_sr_n, cd_al_rn, cd_sr_e, cd_sr_o]
  · simp (disch := omega) only [cd_al_n, cd_sr_s, cd_sr_n, cd_al_rn, cd_sr_e, cd_sr_o]
  · simp (disch := omega) only [cd_al_n, cd_sr_s, cd_sr_n, cd_al_rn, cd_sr_e, cd_sr_o]
  · simp (disch := omega) only [cd_al_n, cd_sr_s, cd_sr_n, cd_al_rn, cd_sr_e, cd_sr_o]; exact t3.1
  · simp (disch := omega) only [cd_al_n, cd_sr_s, cd_sr_n, cd_al_rn, cd_sr_e, cd_sr_o]; exact t3.2.1
  · simp (disch := omega) only [cd_al_n, cd_sr_s, cd_sr_n, cd_al_rn, cd_sr_e, cd_sr_o]; exact t3.2.2.1
  · simp (disch := omega) only [cd_al_n, cd_sr_s, cd_sr_n, cd_al_rn, cd_sr_e, cd_sr_o]; exact t3.2.2.2.1
  · simp (disch := omega) only [cd_al_n, cd_sr_s, cd_sr_n, cd_al_rn, cd_sr_e, cd_sr_o]; exact t3.2.2.2.2
  · simp (disch := omega) only [cd_al_n, cd_al_e, cd_sr_s]
  · simp (disch := omega) only [cd_al_n, cd_al_e, cd_sr_s]
  · simp (disch := omega) only [cd_al_n, cd_al_e, cd_sr_s]
  · simp (disch := omega) only [cd_al_n, cd_al_e, cd_sr_s]
  · simp (disch := omega) only [cd_set_eq, cd_set_ne]; exact m4
  · simp (disch := omega) only [cd_set_eq, cd_set_ne]; rfl
  · simp (disch := omega) only [cd_set_eq, cd_set_ne]; exact t4
  · exact h41.cg (fun b b1 b2 => ⟨by simp (disch := omega) only [cd_al_n, cd_sr_s, cd_sr_n, cd_al_rn, cd_sr_e, cd_sr_o], by simp (disch := omega) only [cd_al_n, cd_sr_s, cd_sr_n, cd_al_rn, cd_sr_e, cd_sr_o], by simp (disch := omega) only [cd_set_eq, cd_set_ne]⟩)
  · exact h42.cg (fun b b1 b2 => ⟨by simp (disch := omega) only [cd_al_n, cd_sr_s, cd_sr_n, cd_al_rn, cd_sr_e, cd_sr_o], by simp (disch := omega) only [cd_al_n, cd_sr_s, cd_sr_n, cd_al_rn, cd_sr_e, cd_sr_o], by simp (disch := omega) only [cd_set_eq, cd_set_ne]⟩)
  · exact h43.cg (fun b b1 b2 => ⟨by simp (disch := omega) only [cd_al_n, cd_sr_s, cd_sr_n, cd_al_rn, cd_sr_e, cd_sr_o], by simp (disch := omega) only [cd_al_n, cd_sr_s, cd_sr_n, cd_al_rn, cd_sr_e, cd_sr_o], by simp (disch := omega) only [cd_set_eq, cd_set_ne]⟩)
  · simp (disch := omega) only [cd_al_n, cd_sr_s, cd_sr_n, cd_al_rn, cd_sr_e, cd_sr_o]; exact e4 b (by omega)
