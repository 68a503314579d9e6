/-- the component's tape while it reads: token, key, leaves, codes -/
def px_CT (I : cd_Mem) (w : cd_WT) (B : Nat → Nat) (L ky : Nat) (t : px_Tok) (u v : Nat) : Prop := px_CP I w B L ∧ px_TO B L t ∧ I (w.1 + 55) 1 = nI t.1 ∧ I (w.1 + 55) 2 = nI t.2.2 ∧ I (w.1 + 55) 3 = nI t.2.1 ∧ (I (w.1 + 55) 4 = nI ky ∧ ky ≤ 2) ∧ I (w.1 + 55) 5 = nI v ∧ I (w.1 + 55) 6 = nI u ∧ u ≤ 96
theorem px_l0 : ∀ b, b < 256 → ((0 < px_sgn b ∧ px_rk (px_sgn b) = 1) ↔ b = 124) := by decide +kernel
theorem px_l1 : ∀ b, b < 256 → ((0 < px_sgn b ∧ px_rk (px_sgn b) = 2) ↔ b = 38) := by decide +kernel
theorem px_l2 : ∀ b, b < 256 → ((0 < px_sgn b ∧ px_rk (px_sgn b) = 3) ↔ b = 60 ∨ b = 61 ∨ b = 62) := by decide +kernel
theorem px_l3 : ∀ b, b < 256 → ((0 < px_sgn b ∧ px_rk (px_sgn b) = 4) ↔ b = 43 ∨ b = 45) := by decide +kernel
theorem px_l4 : ∀ b, b < 256 → ((0 < px_sgn b ∧ px_rk (px_sgn b) = 5) ↔ b = 42 ∨ b = 47) := by decide +kernel
theorem px_lk {B : Nat → Nat} {t : px_Tok} (r : Nat) : (0 < px_ssg B t ∧ px_rk (px_ssg B t) = r) ↔ t.2.1 = 3 ∧ (0 < px_sgn (B t.1) ∧ px_rk (px_sgn (B t.1)) = r) := by
  unfold px_ssg
  by_cases h : t.2.1 = 3
  · rw [if_pos h]
    exact ⟨fun q => ⟨h, q⟩, fun q => q.2⟩
  · rw [if_neg h]
    exact ⟨fun q => absurd q.1 (Nat.lt_irrefl 0), fun q => absurd q.1 h⟩
theorem px_CT.b {I : cd_Mem} {w : cd_WT} {B : Nat → Nat} {L ky : Nat} {t : px_Tok} {u v : Nat} (h : px_CT I w B L ky t u v) (hk : t.2.1 = 3 ∨ t.2.1 = 1 ∨ t.2.1 = 2) : t.1 < L ∧ t.1 < 96 ∧ B t.1 < 256 ∧ I (w.1 + 56) t.1 = px_sx (B t.1) := by
  have h1 := h.2.1.2.2.1 (by omega)
  have h2 := h.2.1.2.1
  have h3 := h.1.2.1
  exact ⟨by omega, by omega, h.1.2.2 t.1 (by omega)⟩
theorem d_T_isSign_0 : cd_D_aload b_T_isSign 0 0 1 := Or.inr ⟨0, ⟨by decide +kernel, rfl⟩, rfl⟩
theorem d_T_isSign_1 : cd_D 3 b_T_isSign 1 (.getfield 21) 4 := ⟨by decide +kernel, rfl⟩
theorem d_T_isSign_4 : cd_Dk b_T_isSign 4 (nI 3) 5 := Or.inl ⟨3, ⟨by decide +kernel, rfl⟩, by decide +kernel⟩
theorem d_T_isSign_5 : cd_D_icmp_ne b_T_isSign 5 25 8 := ⟨20, by decide +kernel, by decide, rfl⟩
theorem d_T_isSign_8 : cd_D_aload b_T_isSign 8 0 9 := Or.inr ⟨0, ⟨by decide +kernel, rfl⟩, rfl⟩
theorem d_T_isSign_9 : cd_D 3 b_T_isSign 9 (.getfield 33) 12 := ⟨by decide +kernel, rfl⟩
theorem d_T_isSign_12 : cd_D_aload b_T_isSign 12 0 13 := Or.inr ⟨0, ⟨by decide +kernel, rfl⟩, rfl⟩
theorem d_T_isSign_13 : cd_D 3 b_T_isSign 13 (.getfield 15) 16 := ⟨by decide +kernel, rfl⟩
theorem d_T_isSign_16 : cd_D 1 b_T_isSign 16 .baload 17 := ⟨by decide +kernel, rfl⟩
theorem d_T_isSign_17 : cd_D_iload b_T_isSign 17 1 18 := Or.inr ⟨1, ⟨by decide +kernel, rfl⟩, rfl⟩
theorem d_T_isSign_18 : cd_D_icmp_ne b_T_isSign 18 25 21 := ⟨7, by decide +kernel, by decide, rfl⟩
theorem d_T_isSign_21 : cd_Dk b_T_isSign 21 (nI 1) 22 := Or.inl ⟨1, ⟨by decide +kernel, rfl⟩, by decide +kernel⟩
theorem d_T_isSign_22 : cd_D_goto b_T_isSign 22 26 := ⟨4, by decide +kernel, by decide⟩
theorem d_T_isSign_25 : cd_Dk b_T_isSign 25 (nI 0) 26 := Or.inl ⟨0, ⟨by decide +kernel, rfl⟩, by decide +kernel⟩
theorem d_T_isSign_26 : cd_D 1 b_T_isSign 26 .ireturn 27 := ⟨by decide +kernel, rfl⟩
theorem c_T_isSign {l : Launch} {w : cd_WT} {S : cd_Sp} {I : cd_Mem} (hC : cd_CD w S) {B : Nat → Nat} {L ky : Nat} {t : px_Tok} {u v : Nat} (h : px_CT I w B L ky t u v) (c : Nat) (hc : c < 128) : cd_C l w m_T_isSign 0 0 0 [.ref (w.1 + 55), .int (nI c)] S I (cd_Fi S (cd_bI (px_isC B t c)) I) := by
  refine cd_intro (by decide) (by simp [Value.category]) (Nat.le_of_ble_eq_true rfl) ?_
  intro X hO hE
  show cd_J w X 0 0 S I 0 [some (.ref (w.1 + 55)), some (.int (nI c))] []
  obtain ⟨hB, hO2, t1, t2, t3, ⟨t4, t4b⟩, t5, t6, t7⟩ := id h
  have hkd := hO2.2.2.2.2.1
  have hL9 := hB.2.1
  refine r_aload hO d_T_isSign_0 rfl ?_
  refine r_getI hO f_T_21 rfl hC.2.2.2.2.2.2.2.2.2.2.2.2.1.1 d_T_isSign_1 ?_
  refine r_tops (show _ = nI t.2.1 from t3) ?_
  refine r_k hO d_T_isSign_4 ?_
  refine r_icmp_ne hO d_T_isSign_5 (fun c_5 => ?_) (fun c_5 => ?_)
  · rw [nI_eq (by omega) (by omega)] at c_5
    refine r_k hO d_T_isSign_25 ?_
    refine r_zret hO hE (by first | exact Or.inl rfl | exact Or.inr rfl) (Nat.zero_le _) (Nat.zero_le _) d_T_isSign_26 ?_
    exact cd_ret0 (fun q => c_5 q.1)
  · rw [nI_eq (by omega) (by omega)] at c_5
    obtain ⟨hl1, hl2, hb, hby⟩ := h.b (Or.inl c_5)
    refine r_aload hO d_T_isSign_8 rfl ?_
    refine r_getR hO f_T_33 rfl hC.2.2.2.2.2.2.2.2.2.2.2.2.1.1 hC.2.2.2.2.2.2.2.2.2.2.2.2.1.2.1 d_T_isSign_9 ?_
    refine r_aload hO d_T_isSign_12 rfl ?_
    refine r_getI hO f_T_15 rfl hC.2.2.2.2.2.2.2.2.2.2.2.2.1.1 d_T_isSign_13 ?_
    refine r_tops (show _ = nI t.1 from t1) ?_
    refine r_bald hO hC.2.2.2.2.2.2.2.2.2.2.2.2.1.2.2.2.1 (by omega) (by decide) d_T_isSign_16 ?_
    rw [hby]
    refine r_iload hO d_T_isSign_17 rfl ?_
    refine r_icmp_ne hO d_T_isSign_18 (fun c_18 => ?_) (fun c_18 => ?_)
    · rw [px_sx_eq hb hc] at c_18
      refine r_k hO d_T_isSign_25 ?_
      refine r_zret hO hE (by first | exact Or.inl rfl | exact Or.inr rfl) (Nat.zero_le _) (Nat.zero_le _) d_T_isSign_26 ?_
      exact cd_ret0 (fun q => c_18 q.2)
    · rw [px_sx_eq hb hc] at c_18
      refine r_k hO d_T_isSign_21 ?_
      refine r_goto hO d_T_isSign_22 ?_
      refine r_zret hO hE (by first | exact Or.inl rfl | exact Or.inr rfl) (Nat.zero_le _) (Nat.zero_le _) d_T_isSign_26 ?_
      exact cd_ret1 ⟨c_5, c_18⟩
theorem d_T_isSignOf_0 : cd_D_iload b_T_isSignOf 0 1 1 := Or.inr ⟨1, ⟨by decide +kernel, rfl⟩, rfl⟩
theorem d_T_isSignOf_1 : decode b_T_isSignOf 1 = .ok (.tableswitch (102) (0) (3) #[31, 38, 45, 78], 31) := by decide +kernel
theorem d_T_isSignOf_32 : cd_D_aload b_T_isSignOf 32 0 33 := Or.inr ⟨0, ⟨by decide +kernel, rfl⟩, rfl⟩
theorem d_T_isSignOf_33 : cd_Dk b_T_isSignOf 33 (nI 124) 35 := Or.inr (Or.inl ⟨124, ⟨by decide +kernel, rfl⟩, by decide +kernel⟩)
theorem d_T_isSignOf_35 : cd_D 3 b_T_isSignOf 35 (.invokevirtual 88) 38 := ⟨by decide +kernel, rfl⟩
theorem d_T_isSignOf_38 : cd_D 1 b_T_isSignOf 38 .ireturn 39 := ⟨by decide +kernel, rfl⟩
theorem d_T_isSignOf_39 : cd_D_aload b_T_isSignOf 39 0 40 := Or.inr ⟨0, ⟨by decide +kernel, rfl⟩, rfl⟩
theorem d_T_isSignOf_40 : cd_Dk b_T_isSignOf 40 (nI 38) 42 := Or.inr (Or.inl ⟨38, ⟨by decide +kernel, rfl⟩, by decide +kernel⟩)
theorem d_T_isSignOf_42 : cd_D 3 b_T_isSignOf 42 (.invokevirtual 88) 45 := ⟨by decide +kernel, rfl⟩
theorem d_T_isSignOf_45 : cd_D 1 b_T_isSignOf 45 .ireturn 46 := ⟨by decide +kernel, rfl⟩
theorem d_T_isSignOf_46 : cd_D_aload b_T_isSignOf 46 0 47 := Or.inr ⟨0, ⟨by decide +kernel, rfl⟩, rfl⟩
theorem d_T_isSignOf_47 : cd_Dk b_T_isSignOf 47 (nI 60) 49 := Or.inr (Or.inl ⟨60, ⟨by decide +kernel, rfl⟩, by decide +kernel⟩)
theorem d_T_isSignOf_49 : cd_D 3 b_T_isSignOf 49 (.invokevirtual 88) 52 := ⟨by decide +kernel, rfl⟩
theorem d_T_isSignOf_52 : cd_D_if_ne b_T_isSignOf 52 73 55 := ⟨21, by decide +kernel, by decide, rfl⟩
theorem d_T_isSignOf_55 : cd_D_aload b_T_isSignOf 55 0 56 := Or.inr ⟨0, ⟨by decide +kernel, rfl⟩, rfl⟩
theorem d_T_isSignOf_56 : cd_Dk b_T_isSignOf 56 (nI 61) 58 := Or.inr (Or.inl ⟨61, ⟨by decide +kernel, rfl⟩, by decide +kernel⟩)
theorem d_T_isSignOf_58 : cd_D 3 b_T_isSignOf 58 (.invokevirtual 88) 61 := ⟨by decide +kernel, rfl⟩
theorem d_T_isSignOf_61 : cd_D_if_ne b_T_isSignOf 61 73 64 := ⟨12, by decide +kernel, by decide, rfl⟩
theorem d_T_isSignOf_64 : cd_D_aload b_T_isSignOf 64 0 65 := Or.inr ⟨0, ⟨by decide +kernel, rfl⟩, rfl⟩
theorem d_T_isSignOf_65 : cd_Dk b_T_isSignOf 65 (nI 62) 67 := Or.inr (Or.inl ⟨62, ⟨by decide +kernel, rfl⟩, by decide +kernel⟩)
theorem d_T_isSignOf_67 : cd_D 3 b_T_isSignOf 67 (.invokevirtual 88) 70 := ⟨by decide +kernel, rfl⟩
theorem d_T_isSignOf_70 : cd_D_if_eq b_T_isSignOf 70 77 73 := ⟨7, by decide +kernel, by decide, rfl⟩
theorem d_T_isSignOf_73 : cd_Dk b_T_isSignOf 73 (nI 1) 74 := Or.inl ⟨1, ⟨by decide +kernel, rfl⟩, by decide +kernel⟩
theorem d_T_isSignOf_74 : cd_D_goto b_T_isSignOf 74 78 := ⟨4, by decide +kernel, by decide⟩
theorem d_T_isSignOf_77 : cd_Dk b_T_isSignOf 77 (nI 0) 78 := Or.inl ⟨0, ⟨by decide +kernel, rfl⟩, by decide +kernel⟩
theorem d_T_isSignOf_78 : cd_D 1 b_T_isSignOf 78 .ireturn 79 := ⟨by decide +kernel, rfl⟩
theorem d_T_isSignOf_79 : cd_D_aload b_T_isSignOf 79 0 80 := Or.inr ⟨0, ⟨by decide +kernel, rfl⟩, rfl⟩
theorem d_T_isSignOf_80 : cd_Dk b_T_isSignOf 80 (nI 43) 82 := Or.inr (Or.inl ⟨43, ⟨by decide +kernel, rfl⟩, by decide +kernel⟩)
theorem d_T_isSignOf_82 : cd_D 3 b_T_isSignOf 82 (.invokevirtual 88) 85 := ⟨by decide +kernel, rfl⟩
theorem d_T_isSignOf_85 : cd_D_if_ne b_T_isSignOf 85 97 88 := ⟨12, by decide +kernel, by decide, rfl⟩
theorem d_T_isSignOf_88 : cd_D_aload b_T_isSignOf 88 0 89 := Or.inr ⟨0, ⟨by decide +kernel, rfl⟩, rfl⟩
theorem d_T_isSignOf_89 : cd_Dk b_T_isSignOf 89 (nI 45) 91 := Or.inr (Or.inl ⟨45, ⟨by decide +kernel, rfl⟩, by decide +kernel⟩)
theorem d_T_isSignOf_91 : cd_D 3 b_T_isSignOf 91 (.invokevirtual 88) 94 := ⟨by decide +kernel, rfl⟩
theorem d_T_isSignOf_94 : cd_D_if_eq b_T_isSignOf 94 101 97 := ⟨7, by decide +kernel, by decide, rfl⟩
theorem d_T_isSignOf_97 : cd_Dk b_T_isSignOf 97 (nI 1) 98 := Or.inl ⟨1, ⟨by decide +kernel, rfl⟩, by decide +kernel⟩
theorem d_T_isSignOf_98 : cd_D_goto b_T_isSignOf 98 102 := ⟨4, by decide +kernel, by decide⟩
theorem d_T_isSignOf_101 : cd_Dk b_T_isSignOf 101 (nI 0) 102 := Or.inl ⟨0, ⟨by decide +kernel, rfl⟩, by decide +kernel⟩
theorem d_T_isSignOf_102 : cd_D 1 b_T_isSignOf 102 .ireturn 103 := ⟨by decide +kernel, rfl⟩
theorem d_T_isSignOf_103 : cd_D_aload b_T_isSignOf 103 0 104 := Or.inr ⟨0, ⟨by decide +kernel, rfl⟩, rfl⟩
theorem d_T_isSignOf_104 : cd_Dk b_T_isSignOf 104 (nI 42) 106 := Or.inr (Or.inl ⟨42, ⟨by decide +kernel, rfl⟩, by decide +kernel⟩)
theorem d_T_isSignOf_106 : cd_D 3 b_T_isSignOf 106 (.invokevirtual 88) 109 := ⟨by decide +kernel, rfl⟩
theorem d_T_isSignOf_109 : cd_D_if_ne b_T_isSignOf 109 121 112 := ⟨12, by decide +kernel, by decide, rfl⟩
theorem d_T_isSignOf_112 : cd_D_aload b_T_isSignOf 112 0 113 := Or.inr ⟨0, ⟨by decide +kernel, rfl⟩, rfl⟩
theorem d_T_isSignOf_113 : cd_Dk b_T_isSignOf 113 (nI 47) 115 := Or.inr (Or.inl ⟨47, ⟨by decide +kernel, rfl⟩, by decide +kernel⟩)
theorem d_T_isSignOf_115 : cd_D 3 b_T_isSignOf 115 (.invokevirtual 88) 118 := ⟨by decide +kernel, rfl⟩
theorem d_T_isSignOf_118 : cd_D_if_eq b_T_isSignOf 118 125 121 := ⟨7, by decide +kernel, by decide, rfl⟩
theorem d_T_isSignOf_121 : cd_Dk b_T_isSignOf 121 (nI 1) 122 := Or.inl ⟨1, ⟨by decide +kernel, rfl⟩, by decide +kernel⟩
theorem d_T_isSignOf_122 : cd_D_goto b_T_isSignOf 122 126 := ⟨4, by decide +kernel, by decide⟩
theorem d_T_isSignOf_125 : cd_Dk b_T_isSignOf 125 (nI 0) 126 := Or.inl ⟨0, ⟨by decide +kernel, rfl⟩, by decide +kernel⟩
theorem d_T_isSignOf_126 : cd_D 1 b_T_isSignOf 126 .ireturn 127 := ⟨by decide +kernel, rfl⟩
theorem c_T_isSignOf {l : Launch} {w : cd_WT} {S : cd_Sp} {I : cd_Mem} (hC : cd_CD w S) {B : Nat → Nat} {L ky : Nat} {t : px_Tok} {u v : Nat} (h : px_CT I w B L ky t u v) (lev : Nat) (hlev : lev ≤ 4) : cd_C l w m_T_isSignOf 1 0 0 [.ref (w.1 + 55), .int (nI lev)] S I (cd_Fi S (cd_bI (0 < px_ssg B t ∧ px_rk (px_ssg B t) = lev + 1)) I) := by
  refine cd_intro (by decide) (by simp [Value.category]) (Nat.le_of_ble_eq_true rfl) ?_
  intro X hO hE
  show cd_J w X 0 0 S I 0 [some (.ref (w.1 + 55)), some (.int (nI lev))] []
  obtain ⟨hB, hO2, t1, t2, t3, ⟨t4, t4b⟩, t5, t6, t7⟩ := id h
  have hkd := hO2.2.2.2.2.1
  have hL9 := hB.2.1
  refine r_iload hO d_T_isSignOf_0 rfl ?_
  by_cases c_1_0 : nI lev = nI 0
  · refine r_tabE hO d_T_isSignOf_1 c_1_0 (off := 31) (by decide) (by decide) (by decide) (tgt := 32) (by decide) ?_
    refine r_aload hO d_T_isSignOf_32 rfl ?_
    refine r_k hO d_T_isSignOf_33 ?_
    refine r_cV1fi hO hE (c_T_isSign hC h 124 (by decide)) mf_T_isSign lk_T_88 hC.2.2.2.2.2.2.2.2.2.2.2.2.1.1 rfl (by decide) rfl (Nat.le_of_ble_eq_true rfl) d_T_isSignOf_35 (Nat.zero_le _) (Nat.zero_le _) ?_
    refine r_zret hO hE (by unfold cd_bI; split; exact Or.inr rfl; exact Or.inl rfl) (Nat.zero_le _) (Nat.zero_le _) d_T_isSignOf_38 ?_
    have hl : lev = 0 := (nI_eq (by omega) (by omega)).mp c_1_0
    subst hl
    have hiff := px_lk (B := B) (t := t) (0 + 1)
    refine ⟨?_, rfl, rfl⟩
    congr 2
    unfold cd_bI
    by_cases hc : px_isC B t 124
    · rw [if_pos hc, if_pos (hiff.mpr ⟨hc.1, (px_l0 _ (h.b (Or.inl hc.1)).2.2.1).mpr hc.2⟩)]
    · rw [if_neg hc, if_neg (fun q => by have q2 := hiff.mp q; exact hc ⟨q2.1, (px_l0 _ (h.b (Or.inl q2.1)).2.2.1).mp q2.2⟩)]
  by_cases c_1_1 : nI lev = nI 1
  · refine r_tabE hO d_T_isSignOf_1 c_1_1 (off := 38) (by decide) (by decide) (by decide) (tgt := 39) (by decide) ?_
    refine r_aload hO d_T_isSignOf_39 rfl ?_
    refine r_k hO d_T_isSignOf_40 ?_
    refine r_cV1fi hO hE (c_T_isSign hC h 38 (by decide)) mf_T_isSign lk_T_88 hC.2.2.2.2.2.2.2.2.2.2.2.2.1.1 rfl (by decide) rfl (Nat.le_of_ble_eq_true rfl) d_T_isSignOf_42 (Nat.zero_le _) (Nat.zero_le _) ?_
    refine r_zret hO hE (by unfold cd_bI; split; exact Or.inr rfl; exact Or.inl rfl) (Nat.zero_le _) (Nat.zero_le _) d_T_isSignOf_45 ?_
    have hl : lev = 1 := (nI_eq (by omega) (by omega)).mp c_1_1
    subst hl
    have hiff := px_lk (B := B) (t := t) (1 + 1)
    refine ⟨?_, rfl, rfl⟩
    congr 2
    unfold cd_bI
    by_cases hc : px_isC B t 38
    · rw [if_pos hc, if_pos (hiff.mpr ⟨hc.1, (px_l1 _ (h.b (Or.inl hc.1)).2.2.1).mpr hc.2⟩)]
    · rw [if_neg hc, if_neg (fun q => by have q2 := hiff.mp q; exact hc ⟨q2.1, (px_l1 _ (h.b (Or.inl q2.1)).2.2.1).mp q2.2⟩)]
  by_cases c_1_2 : nI lev = nI 2
  · refine r_tabE hO d_T_isSignOf_1 c_1_2 (off := 45) (by decide) (by decide) (by decide) (tgt := 46) (by decide) ?_
    refine r_aload hO d_T_isSignOf_46 rfl ?_
    refine r_k hO d_T_isSignOf_47 ?_
    refine r_cV1fi hO hE (c_T_isSign hC h 60 (by decide)) mf_T_isSign lk_T_88 hC.2.2.2.2.2.2.2.2.2.2.2.2.1.1 rfl (by decide) rfl (Nat.le_of_ble_eq_true rfl) d_T_isSignOf_49 (Nat.zero_le _) (Nat.zero_le _) ?_
    refine r_if_neB hO d_T_isSignOf_52 (fun c_52 => ?_) (fun c_52 => ?_)
    · refine r_k hO d_T_isSignOf_73 ?_
      refine r_goto hO d_T_isSignOf_74 ?_
      refine r_zret hO hE (by first | exact Or.inl rfl | exact Or.inr rfl) (Nat.zero_le _) (Nat.zero_le _) d_T_isSignOf_78 ?_
      have hl : lev = 2 := (nI_eq (by omega) (by omega)).mp c_1_2
      subst hl
      have hiff := px_lk (B := B) (t := t) (2 + 1)
      exact cd_ret1 (hiff.mpr ⟨c_52.1, (px_l2 _ (h.b (Or.inl c_52.1)).2.2.1).mpr (Or.inl c_52.2)⟩)
    · refine r_aload hO d_T_isSignOf_55 rfl ?_
      refine r_k hO d_T_isSignOf_56 ?_
      refine r_cV1fi hO hE (c_T_isSign hC h 61 (by decide)) mf_T_isSign lk_T_88 hC.2.2.2.2.2.2.2.2.2.2.2.2.1.1 rfl (by decide) rfl (Nat.le_of_ble_eq_true rfl) d_T_isSignOf_58 (Nat.zero_le _) (Nat.zero_le _) ?_
      refine r_if_neB hO d_T_isSignOf_61 (fun c_61 => ?_) (fun c_61 => ?_)
      · refine r_k hO d_T_isSignOf_73 ?_
        refine r_goto hO d_T_isSignOf_74 ?_
        refine r_zret hO hE (by first | exact Or.inl rfl | exact Or.inr rfl) (Nat.zero_le _) (Nat.zero_le _) d_T_isSignOf_78 ?_
        have hl : lev = 2 := (nI_eq (by omega) (by omega)).mp c_1_2
        subst hl
        have hiff := px_lk (B := B) (t := t) (2 + 1)
        exact cd_ret1 (hiff.mpr ⟨c_61.1, (px_l2 _ (h.b (Or.inl c_61.1)).2.2.1).mpr ((fun z => Or.inr (Or.inl z)) c_61.2)⟩)
      · refine r_aload hO d_T_isSignOf_64 rfl ?_
        refine r_k hO d_T_isSignOf_65 ?_
        refine r_cV1fi hO hE (c_T_isSign hC h 62 (by decide)) mf_T_isSign lk_T_88 hC.2.2.2.2.2.2.2.2.2.2.2.2.1.1 rfl (by decide) rfl (Nat.le_of_ble_eq_true rfl) d_T_isSignOf_67 (Nat.zero_le _) (Nat.zero_le _) ?_
        refine r_if_eqB hO d_T_isSignOf_70 (fun c_70 => ?_) (fun c_70 => ?_)
        · refine r_k hO d_T_isSignOf_77 ?_
          refine r_zret hO hE (by first | exact Or.inl rfl | exact Or.inr rfl) (Nat.zero_le _) (Nat.zero_le _) d_T_isSignOf_78 ?_
          have hl : lev = 2 := (nI_eq (by omega) (by omega)).mp c_1_2
          subst hl
          have hiff := px_lk (B := B) (t := t) (2 + 1)
          refine cd_ret0 (fun q => ?_)
          have q2 := hiff.mp q
          rcases (px_l2 _ (h.b (Or.inl q2.1)).2.2.1).mp q2.2 with q3 | q3 | q3
          · exact c_52 ⟨q2.1, q3⟩
          · exact c_61 ⟨q2.1, q3⟩
          · exact c_70 ⟨q2.1, q3⟩
        · refine r_k hO d_T_isSignOf_73 ?_
          refine r_goto hO d_T_isSignOf_74 ?_
          refine r_zret hO hE (by first | exact Or.inl rfl | exact Or.inr rfl) (Nat.zero_le _) (Nat.zero_le _) d_T_isSignOf_78 ?_
          have hl : lev = 2 := (nI_eq (by omega) (by omega)).mp c_1_2
          subst hl
          have hiff := px_lk (B := B) (t := t) (2 + 1)
          exact cd_ret1 (hiff.mpr ⟨c_70.1, (px_l2 _ (h.b (Or.inl c_70.1)).2.2.1).mpr ((fun z => Or.inr (Or.inr z)) c_70.2)⟩)
  by_cases c_1_3 : nI lev = nI 3
  · refine r_tabE hO d_T_isSignOf_1 c_1_3 (off := 78) (by decide) (by decide) (by decide) (tgt := 79) (by decide) ?_
    refine r_aload hO d_T_isSignOf_79 rfl ?_
    refine r_k hO d_T_isSignOf_80 ?_
    refine r_cV1fi hO hE (c_T_isSign hC h 43 (by decide)) mf_T_isSign lk_T_88 hC.2.2.2.2.2.2.2.2.2.2.2.2.1.1 rfl (by decide) rfl (Nat.le_of_ble_eq_true rfl) d_T_isSignOf_82 (Nat.zero_le _) (Nat.zero_le _) ?_
    refine r_if_neB hO d_T_isSignOf_85 (fun c_85 => ?_) (fun c_85 => ?_)
    · refine r_k hO d_T_isSignOf_97 ?_
      refine r_goto hO d_T_isSignOf_98 ?_
      refine r_zret hO hE (by first | exact Or.inl rfl | exact Or.inr rfl) (Nat.zero_le _) (Nat.zero_le _) d_T_isSignOf_102 ?_
      have hl : lev = 3 := (nI_eq (by omega) (by omega)).mp c_1_3
      subst hl
      have hiff := px_lk (B := B) (t := t) (3 + 1)
      exact cd_ret1 (hiff.mpr ⟨c_85.1, (px_l3 _ (h.b (Or.inl c_85.1)).2.2.1).mpr (Or.inl c_85.2)⟩)
    · refine r_aload hO d_T_isSignOf_88 rfl ?_
      refine r_k hO d_T_isSignOf_89 ?_
      refine r_cV1fi hO hE (c_T_isSign hC h 45 (by decide)) mf_T_isSign lk_T_88 hC.2.2.2.2.2.2.2.2.2.2.2.2.1.1 rfl (by decide) rfl (Nat.le_of_ble_eq_true rfl) d_T_isSignOf_91 (Nat.zero_le _) (Nat.zero_le _) ?_
      refine r_if_eqB hO d_T_isSignOf_94 (fun c_94 => ?_) (fun c_94 => ?_)
      · refine r_k hO d_T_isSignOf_101 ?_
        refine r_zret hO hE (by first | exact Or.inl rfl | exact Or.inr rfl) (Nat.zero_le _) (Nat.zero_le _) d_T_isSignOf_102 ?_
        have hl : lev = 3 := (nI_eq (by omega) (by omega)).mp c_1_3
        subst hl
        have hiff := px_lk (B := B) (t := t) (3 + 1)
        refine cd_ret0 (fun q => ?_)
        have q2 := hiff.mp q
        rcases (px_l3 _ (h.b (Or.inl q2.1)).2.2.1).mp q2.2 with q3 | q3
        · exact c_85 ⟨q2.1, q3⟩
        · exact c_94 ⟨q2.1, q3⟩
      · refine r_k hO d_T_isSignOf_97 ?_
        refine r_goto hO d_T_isSignOf_98 ?_
        refine r_zret hO hE (by first | exact Or.inl rfl | exact Or.inr rfl) (Nat.zero_le _) (Nat.zero_le _) d_T_isSignOf_102 ?_
        have hl : lev = 3 := (nI_eq (by omega) (by omega)).mp c_1_3
        subst hl
        have hiff := px_lk (B := B) (t := t) (3 + 1)
        exact cd_ret1 (hiff.mpr ⟨c_94.1, (px_l3 _ (h.b (Or.inl c_94.1)).2.2.1).mpr (Or.inr c_94.2)⟩)
  refine r_tabN hO d_T_isSignOf_1 (by decide) (fun j hj => ?_) (tgt := 103) (by decide) ?_
  · have hj2 : j < 4 := hj
    rcases (show j = 0 ∨ j = 1 ∨ j = 2 ∨ j = 3 by omega) with rfl | rfl | rfl | rfl
    · exact Or.inl (fun e => c_1_0 (e.trans (by decide)))
    · exact Or.inl (fun e => c_1_1 (e.trans (by decide)))
    · exact Or.inl (fun e => c_1_2 (e.trans (by decide)))
    · exact Or.inl (fun e => c_1_3 (e.trans (by decide)))
  refine r_aload hO d_T_isSignOf_103 rfl ?_
  refine r_k hO d_T_isSignOf_104 ?_
  refine r_cV1fi hO hE (c_T_isSign hC h 42 (by decide)) mf_T_isSign lk_T_88 hC.2.2.2.2.2.2.2.2.2.2.2.2.1.1 rfl (by decide) rfl (Nat.le_of_ble_eq_true rfl) d_T_isSignOf_106 (Nat.zero_le _) (Nat.zero_le _) ?_
  refine r_if_neB hO d_T_isSignOf_109 (fun c_109 => ?_) (fun c_109 => ?_)
  · refine r_k hO d_T_isSignOf_121 ?_
    refine r_goto hO d_T_isSignOf_122 ?_
    refine r_zret hO hE (by first | exact Or.inl rfl | exact Or.inr rfl) (Nat.zero_le _) (Nat.zero_le _) d_T_isSignOf_126 ?_
    have hl : lev = 4 := by
      have q0 : lev ≠ 0 := fun q => c_1_0 (by rw [q])
      have q1 : lev ≠ 1 := fun q => c_1_1 (by rw [q])
      have q2 : lev ≠ 2 := fun q => c_1_2 (by rw [q])
      have q3 : lev ≠ 3 := fun q => c_1_3 (by rw [q])
      omega
    subst hl
    have hiff := px_lk (B := B) (t := t) (4 + 1)
    exact cd_ret1 (hiff.mpr ⟨c_109.1, (px_l4 _ (h.b (Or.inl c_109.1)).2.2.1).mpr (Or.inl c_109.2)⟩)
  · refine r_aload hO d_T_isSignOf_112 rfl ?_
    refine r_k hO d_T_isSignOf_113 ?_
    refine r_cV1fi hO hE (c_T_isSign hC h 47 (by decide)) mf_T_isSign lk_T_88 hC.2.2.2.2.2.2.2.2.2.2.2.2.1.1 rfl (by decide) rfl (Nat.le_of_ble_eq_true rfl) d_T_isSignOf_115 (Nat.zero_le _) (Nat.zero_le _) ?_
    refine r_if_eqB hO d_T_isSignOf_118 (fun c_118 => ?_) (fun c_118 => ?_)
    · refine r_k hO d_T_isSignOf_125 ?_
      refine r_zret hO hE (by first | exact Or.inl rfl | exact Or.inr rfl) (Nat.zero_le _) (Nat.zero_le _) d_T_isSignOf_126 ?_
      have hl : lev = 4 := by
        have q0 : lev ≠ 0 := fun q => c_1_0 (by rw [q])
        have q1 : lev ≠ 1 := fun q => c_1_1 (by rw [q])
        have q2 : lev ≠ 2 := fun q => c_1_2 (by rw [q])
        have q3 : lev ≠ 3 := fun q => c_1_3 (by rw [q])
        omega
      subst hl
      have hiff := px_lk (B := B) (t := t) (4 + 1)
      refine cd_ret0 (fun q => ?_)
      have q2 := hiff.mp q
      rcases (px_l4 _ (h.b (Or.inl q2.1)).2.2.1).mp q2.2 with q3 | q3
      · exact c_109 ⟨q2.1, q3⟩
      · exact c_118 ⟨q2.1, q3⟩
    · refine r_k hO d_T_isSignOf_121 ?_
      refine r_goto hO d_T_isSignOf_122 ?_
      refine r_zret hO hE (by first | exact Or.inl rfl | exact Or.inr rfl) (Nat.zero_le _) (Nat.zero_le _) d_T_isSignOf_126 ?_
      have hl : lev = 4 := by
        have q0 : lev ≠ 0 := fun q => c_1_0 (by rw [q])
        have q1 : lev ≠ 1 := fun q => c_1_1 (by rw [q])
        have q2 : lev ≠ 2 := fun q => c_1_2 (by rw [q])
        have q3 : lev ≠ 3 := fun q => c_1_3 (by rw [q])
        omega
      subst hl
      have hiff := px_lk (B := B) (t := t) (4 + 1)
      exact cd_ret1 (hiff.mpr ⟨c_118.1, (px_l4 _ (h.b (Or.inl c_118.1)).2.2.1).mpr (Or.inr c_118.2)⟩)
theorem d_T_puts_0 : cd_D_aload b_T_puts 0 0 1 := Or.inr ⟨0, ⟨by decide +kernel, rfl⟩, rfl⟩
theorem d_T_puts_1 : cd_D 3 b_T_puts 1 (.getfield 30) 4 := ⟨by decide +kernel, rfl⟩
theorem d_T_puts_4 : cd_D_aload b_T_puts 4 0 5 := Or.inr ⟨0, ⟨by decide +kernel, rfl⟩, rfl⟩
theorem d_T_puts_5 : cd_D 3 b_T_puts 5 (.getfield 37) 8 := ⟨by decide +kernel, rfl⟩
theorem d_T_puts_8 : cd_D 1 b_T_puts 8 .arraylength 9 := ⟨by decide +kernel, rfl⟩
theorem d_T_puts_9 : cd_D_icmp_ge b_T_puts 9 32 12 := ⟨23, by decide +kernel, by decide, rfl⟩
theorem d_T_puts_12 : cd_D_aload b_T_puts 12 0 13 := Or.inr ⟨0, ⟨by decide +kernel, rfl⟩, rfl⟩
theorem d_T_puts_13 : cd_D 3 b_T_puts 13 (.getfield 37) 16 := ⟨by decide +kernel, rfl⟩
theorem d_T_puts_16 : cd_D_aload b_T_puts 16 0 17 := Or.inr ⟨0, ⟨by decide +kernel, rfl⟩, rfl⟩
theorem d_T_puts_17 : cd_D 3 b_T_puts 17 (.getfield 30) 20 := ⟨by decide +kernel, rfl⟩
theorem d_T_puts_20 : cd_D_iload b_T_puts 20 1 21 := Or.inr ⟨1, ⟨by decide +kernel, rfl⟩, rfl⟩
theorem d_T_puts_21 : cd_D 1 b_T_puts 21 .iastore 22 := ⟨by decide +kernel, rfl⟩
theorem d_T_puts_22 : cd_D_aload b_T_puts 22 0 23 := Or.inr ⟨0, ⟨by decide +kernel, rfl⟩, rfl⟩
theorem d_T_puts_23 : cd_D 1 b_T_puts 23 .dup 24 := ⟨by decide +kernel, rfl⟩
theorem d_T_puts_24 : cd_D 3 b_T_puts 24 (.getfield 30) 27 := ⟨by decide +kernel, rfl⟩
theorem d_T_puts_27 : cd_Dk b_T_puts 27 (nI 1) 28 := Or.inl ⟨1, ⟨by decide +kernel, rfl⟩, by decide +kernel⟩
theorem d_T_puts_28 : cd_D 1 b_T_puts 28 .iadd 29 := ⟨by decide +kernel, rfl⟩
theorem d_T_puts_29 : cd_D 3 b_T_puts 29 (.putfield 30) 32 := ⟨by decide +kernel, rfl⟩
theorem d_T_puts_32 : cd_D 1 b_T_puts 32 .return_ 33 := ⟨by decide +kernel, rfl⟩
theorem c_T_puts {l : Launch} {w : cd_WT} {S : cd_Sp} {I : cd_Mem} (hC : cd_CD w S) {u : Nat} (t6 : I (w.1 + 55) 6 = nI u) (hu : u ≤ 96) (x : Int32) : cd_C l w m_T_puts 0 0 0 [.ref (w.1 + 55), .int x] S I (cd_Fv S (if u < 96 then cd_set (cd_set I (w.1 + 57) (upd (I (w.1 + 57)) u x)) (w.1 + 55) (upd (I (w.1 + 55)) 6 (nI (u + 1))) else I)) := by
  refine cd_intro (by decide) (by simp [Value.category]) (Nat.le_of_ble_eq_true rfl) ?_
  intro X hO hE
  show cd_J w X 0 0 S I 0 [some (.ref (w.1 + 55)), some (.int x)] []
  refine r_aload hO d_T_puts_0 rfl ?_
  refine r_getI hO f_T_30 rfl hC.2.2.2.2.2.2.2.2.2.2.2.2.1.1 d_T_puts_1 ?_
  refine r_tops (show _ = nI u from t6) ?_
  refine r_aload hO d_T_puts_4 rfl ?_
  refine r_getR hO f_T_37 rfl hC.2.2.2.2.2.2.2.2.2.2.2.2.1.1 hC.2.2.2.2.2.2.2.2.2.2.2.2.1.2.2.1 d_T_puts_5 ?_
  refine r_alen (t := 0) hO hC.2.2.2.2.2.2.2.2.2.2.2.2.1.2.2.2.2 (by decide) d_T_puts_8 ?_
  refine r_icmp_ge hO d_T_puts_9 (fun c_9 => ?_) (fun c_9 => ?_)
  · rw [nI_leI (by omega) (by omega)] at c_9
    refine r_vret hO hE (Nat.zero_le _) (Nat.zero_le _) d_T_puts_32 ?_
    exact ⟨rfl, rfl, by rw [if_neg (by omega)]⟩
  · rw [nI_leI (by omega) (by omega)] at c_9
    refine r_aload hO d_T_puts_12 rfl ?_
    refine r_getR hO f_T_37 rfl hC.2.2.2.2.2.2.2.2.2.2.2.2.1.1 hC.2.2.2.2.2.2.2.2.2.2.2.2.1.2.2.1 d_T_puts_13 ?_
    refine r_aload hO d_T_puts_16 rfl ?_
    refine r_getI hO f_T_30 rfl hC.2.2.2.2.2.2.2.2.2.2.2.2.1.1 d_T_puts_17 ?_
    refine r_tops (show _ = nI u from t6) ?_
    refine r_iload hO d_T_puts_20 rfl ?_
    refine r_iast hO hC.2.2.2.2.2.2.2.2.2.2.2.2.1.2.2.2.2 (Nat.le_add_right _ _) (by omega) (by decide) d_T_puts_21 ?_
    refine r_aload hO d_T_puts_22 rfl ?_
    refine r_dup hO d_T_puts_23 rfl ?_
    refine r_getI hO f_T_30 rfl hC.2.2.2.2.2.2.2.2.2.2.2.2.1.1 d_T_puts_24 ?_
    try simp (disch := omega) only [cd_set_eq, cd_set_ne, cd_set_set]
    refine r_tops (show _ = nI u from t6) ?_
    refine r_k hO d_T_puts_27 ?_
    refine r_iaddN hO d_T_puts_28 ?_
    refine r_putI hO f_T_30 rfl hC.2.2.2.2.2.2.2.2.2.2.2.2.1.1 (Nat.le_add_right _ _) d_T_puts_29 ?_
    try simp (disch := omega) only [cd_set_eq, cd_set_ne, cd_set_set]
    refine r_vret hO hE (Nat.zero_le _) (Nat.zero_le _) d_T_puts_32 ?_
    exact ⟨rfl, rfl, by rw [if_pos (by omega)]⟩
theorem d_T_number_0 : cd_Dk b_T_number 0 (nI 0) 1 := Or.inl ⟨0, ⟨by decide +kernel, rfl⟩, by decide +kernel⟩
theorem d_T_number_1 : cd_D_istore b_T_number 1 1 2 := Or.inr ⟨1, ⟨by decide +kernel, rfl⟩, rfl⟩
theorem d_T_number_2 : cd_D_aload b_T_number 2 0 3 := Or.inr ⟨0, ⟨by decide +kernel, rfl⟩, rfl⟩
theorem d_T_number_3 : cd_D 3 b_T_number 3 (.getfield 15) 6 := ⟨by decide +kernel, rfl⟩
theorem d_T_number_6 : cd_D_istore b_T_number 6 2 7 := Or.inr ⟨2, ⟨by decide +kernel, rfl⟩, rfl⟩
theorem d_T_number_7 : cd_D_iload b_T_number 7 2 8 := Or.inr ⟨2, ⟨by decide +kernel, rfl⟩, rfl⟩
theorem d_T_number_8 : cd_D_aload b_T_number 8 0 9 := Or.inr ⟨0, ⟨by decide +kernel, rfl⟩, rfl⟩
theorem d_T_number_9 : cd_D 3 b_T_number 9 (.getfield 18) 12 := ⟨by decide +kernel, rfl⟩
theorem d_T_number_12 : cd_D_icmp_ge b_T_number 12 42 15 := ⟨30, by decide +kernel, by decide, rfl⟩
theorem d_T_number_15 : cd_D_iload b_T_number 15 2 16 := Or.inr ⟨2, ⟨by decide +kernel, rfl⟩, rfl⟩
theorem d_T_number_16 : cd_Dk b_T_number 16 (nI 96) 18 := Or.inr (Or.inl ⟨96, ⟨by decide +kernel, rfl⟩, by decide +kernel⟩)
theorem d_T_number_18 : cd_D_icmp_ge b_T_number 18 42 21 := ⟨24, by decide +kernel, by decide, rfl⟩
theorem d_T_number_21 : cd_D_iload b_T_number 21 1 22 := Or.inr ⟨1, ⟨by decide +kernel, rfl⟩, rfl⟩
theorem d_T_number_22 : cd_Dk b_T_number 22 (nI 10) 24 := Or.inr (Or.inl ⟨10, ⟨by decide +kernel, rfl⟩, by decide +kernel⟩)
theorem d_T_number_24 : cd_D 1 b_T_number 24 .imul 25 := ⟨by decide +kernel, rfl⟩
theorem d_T_number_25 : cd_D_aload b_T_number 25 0 26 := Or.inr ⟨0, ⟨by decide +kernel, rfl⟩, rfl⟩
theorem d_T_number_26 : cd_D 3 b_T_number 26 (.getfield 33) 29 := ⟨by decide +kernel, rfl⟩
theorem d_T_number_29 : cd_D_iload b_T_number 29 2 30 := Or.inr ⟨2, ⟨by decide +kernel, rfl⟩, rfl⟩
theorem d_T_number_30 : cd_D 1 b_T_number 30 .baload 31 := ⟨by decide +kernel, rfl⟩
theorem d_T_number_31 : cd_D 1 b_T_number 31 .iadd 32 := ⟨by decide +kernel, rfl⟩
theorem d_T_number_32 : cd_Dk b_T_number 32 (nI 48) 34 := Or.inr (Or.inl ⟨48, ⟨by decide +kernel, rfl⟩, by decide +kernel⟩)
theorem d_T_number_34 : cd_D 1 b_T_number 34 .isub 35 := ⟨by decide +kernel, rfl⟩
theorem d_T_number_35 : cd_D_istore b_T_number 35 1 36 := Or.inr ⟨1, ⟨by decide +kernel, rfl⟩, rfl⟩
theorem d_T_number_36 : cd_D 3 b_T_number 36 (.iinc 2 (1)) 39 := ⟨by decide +kernel, rfl⟩
theorem d_T_number_39 : cd_D_goto b_T_number 39 7 := ⟨-32, by decide +kernel, by decide⟩
theorem d_T_number_42 : cd_D_iload b_T_number 42 1 43 := Or.inr ⟨1, ⟨by decide +kernel, rfl⟩, rfl⟩
theorem d_T_number_43 : cd_D 1 b_T_number 43 .ireturn 44 := ⟨by decide +kernel, rfl⟩
theorem c_T_number {l : Launch} {w : cd_WT} {S : cd_Sp} {I : cd_Mem} (hC : cd_CD w S) {B : Nat → Nat} {L ky : Nat} {t : px_Tok} {u v : Nat} (h : px_CT I w B L ky t u v) (hk : t.2.1 = 2) : cd_C l w m_T_number 0 0 0 [.ref (w.1 + 55)] S I (cd_Fi S (nI (px_nm B t.1 (t.2.2 - t.1))) I) := by
  refine cd_intro (by decide) (by simp [Value.category]) (Nat.le_of_ble_eq_true rfl) ?_
  intro X hO hE
  show cd_J w X 0 0 S I 0 [some (.ref (w.1 + 55)), none, none] []
  obtain ⟨hB, hO2, t1, t2, t3, ⟨t4, t4b⟩, t5, t6, t7⟩ := id h
  have hkd := hO2.2.2.2.2.1
  have hL9 := hB.2.1
  have hlt := hO2.2.2.1 (by omega)
  have hnL := hO2.2.1
  obtain ⟨hd4, hdg⟩ := hO2.2.2.2.2.2.2 hk
  have loop : ∀ r k, t.1 + k + r = t.2.2 → cd_J w X 0 0 S I 7 [some (.ref (w.1 + 55)), some (.int (nI (px_nm B t.1 k))), some (.int (nI (t.1 + k)))] [] := by
    intro r
    induction r with
    | zero =>
      intro k hk'
      refine r_iload hO d_T_number_7 rfl ?_
      refine r_aload hO d_T_number_8 rfl ?_
      refine r_getI hO f_T_18 rfl hC.2.2.2.2.2.2.2.2.2.2.2.2.1.1 d_T_number_9 ?_
      refine r_tops (show _ = nI t.2.2 from t2) ?_
      refine r_icmp_ge hO d_T_number_12 (fun c_12 => ?_) (fun c_12 => ?_)
      · refine r_iload hO d_T_number_42 rfl ?_
        refine r_iret hO hE (Nat.zero_le _) (Nat.zero_le _) d_T_number_43 ?_
        exact ⟨by rw [show k = t.2.2 - t.1 by omega], rfl, rfl⟩
      · exact absurd (nI_le (by omega) (by omega)) c_12
    | succ r ih =>
      intro k hk'
      have hdk := hdg (t.1 + k) (by omega) (by omega)
      have hby := (hB.2.2 (t.1 + k) (by omega)).2
      rw [px_sx_p _ (by omega)] at hby
      refine r_iload hO d_T_number_7 rfl ?_
      refine r_aload hO d_T_number_8 rfl ?_
      refine r_getI hO f_T_18 rfl hC.2.2.2.2.2.2.2.2.2.2.2.2.1.1 d_T_number_9 ?_
      refine r_tops (show _ = nI t.2.2 from t2) ?_
      refine r_icmp_ge hO d_T_number_12 (fun c_12 => ?_) (fun c_12 => ?_)
      · exact absurd c_12 (nI_ge (by omega) (by omega))
      · refine r_iload hO d_T_number_15 rfl ?_
        refine r_k hO d_T_number_16 ?_
        refine r_icmp_ge hO d_T_number_18 (fun c_18 => ?_) (fun c_18 => ?_)
        · exact absurd c_18 (nI_ge (by omega) (by omega))
        · refine r_iload hO d_T_number_21 rfl ?_
          refine r_k hO d_T_number_22 ?_
          refine r_imulN hO d_T_number_24 ?_
          refine r_aload hO d_T_number_25 rfl ?_
          refine r_getR hO f_T_33 rfl hC.2.2.2.2.2.2.2.2.2.2.2.2.1.1 hC.2.2.2.2.2.2.2.2.2.2.2.2.1.2.1 d_T_number_26 ?_
          refine r_iload hO d_T_number_29 rfl ?_
          refine r_bald hO hC.2.2.2.2.2.2.2.2.2.2.2.2.1.2.2.2.1 (by omega) (by decide) d_T_number_30 ?_
          rw [hby]
          refine r_iaddN hO d_T_number_31 ?_
          refine r_k hO d_T_number_32 ?_
          refine r_isubN hO d_T_number_34 (by omega) ?_
          refine r_sI1 hO d_T_number_35 rfl ?_
          refine r_incN2 hO d_T_number_36 rfl ?_
          refine r_goto hO d_T_number_39 ?_
          have e := ih (k + 1) (by omega)
          rw [show px_nm B t.1 (k + 1) = px_nm B t.1 k * 10 + B (t.1 + k) - 48 from by show 10 * px_nm B t.1 k + (B (t.1 + k) - 48) = _; omega] at e
          exact e
  refine r_k hO d_T_number_0 ?_
  refine r_sI1 hO d_T_number_1 rfl ?_
  refine r_aload hO d_T_number_2 rfl ?_
  refine r_getI hO f_T_15 rfl hC.2.2.2.2.2.2.2.2.2.2.2.2.1.1 d_T_number_3 ?_
  refine r_tops (show _ = nI t.1 from t1) ?_
  refine r_sI2 hO d_T_number_6 rfl ?_
  exact loop (t.2.2 - t.1) 0 (by omega)
theorem px_i2c : ∀ b, b < 123 → 97 ≤ b → ((px_sx b).toUInt32 % 65536).toInt32 = nI b := by decide +kernel
theorem px_nmi : ∀ ky, ky < 3 → ∀ b, b < 123 → 97 ≤ b → px_fi (cd_tb.getD (3 + ky) []) (nI b).toInt8.toInt32 (cd_tl.getD (3 + ky) 0) 0 = px_nv ky b := by decide +kernel
def px_nmv (B : Nat → Nat) (ky : Nat) (t : px_Tok) : Int32 := if t.2.2 - t.1 = 1 ∧ px_npl ky (B t.1) < 9 then nI (10000 + px_npl ky (B t.1)) else (-1)
theorem d_T_name_0 : cd_D_aload b_T_name 0 0 1 := Or.inr ⟨0, ⟨by decide +kernel, rfl⟩, rfl⟩
theorem d_T_name_1 : cd_D 3 b_T_name 1 (.getfield 18) 4 := ⟨by decide +kernel, rfl⟩
theorem d_T_name_4 : cd_D_aload b_T_name 4 0 5 := Or.inr ⟨0, ⟨by decide +kernel, rfl⟩, rfl⟩
theorem d_T_name_5 : cd_D 3 b_T_name 5 (.getfield 15) 8 := ⟨by decide +kernel, rfl⟩
theorem d_T_name_8 : cd_D 1 b_T_name 8 .isub 9 := ⟨by decide +kernel, rfl⟩
theorem d_T_name_9 : cd_Dk b_T_name 9 (nI 1) 10 := Or.inl ⟨1, ⟨by decide +kernel, rfl⟩, by decide +kernel⟩
theorem d_T_name_10 : cd_D_icmp_eq b_T_name 10 15 13 := ⟨5, by decide +kernel, by decide, rfl⟩
theorem d_T_name_13 : cd_Dk b_T_name 13 (-1) 14 := Or.inl ⟨-1, ⟨by decide +kernel, rfl⟩, by decide +kernel⟩
theorem d_T_name_14 : cd_D 1 b_T_name 14 .ireturn 15 := ⟨by decide +kernel, rfl⟩
theorem d_T_name_15 : cd_D_aload b_T_name 15 0 16 := Or.inr ⟨0, ⟨by decide +kernel, rfl⟩, rfl⟩
theorem d_T_name_16 : cd_D 3 b_T_name 16 (.getfield 24) 19 := ⟨by decide +kernel, rfl⟩
theorem d_T_name_19 : cd_D_if_ne b_T_name 19 27 22 := ⟨8, by decide +kernel, by decide, rfl⟩
theorem d_T_name_22 : cd_D 2 b_T_name 22 (.ldc 99) 24 := ⟨by decide +kernel, rfl⟩
theorem d_T_name_24 : cd_D_goto b_T_name 24 42 := ⟨18, by decide +kernel, by decide⟩
theorem d_T_name_27 : cd_D_aload b_T_name 27 0 28 := Or.inr ⟨0, ⟨by decide +kernel, rfl⟩, rfl⟩
theorem d_T_name_28 : cd_D 3 b_T_name 28 (.getfield 24) 31 := ⟨by decide +kernel, rfl⟩
theorem d_T_name_31 : cd_Dk b_T_name 31 (nI 1) 32 := Or.inl ⟨1, ⟨by decide +kernel, rfl⟩, by decide +kernel⟩
theorem d_T_name_32 : cd_D_icmp_ne b_T_name 32 40 35 := ⟨8, by decide +kernel, by decide, rfl⟩
theorem d_T_name_35 : cd_D 2 b_T_name 35 (.ldc 101) 37 := ⟨by decide +kernel, rfl⟩
theorem d_T_name_37 : cd_D_goto b_T_name 37 42 := ⟨5, by decide +kernel, by decide⟩
theorem d_T_name_40 : cd_D 2 b_T_name 40 (.ldc 103) 42 := ⟨by decide +kernel, rfl⟩
theorem d_T_name_42 : cd_D_astore b_T_name 42 1 43 := Or.inr ⟨1, ⟨by decide +kernel, rfl⟩, rfl⟩
theorem d_T_name_43 : cd_D_aload b_T_name 43 1 44 := Or.inr ⟨1, ⟨by decide +kernel, rfl⟩, rfl⟩
theorem d_T_name_44 : cd_D_aload b_T_name 44 0 45 := Or.inr ⟨0, ⟨by decide +kernel, rfl⟩, rfl⟩
theorem d_T_name_45 : cd_D 3 b_T_name 45 (.getfield 33) 48 := ⟨by decide +kernel, rfl⟩
theorem d_T_name_48 : cd_D_aload b_T_name 48 0 49 := Or.inr ⟨0, ⟨by decide +kernel, rfl⟩, rfl⟩
theorem d_T_name_49 : cd_D 3 b_T_name 49 (.getfield 15) 52 := ⟨by decide +kernel, rfl⟩
theorem d_T_name_52 : cd_D 1 b_T_name 52 .baload 53 := ⟨by decide +kernel, rfl⟩
theorem d_T_name_53 : cd_D 1 b_T_name 53 .i2c 54 := ⟨by decide +kernel, rfl⟩
theorem d_T_name_54 : cd_D 3 b_T_name 54 (.invokevirtual 105) 57 := ⟨by decide +kernel, rfl⟩
theorem d_T_name_57 : cd_D_istore b_T_name 57 2 58 := Or.inr ⟨2, ⟨by decide +kernel, rfl⟩, rfl⟩
theorem d_T_name_58 : cd_D_iload b_T_name 58 2 59 := Or.inr ⟨2, ⟨by decide +kernel, rfl⟩, rfl⟩
theorem d_T_name_59 : cd_D_if_ge b_T_name 59 66 62 := ⟨7, by decide +kernel, by decide, rfl⟩
theorem d_T_name_62 : cd_Dk b_T_name 62 (-1) 63 := Or.inl ⟨-1, ⟨by decide +kernel, rfl⟩, by decide +kernel⟩
theorem d_T_name_63 : cd_D_goto b_T_name 63 71 := ⟨8, by decide +kernel, by decide⟩
theorem d_T_name_66 : cd_Dk b_T_name 66 (nI 10000) 69 := Or.inr (Or.inr ⟨10000, ⟨by decide +kernel, rfl⟩, by decide +kernel⟩)
theorem d_T_name_69 : cd_D_iload b_T_name 69 2 70 := Or.inr ⟨2, ⟨by decide +kernel, rfl⟩, rfl⟩
theorem d_T_name_70 : cd_D 1 b_T_name 70 .iadd 71 := ⟨by decide +kernel, rfl⟩
theorem d_T_name_71 : cd_D 1 b_T_name 71 .ireturn 72 := ⟨by decide +kernel, rfl⟩
theorem c_T_name {l : Launch} {w : cd_WT} {S : cd_Sp} {I : cd_Mem} (hC : cd_CD w S) {B : Nat → Nat} {L ky : Nat} {t : px_Tok} {u v : Nat} (h : px_CT I w B L ky t u v) (hk : t.2.1 = 1) : cd_C l w m_T_name 4 0 0 [.ref (w.1 + 55)] S I (cd_Fi S (px_nmv B ky t) I) := by
  refine cd_intro (by decide) (by simp [Value.category]) (Nat.le_of_ble_eq_true rfl) ?_
  intro X hO hE
  show cd_J w X 0 0 S I 0 [some (.ref (w.1 + 55)), none, none] []
  obtain ⟨hB, hO2, t1, t2, t3, ⟨t4, t4b⟩, t5, t6, t7⟩ := id h
  have hkd := hO2.2.2.2.2.1
  have hL9 := hB.2.1
  have hlt := hO2.2.2.1 (by omega)
  have hnL := hO2.2.1
  obtain ⟨hl1, hl2, hb, hby⟩ := h.b (Or.inr (Or.inl hk))
  have hltr := hO2.2.2.2.2.2.1 hk
  refine r_aload hO d_T_name_0 rfl ?_
  refine r_getI hO f_T_18 rfl hC.2.2.2.2.2.2.2.2.2.2.2.2.1.1 d_T_name_1 ?_
  refine r_tops (show _ = nI t.2.2 from t2) ?_
  refine r_aload hO d_T_name_4 rfl ?_
  refine r_getI hO f_T_15 rfl hC.2.2.2.2.2.2.2.2.2.2.2.2.1.1 d_T_name_5 ?_
  refine r_tops (show _ = nI t.1 from t1) ?_
  refine r_isubN hO d_T_name_8 (by omega) ?_
  refine r_k hO d_T_name_9 ?_
  refine r_icmp_eq hO d_T_name_10 (fun c_10 => ?_) (fun c_10 => ?_)
  · rw [nI_eq (by omega) (by omega)] at c_10
    refine r_aload hO d_T_name_15 rfl ?_
    refine r_getI hO f_T_24 rfl hC.2.2.2.2.2.2.2.2.2.2.2.2.1.1 d_T_name_16 ?_
    refine r_tops (show _ = nI ky from t4) ?_
    refine r_if_ne hO d_T_name_19 (fun c_19 => ?_) (fun c_19 => ?_)
    · refine r_aload hO d_T_name_27 rfl ?_
      refine r_getI hO f_T_24 rfl hC.2.2.2.2.2.2.2.2.2.2.2.2.1.1 d_T_name_28 ?_
      refine r_tops (show _ = nI ky from t4) ?_
      refine r_k hO d_T_name_31 ?_
      refine r_icmp_ne hO d_T_name_32 (fun c_32 => ?_) (fun c_32 => ?_)
      · rw [nI_eq (by omega) (by omega)] at c_32
        have hi : (5 : Nat) < 6 := by decide
        refine r_ldcS hO (hi) d_T_name_40 ?_
        refine r_sA1 hO d_T_name_42 rfl ?_
        refine r_aload hO d_T_name_43 rfl ?_
        refine r_aload hO d_T_name_44 rfl ?_
        refine r_getR hO f_T_33 rfl hC.2.2.2.2.2.2.2.2.2.2.2.2.1.1 hC.2.2.2.2.2.2.2.2.2.2.2.2.1.2.1 d_T_name_45 ?_
        refine r_aload hO d_T_name_48 rfl ?_
        refine r_getI hO f_T_15 rfl hC.2.2.2.2.2.2.2.2.2.2.2.2.1.1 d_T_name_49 ?_
        refine r_tops (show _ = nI t.1 from t1) ?_
        refine r_bald hO hC.2.2.2.2.2.2.2.2.2.2.2.2.1.2.2.2.1 (by omega) (by decide) d_T_name_52 ?_
        rw [hby]
        refine r_i2c hO d_T_name_53 ?_
        rw [px_i2c _ (by omega) (by omega)]
        refine r_cVS1fi hO hE hi (c_J_indexOf1 hi (c := nI (B t.1)) (nI_pos (by omega)) (fun q => by rw [nI_ltI (by omega) (by omega)] at q; omega)) mf_J_indexOf1 lk_T_105 rfl (by omega) rfl (Nat.le_of_ble_eq_true rfl) d_T_name_54 (Nat.zero_le _) (Nat.zero_le _) ?_
        have hky : ky = 2 := by have : ky ≠ 0 := fun q => c_19 (by rw [q]; rfl); omega
        rw [show px_fi (cd_tb.getD 5 []) (nI (B t.1)).toInt8.toInt32 (cd_tl.getD 5 0) 0 = px_nv ky (B t.1) by rw [hky]; exact px_nmi 2 (by decide) _ (by omega) (by omega)]
        refine r_sI2 hO d_T_name_57 rfl ?_
        refine r_iload hO d_T_name_58 rfl ?_
        refine r_if_ge hO d_T_name_59 (fun c_59 => ?_) (fun c_59 => ?_)
        · have hnp : px_npl ky (B t.1) < 9 := Decidable.not_not.mp (fun q => Int32.not_lt.mpr c_59 ((px_nv_lt _ _).mpr q))
          refine r_k hO d_T_name_66 ?_
          refine r_iload hO d_T_name_69 rfl ?_
          refine r_tops (show px_nv ky (B t.1) = nI (px_npl ky (B t.1)) from if_pos hnp) ?_
          refine r_iaddN hO d_T_name_70 ?_
          refine r_iret hO hE (Nat.zero_le _) (Nat.zero_le _) d_T_name_71 ?_
          exact ⟨by unfold px_nmv; rw [if_pos ⟨c_10, hnp⟩], rfl, rfl⟩
        · refine r_k hO d_T_name_62 ?_
          refine r_goto hO d_T_name_63 ?_
          refine r_iret hO hE (Nat.zero_le _) (Nat.zero_le _) d_T_name_71 ?_
          exact ⟨by unfold px_nmv; rw [if_neg (fun q => c_59 (Int32.not_lt.mp (fun z => (px_nv_lt _ _).mp z q.2)))], rfl, rfl⟩
      · rw [nI_eq (by omega) (by omega)] at c_32
        have hi : (4 : Nat) < 6 := by decide
        refine r_ldcS hO (hi) d_T_name_35 ?_
        refine r_goto hO d_T_name_37 ?_
        refine r_sA1 hO d_T_name_42 rfl ?_
        refine r_aload hO d_T_name_43 rfl ?_
        refine r_aload hO d_T_name_44 rfl ?_
        refine r_getR hO f_T_33 rfl hC.2.2.2.2.2.2.2.2.2.2.2.2.1.1 hC.2.2.2.2.2.2.2.2.2.2.2.2.1.2.1 d_T_name_45 ?_
        refine r_aload hO d_T_name_48 rfl ?_
        refine r_getI hO f_T_15 rfl hC.2.2.2.2.2.2.2.2.2.2.2.2.1.1 d_T_name_49 ?_
        refine r_tops (show _ = nI t.1 from t1) ?_
        refine r_bald hO hC.2.2.2.2.2.2.2.2.2.2.2.2.1.2.2.2.1 (by omega) (by decide) d_T_name_52 ?_
        rw [hby]
        refine r_i2c hO d_T_name_53 ?_
        rw [px_i2c _ (by omega) (by omega)]
        refine r_cVS1fi hO hE hi (c_J_indexOf1 hi (c := nI (B t.1)) (nI_pos (by omega)) (fun q => by rw [nI_ltI (by omega) (by omega)] at q; omega)) mf_J_indexOf1 lk_T_105 rfl (by omega) rfl (Nat.le_of_ble_eq_true rfl) d_T_name_54 (Nat.zero_le _) (Nat.zero_le _) ?_
        have hky : ky = 1 := by exact c_32
        rw [show px_fi (cd_tb.getD 4 []) (nI (B t.1)).toInt8.toInt32 (cd_tl.getD 4 0) 0 = px_nv ky (B t.1) by rw [hky]; exact px_nmi 1 (by decide) _ (by omega) (by omega)]
        refine r_sI2 hO d_T_name_57 rfl ?_
        refine r_iload hO d_T_name_58 rfl ?_
        refine r_if_ge hO d_T_name_59 (fun c_59 => ?_) (fun c_59 => ?_)
        · have hnp : px_npl ky (B t.1) < 9 := Decidable.not_not.mp (fun q => Int32.not_lt.mpr c_59 ((px_nv_lt _ _).mpr q))
          refine r_k hO d_T_name_66 ?_
          refine r_iload hO d_T_name_69 rfl ?_
          refine r_tops (show px_nv ky (B t.1) = nI (px_npl ky (B t.1)) from if_pos hnp) ?_
          refine r_iaddN hO d_T_name_70 ?_
          refine r_iret hO hE (Nat.zero_le _) (Nat.zero_le _) d_T_name_71 ?_
          exact ⟨by unfold px_nmv; rw [if_pos ⟨c_10, hnp⟩], rfl, rfl⟩
        · refine r_k hO d_T_name_62 ?_
          refine r_goto hO d_T_name_63 ?_
          refine r_iret hO hE (Nat.zero_le _) (Nat.zero_le _) d_T_name_71 ?_
          exact ⟨by unfold px_nmv; rw [if_neg (fun q => c_59 (Int32.not_lt.mp (fun z => (px_nv_lt _ _).mp z q.2)))], rfl, rfl⟩
    · have hi : (3 : Nat) < 6 := by decide
      refine r_ldcS hO (hi) d_T_name_22 ?_
      refine r_goto hO d_T_name_24 ?_
      refine r_sA1 hO d_T_name_42 rfl ?_
      refine r_aload hO d_T_name_43 rfl ?_
      refine r_aload hO d_T_name_44 rfl ?_
      refine r_getR hO f_T_33 rfl hC.2.2.2.2.2.2.2.2.2.2.2.2.1.1 hC.2.2.2.2.2.2.2.2.2.2.2.2.1.2.1 d_T_name_45 ?_
      refine r_aload hO d_T_name_48 rfl ?_
      refine r_getI hO f_T_15 rfl hC.2.2.2.2.2.2.2.2.2.2.2.2.1.1 d_T_name_49 ?_
      refine r_tops (show _ = nI t.1 from t1) ?_
      refine r_bald hO hC.2.2.2.2.2.2.2.2.2.2.2.2.1.2.2.2.1 (by omega) (by decide) d_T_name_52 ?_
      rw [hby]
      refine r_i2c hO d_T_name_53 ?_
      rw [px_i2c _ (by omega) (by omega)]
      refine r_cVS1fi hO hE hi (c_J_indexOf1 hi (c := nI (B t.1)) (nI_pos (by omega)) (fun q => by rw [nI_ltI (by omega) (by omega)] at q; omega)) mf_J_indexOf1 lk_T_105 rfl (by omega) rfl (Nat.le_of_ble_eq_true rfl) d_T_name_54 (Nat.zero_le _) (Nat.zero_le _) ?_
      have hky : ky = 0 := by by_cases q : ky = 0; exact q; exact absurd c_19 (nI_ne0 (by omega) (by omega))
      rw [show px_fi (cd_tb.getD 3 []) (nI (B t.1)).toInt8.toInt32 (cd_tl.getD 3 0) 0 = px_nv ky (B t.1) by rw [hky]; exact px_nmi 0 (by decide) _ (by omega) (by omega)]
      refine r_sI2 hO d_T_name_57 rfl ?_
      refine r_iload hO d_T_name_58 rfl ?_
      refine r_if_ge hO d_T_name_59 (fun c_59 => ?_) (fun c_59 => ?_)
      · have hnp : px_npl ky (B t.1) < 9 := Decidable.not_not.mp (fun q => Int32.not_lt.mpr c_59 ((px_nv_lt _ _).mpr q))
        refine r_k hO d_T_name_66 ?_
        refine r_iload hO d_T_name_69 rfl ?_
        refine r_tops (show px_nv ky (B t.1) = nI (px_npl ky (B t.1)) from if_pos hnp) ?_
        refine r_iaddN hO d_T_name_70 ?_
        refine r_iret hO hE (Nat.zero_le _) (Nat.zero_le _) d_T_name_71 ?_
        exact ⟨by unfold px_nmv; rw [if_pos ⟨c_10, hnp⟩], rfl, rfl⟩
      · refine r_k hO d_T_name_62 ?_
        refine r_goto hO d_T_name_63 ?_
        refine r_iret hO hE (Nat.zero_le _) (Nat.zero_le _) d_T_name_71 ?_
        exact ⟨by unfold px_nmv; rw [if_neg (fun q => c_59 (Int32.not_lt.mp (fun z => (px_nv_lt _ _).mp z q.2)))], rfl, rfl⟩
  · rw [nI_eq (by omega) (by omega)] at c_10
    refine r_k hO d_T_name_13 ?_
    refine r_iret hO hE (Nat.zero_le _) (Nat.zero_le _) d_T_name_14 ?_
    exact ⟨by unfold px_nmv; rw [if_neg (fun q => c_10 q.1)], rfl, rfl⟩
