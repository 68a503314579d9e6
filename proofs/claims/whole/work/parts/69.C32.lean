def cd_PD (w : cd_WT) (S : cd_Sp) (I : cd_Mem) (ce N : Nat → Int32) (mm tc s K : Nat) : cd_Pt := fun r S1 I1 => r = none ∧ cd_TD w S I S1 I1 ∧ ∀ a, a < mm → I1 (w.1 + 61) a = nI (px_os ce N mm tc s a K) ∧ cd_ol ce N mm tc s a K = lN (px_os ce N mm tc s a K) ∧ px_os ce N mm tc s a K ≤ 1201176
theorem d_C_sumDifferences_0 : cd_D_aload b_C_sumDifferences 0 0 1 := Or.inr ⟨0, ⟨by decide +kernel, rfl⟩, rfl⟩
theorem d_C_sumDifferences_1 : cd_D 3 b_C_sumDifferences 1 (.getfield 16) 4 := ⟨by decide +kernel, rfl⟩
theorem d_C_sumDifferences_4 : cd_D_aload b_C_sumDifferences 4 0 5 := Or.inr ⟨0, ⟨by decide +kernel, rfl⟩, rfl⟩
theorem d_C_sumDifferences_5 : cd_D 3 b_C_sumDifferences 5 (.getfield 10) 8 := ⟨by decide +kernel, rfl⟩
theorem d_C_sumDifferences_8 : cd_D 3 b_C_sumDifferences 8 (.invokevirtual 156) 11 := ⟨by decide +kernel, rfl⟩
theorem d_C_sumDifferences_11 : cd_Dk b_C_sumDifferences 11 (nI 0) 12 := Or.inl ⟨0, ⟨by decide +kernel, rfl⟩, by decide +kernel⟩
theorem d_C_sumDifferences_12 : cd_D_istore b_C_sumDifferences 12 2 13 := Or.inr ⟨2, ⟨by decide +kernel, rfl⟩, rfl⟩
theorem d_C_sumDifferences_13 : cd_D_iload b_C_sumDifferences 13 2 14 := Or.inr ⟨2, ⟨by decide +kernel, rfl⟩, rfl⟩
theorem d_C_sumDifferences_14 : cd_Dk b_C_sumDifferences 14 (nI 12) 16 := Or.inr (Or.inl ⟨12, ⟨by decide +kernel, rfl⟩, by decide +kernel⟩)
theorem d_C_sumDifferences_16 : cd_D_icmp_ge b_C_sumDifferences 16 32 19 := ⟨16, by decide +kernel, by decide, rfl⟩
theorem d_C_sumDifferences_19 : cd_D_aload b_C_sumDifferences 19 0 20 := Or.inr ⟨0, ⟨by decide +kernel, rfl⟩, rfl⟩
theorem d_C_sumDifferences_20 : cd_D 3 b_C_sumDifferences 20 (.getfield 53) 23 := ⟨by decide +kernel, rfl⟩
theorem d_C_sumDifferences_23 : cd_D_iload b_C_sumDifferences 23 2 24 := Or.inr ⟨2, ⟨by decide +kernel, rfl⟩, rfl⟩
theorem d_C_sumDifferences_24 : cd_Dk b_C_sumDifferences 24 (nI 0) 25 := Or.inl ⟨0, ⟨by decide +kernel, rfl⟩, by decide +kernel⟩
theorem d_C_sumDifferences_25 : cd_D 1 b_C_sumDifferences 25 .iastore 26 := ⟨by decide +kernel, rfl⟩
theorem d_C_sumDifferences_26 : cd_D 3 b_C_sumDifferences 26 (.iinc 2 (1)) 29 := ⟨by decide +kernel, rfl⟩
theorem d_C_sumDifferences_29 : cd_D_goto b_C_sumDifferences 29 13 := ⟨-16, by decide +kernel, by decide⟩
theorem d_C_sumDifferences_32 : cd_Dk b_C_sumDifferences 32 (nI 0) 33 := Or.inl ⟨0, ⟨by decide +kernel, rfl⟩, by decide +kernel⟩
theorem d_C_sumDifferences_33 : cd_D_istore b_C_sumDifferences 33 2 34 := Or.inr ⟨2, ⟨by decide +kernel, rfl⟩, rfl⟩
theorem d_C_sumDifferences_34 : cd_D_iload b_C_sumDifferences 34 2 35 := Or.inr ⟨2, ⟨by decide +kernel, rfl⟩, rfl⟩
theorem d_C_sumDifferences_35 : cd_D_aload b_C_sumDifferences 35 1 36 := Or.inr ⟨1, ⟨by decide +kernel, rfl⟩, rfl⟩
theorem d_C_sumDifferences_36 : cd_D 3 b_C_sumDifferences 36 (.getfield 176) 39 := ⟨by decide +kernel, rfl⟩
theorem d_C_sumDifferences_39 : cd_D_icmp_ge b_C_sumDifferences 39 85 42 := ⟨46, by decide +kernel, by decide, rfl⟩
theorem d_C_sumDifferences_42 : cd_D_iload b_C_sumDifferences 42 2 43 := Or.inr ⟨2, ⟨by decide +kernel, rfl⟩, rfl⟩
theorem d_C_sumDifferences_43 : cd_Dk b_C_sumDifferences 43 (nI 12) 45 := Or.inr (Or.inl ⟨12, ⟨by decide +kernel, rfl⟩, by decide +kernel⟩)
theorem d_C_sumDifferences_45 : cd_D_icmp_ge b_C_sumDifferences 45 85 48 := ⟨40, by decide +kernel, by decide, rfl⟩
theorem d_C_sumDifferences_48 : cd_D_iload b_C_sumDifferences 48 2 49 := Or.inr ⟨2, ⟨by decide +kernel, rfl⟩, rfl⟩
theorem d_C_sumDifferences_49 : cd_D_if_le b_C_sumDifferences 49 61 52 := ⟨12, by decide +kernel, by decide, rfl⟩
theorem d_C_sumDifferences_52 : cd_D_aload b_C_sumDifferences 52 0 53 := Or.inr ⟨0, ⟨by decide +kernel, rfl⟩, rfl⟩
theorem d_C_sumDifferences_53 : cd_D 3 b_C_sumDifferences 53 (.getfield 16) 56 := ⟨by decide +kernel, rfl⟩
theorem d_C_sumDifferences_56 : cd_Dk b_C_sumDifferences 56 (nI 24) 58 := Or.inr (Or.inl ⟨24, ⟨by decide +kernel, rfl⟩, by decide +kernel⟩)
theorem d_C_sumDifferences_58 : cd_D 3 b_C_sumDifferences 58 (.invokevirtual 146) 61 := ⟨by decide +kernel, rfl⟩
theorem d_C_sumDifferences_61 : cd_D_aload b_C_sumDifferences 61 1 62 := Or.inr ⟨1, ⟨by decide +kernel, rfl⟩, rfl⟩
theorem d_C_sumDifferences_62 : cd_D_iload b_C_sumDifferences 62 2 63 := Or.inr ⟨2, ⟨by decide +kernel, rfl⟩, rfl⟩
theorem d_C_sumDifferences_63 : cd_D 3 b_C_sumDifferences 63 (.invokevirtual 179) 66 := ⟨by decide +kernel, rfl⟩
theorem d_C_sumDifferences_66 : cd_D_if_eq b_C_sumDifferences 66 79 69 := ⟨13, by decide +kernel, by decide, rfl⟩
theorem d_C_sumDifferences_69 : cd_D_aload b_C_sumDifferences 69 0 70 := Or.inr ⟨0, ⟨by decide +kernel, rfl⟩, rfl⟩
theorem d_C_sumDifferences_70 : cd_D_aload b_C_sumDifferences 70 1 71 := Or.inr ⟨1, ⟨by decide +kernel, rfl⟩, rfl⟩
theorem d_C_sumDifferences_71 : cd_D 3 b_C_sumDifferences 71 (.getfield 182) 74 := ⟨by decide +kernel, rfl⟩
theorem d_C_sumDifferences_74 : cd_D_iload b_C_sumDifferences 74 2 75 := Or.inr ⟨2, ⟨by decide +kernel, rfl⟩, rfl⟩
theorem d_C_sumDifferences_75 : cd_D 1 b_C_sumDifferences 75 .iaload 76 := ⟨by decide +kernel, rfl⟩
theorem d_C_sumDifferences_76 : cd_D 3 b_C_sumDifferences 76 (.invokevirtual 185) 79 := ⟨by decide +kernel, rfl⟩
theorem d_C_sumDifferences_79 : cd_D 3 b_C_sumDifferences 79 (.iinc 2 (1)) 82 := ⟨by decide +kernel, rfl⟩
theorem d_C_sumDifferences_82 : cd_D_goto b_C_sumDifferences 82 34 := ⟨-48, by decide +kernel, by decide⟩
theorem d_C_sumDifferences_85 : cd_D 1 b_C_sumDifferences 85 .return_ 86 := ⟨by decide +kernel, rfl⟩
theorem c_C_sumDifferences {l : Launch} {w : cd_WT} {S : cd_Sp} {I : cd_Mem} (hC : cd_CD w S) {mm tc : Nat} {N : Nat → Int32} (hG : cd_HG w S I (w.1 + 1) N mm tc) {so sz ce : Nat → Int32} (hS : cd_SR w I so sz ce) (hVS : cd_VS so sz) (hVC : cd_VC ce) {s : Nat} (hs4 : s < 4) : cd_C l w m_C_sumDifferences 6 0 0 [.ref w.1, .ref (w.1 + 62 + 2 * s)] S I (cd_PD w S I ce N mm tc s (min (cd_tn (sz s)) 12)) := by
  refine cd_intro (by decide) (by simp [Value.category]) (Nat.le_of_ble_eq_true rfl) ?_
  intro X hO hE
  show cd_J w X 0 0 S I 0 [some (.ref w.1), some (.ref (w.1 + 62 + 2 * s)), none] []
  obtain ⟨hs0, hs1, hs2⟩ := hS s (by omega)
  obtain ⟨n, hn24, hsz, hso⟩ := hVS s (by omega)
  have hH := hG.1
  have hT : cd_HO w S (w.1 + 19) := hC.2.2.2.2.2.2.2.2.2.2.1
  have hI : cd_HO w S (w.1 + 37) := hC.2.2.2.2.2.2.2.2.2.2.2.1
  have hmm := hG.2.2.1.2.1
  obtain ⟨K, hK⟩ : ∃ K, K = min n 12 := ⟨_, rfl⟩
  have fin : ∀ (S1 : cd_Sp) (I1 : cd_Mem), cd_TD w S I S1 I1 → (∀ a, a < mm → I1 (w.1 + 61) a = nI (px_os ce N mm tc s a K)) → (∀ a, a < mm → ∀ j, j < K → ∃ b, b ≤ 99 ∧ cd_hs N mm tc (24 * j) (16 + 5 * a + 2) = nI b) → cd_PD w S I ce N mm tc s (min (cd_tn (sz s)) 12) none S1 I1 := by
    intro S1 I1 hT1 hd hb
    refine ⟨rfl, hT1, fun a ha => ?_⟩
    obtain ⟨q1, q2⟩ := px_ol (ce := ce) (N := N) (mm := mm) (tc := tc) (s := s) (a := a) K (fun k hk => ⟨hVC _ (by omega), hb a ha k hk⟩)
    rw [hsz, cd_tn_nI (by omega), ← hK]
    exact ⟨hd a ha, q1, by omega⟩
  have loop : ∀ (r k : Nat) (S1 : cd_Sp) (I1 : cd_Mem), k + r = K → cd_TD w S I S1 I1 → cd_HG w S1 I1 (w.1 + 19) (cd_hs N mm tc (24 * (k - 1))) mm tc → (∀ a, a < mm → I1 (w.1 + 61) a = nI (px_os ce N mm tc s a k)) → (∀ a, a < mm → ∀ j, j < k → ∃ b, b ≤ 99 ∧ cd_hs N mm tc (24 * j) (16 + 5 * a + 2) = nI b) → cd_J w X 0 0 S1 I1 34 [some (.ref w.1), some (.ref (w.1 + 62 + 2 * s)), some (.int (nI k))] [] := by
    intro r
    induction r with
    | zero =>
      intro k S1 I1 hk hT1 hG1 hd hb
      have hkK : k = K := by omega
      subst hkK
      have hC1 := hT1.1.cdh hC
      have hz1 : I1 (w.1 + 62 + 2 * s) 1 = nI n := by rw [hT1.2 _ (fun q => by rcases q with q | q <;> omega) (by omega), hs1, hsz]
      refine r_iload hO d_C_sumDifferences_34 rfl ?_
      refine r_aload hO d_C_sumDifferences_35 rfl ?_
      refine r_getI hO f_C_176 rfl (hC1.2.2.2.2.2.2.2.2.2.2.2.2.2.2.2.2.2.1 s (by omega)).2.1 d_C_sumDifferences_36 ?_
      rw [hz1]
      refine r_icmp_ge hO d_C_sumDifferences_39 (fun c_39 => ?_) (fun c_39 => ?_)
      · rw [nI_leI (by omega) (by omega)] at c_39
        refine r_vret hO hE (Nat.zero_le _) (Nat.zero_le _) d_C_sumDifferences_85 ?_
        exact fin S1 I1 hT1 hd hb
      · rw [nI_leI (by omega) (by omega)] at c_39
        refine r_iload hO d_C_sumDifferences_42 rfl ?_
        refine r_k hO d_C_sumDifferences_43 ?_
        refine r_icmp_ge hO d_C_sumDifferences_45 (fun c_45 => ?_) (fun c_45 => ?_)
        · refine r_vret hO hE (Nat.zero_le _) (Nat.zero_le _) d_C_sumDifferences_85 ?_
          exact fin S1 I1 hT1 hd hb
        · exact absurd (nI_le (by omega) (by omega)) c_45
    | succ r ih =>
      intro k S1 I1 hk hT1 hG1 hd hb
      have hC1 := hT1.1.cdh hC
      have hz1 : I1 (w.1 + 62 + 2 * s) 1 = nI n := by rw [hT1.2 _ (fun q => by rcases q with q | q <;> omega) (by omega), hs1, hsz]
      have tail : ∀ (I2 : cd_Mem), cd_TD w S I S1 I2 → cd_HG w S1 I2 (w.1 + 19) (cd_hs N mm tc (24 * k)) mm tc → (∀ a, a < mm → I2 (w.1 + 61) a = nI (px_os ce N mm tc s a k)) → cd_J w X 0 0 S1 I2 61 [some (.ref w.1), some (.ref (w.1 + 62 + 2 * s)), some (.int (nI k))] [] := by
        intro I2 hT2 hG2 hd2
        have hz2 : I2 (w.1 + 62 + 2 * s) 1 = nI n := by rw [hT2.2 _ (fun q => by rcases q with q | q <;> omega) (by omega), hs1, hsz]
        have hp2 : I2 (w.1 + 62 + 2 * s + 1) k = ce (24 * s + k) := by rw [hT2.2 _ (fun q => by rcases q with q | q <;> omega) (by omega)]; exact hs2 k (by omega)
        have hb2 : ∀ a, a < mm → ∀ j, j < k + 1 → ∃ b, b ≤ 99 ∧ cd_hs N mm tc (24 * j) (16 + 5 * a + 2) = nI b := fun a ha j hj => by
          by_cases e : j = k
          · subst e; exact (hG2.2.2.2.1.1 a ha).2.2.1
          · exact hb a ha j (by omega)
        refine r_aload hO d_C_sumDifferences_61 rfl ?_
        refine r_iload hO d_C_sumDifferences_62 rfl ?_
        refine r_cV1fi hO hE (c_S_isNumber (hC1.2.2.2.2.2.2.2.2.2.2.2.2.2.2.2.2.2.1 s (by omega)).2 (Nat.le_trans (Nat.le_add_right _ _) (Nat.le_add_right _ _)) hz2 hn24 _) mf_S_isNumber lk_C_179 (hC1.2.2.2.2.2.2.2.2.2.2.2.2.2.2.2.2.2.1 s (by omega)).2.1 rfl (by decide) rfl (Nat.le_of_ble_eq_true rfl) d_C_sumDifferences_63 (Nat.zero_le _) (Nat.zero_le _) ?_
        refine r_if_eqB hO d_C_sumDifferences_66 (fun c_66 => ?_) (fun c_66 => ?_)
        · refine r_incN2 hO d_C_sumDifferences_79 rfl ?_
          refine r_goto hO d_C_sumDifferences_82 ?_
          refine ih (k + 1) S1 I2 (by omega) hT2 (by rw [show k + 1 - 1 = k from rfl]; exact hG2) (fun a ha => ?_) hb2
          rw [hd2 a ha]
          congr 1
          show px_os ce N mm tc s a k = px_os ce N mm tc s a k + px_oe ce N mm tc s a k
          have hnn : ce (24 * s + k) = cd_NONE := Decidable.not_not.mp (fun q => c_66 ⟨nI_pos (by omega), nI_ge (by omega) (by omega), by rw [cd_tn_nI (show k < 2 ^ 31 by omega), hp2]; exact q⟩)
          unfold px_oe px_of
          rw [if_pos hnn]
          rfl
        · have hne : ¬ ce (24 * s + k) = cd_NONE := by
            have := c_66.2.2
            rw [cd_tn_nI (show k < 2 ^ 31 by omega), hp2] at this
            exact this
          refine r_aload hO d_C_sumDifferences_69 rfl ?_
          refine r_aload hO d_C_sumDifferences_70 rfl ?_
          refine r_getR hO f_C_182 rfl (hC1.2.2.2.2.2.2.2.2.2.2.2.2.2.2.2.2.2.1 s (by omega)).2.1 (hC1.2.2.2.2.2.2.2.2.2.2.2.2.2.2.2.2.2.1 s (by omega)).2.2.1 d_C_sumDifferences_71 ?_
          refine r_iload hO d_C_sumDifferences_74 rfl ?_
          refine r_iald hO (hC1.2.2.2.2.2.2.2.2.2.2.2.2.2.2.2.2.2.1 s (by omega)).2.2.2 (by omega) (by decide) d_C_sumDifferences_75 ?_
          rw [hp2]
          refine r_cV1v hO hE (c_C_addDifferences hC1 hG2 hne (hVC _ (by omega) |>.resolve_left hne)) mf_C_addDifferences lk_C_185 hC1.1 rfl (by decide) rfl (Nat.le_of_ble_eq_true rfl) d_C_sumDifferences_76 (Nat.zero_le _) (Nat.zero_le _) ?_
          rintro I3 ⟨g1, g2⟩
          refine r_incN2 hO d_C_sumDifferences_79 rfl ?_
          refine r_goto hO d_C_sumDifferences_82 ?_
          refine ih (k + 1) S1 I3 (by omega) (hT2.d g2) ?_ (fun a ha => ?_) hb2
          · rw [show k + 1 - 1 = k from rfl]
            exact hG2.off (fun b _ _ => g2 b (by omega)) (fun b _ => g2 b (by omega))
          · rw [g1 a ha, hd2 a ha, nI_add]
            rfl
      refine r_iload hO d_C_sumDifferences_34 rfl ?_
      refine r_aload hO d_C_sumDifferences_35 rfl ?_
      refine r_getI hO f_C_176 rfl (hC1.2.2.2.2.2.2.2.2.2.2.2.2.2.2.2.2.2.1 s (by omega)).2.1 d_C_sumDifferences_36 ?_
      rw [hz1]
      refine r_icmp_ge hO d_C_sumDifferences_39 (fun c_39 => ?_) (fun c_39 => ?_)
      · exact absurd c_39 (nI_ge (by omega) (by omega))
      · refine r_iload hO d_C_sumDifferences_42 rfl ?_
        refine r_k hO d_C_sumDifferences_43 ?_
        refine r_icmp_ge hO d_C_sumDifferences_45 (fun c_45 => ?_) (fun c_45 => ?_)
        · exact absurd c_45 (nI_ge (by omega) (by omega))
        · refine r_iload hO d_C_sumDifferences_48 rfl ?_
          refine r_if_le hO d_C_sumDifferences_49 (fun c_49 => ?_) (fun c_49 => ?_)
          · have hk0 : k = 0 := by
              rcases Nat.eq_zero_or_pos k with q | q
              · exact q
              · exact absurd c_49 (nI_nle q (by omega))
            exact tail I1 hT1 (by rw [show 24 * k = 24 * (k - 1) by omega]; exact hG1) hd
          · have hk0 : 0 < k := Nat.pos_of_ne_zero (fun q => c_49 (by rw [q]; decide))
            refine r_aload hO d_C_sumDifferences_52 rfl ?_
            refine r_getR hO f_C_16 rfl hC1.1 hC1.2.2.1 d_C_sumDifferences_53 ?_
            refine r_k hO d_C_sumDifferences_56 ?_
            refine r_cV1v hO hE (c_H_passHours hG1 24 (by decide)) mf_H_passHours lk_C_146 hG1.1.2.1 rfl (by decide) rfl (Nat.le_of_ble_eq_true rfl) d_C_sumDifferences_58 (Nat.zero_le _) (Nat.zero_le _) ?_
            intro I2 hh2
            have hG2 : cd_HG w S1 I2 (w.1 + 19) (cd_hs N mm tc (24 * k)) mm tc := by
              have := hh2.1
              rw [cd_hs_add, show 24 * (k - 1) + 24 = 24 * k by omega] at this
              exact this
            exact tail I2 (hT1.of hh2.2) hG2 (fun a ha => by rw [hh2.2 (w.1 + 61) (fun q => by rcases q with q | q <;> omega)]; exact hd a ha)
  have zero : ∀ (r k : Nat) (S1 : cd_Sp) (I1 : cd_Mem), k + r = 12 → cd_TD w S I S1 I1 → cd_HG w S1 I1 (w.1 + 19) N mm tc → (∀ a, a < k → I1 (w.1 + 61) a = nI 0) → cd_J w X 0 0 S1 I1 13 [some (.ref w.1), some (.ref (w.1 + 62 + 2 * s)), some (.int (nI k))] [] := by
    intro r
    induction r with
    | zero =>
      intro k S1 I1 hk hT1 hG1 hd
      have hC1 := hT1.1.cdh hC
      refine r_iload hO d_C_sumDifferences_13 rfl ?_
      refine r_k hO d_C_sumDifferences_14 ?_
      refine r_icmp_ge hO d_C_sumDifferences_16 (fun c_16 => ?_) (fun c_16 => ?_)
      · refine r_k hO d_C_sumDifferences_32 ?_
        refine r_sI2 hO d_C_sumDifferences_33 rfl ?_
        exact loop K 0 S1 I1 (by omega) hT1 hG1 (fun a ha => hd a (by omega)) (fun a ha j hj => absurd hj (Nat.not_lt_zero _))
      · exact absurd (nI_le (by omega) (by omega)) c_16
    | succ r ih =>
      intro k S1 I1 hk hT1 hG1 hd
      have hC1 := hT1.1.cdh hC
      refine r_iload hO d_C_sumDifferences_13 rfl ?_
      refine r_k hO d_C_sumDifferences_14 ?_
      refine r_icmp_ge hO d_C_sumDifferences_16 (fun c_16 => ?_) (fun c_16 => ?_)
      · exact absurd c_16 (nI_ge (by omega) (by omega))
      · refine r_aload hO d_C_sumDifferences_19 rfl ?_
        refine r_getR hO f_C_53 rfl hC1.1 hC1.2.2.2.2.2.2.2.2.1 d_C_sumDifferences_20 ?_
        refine r_iload hO d_C_sumDifferences_23 rfl ?_
        refine r_k hO d_C_sumDifferences_24 ?_
        refine r_iast hO hC1.2.2.2.2.2.2.2.2.2.2.2.2.2.2.2.2.1 (Nat.le_add_right _ _) (by omega) (by decide) d_C_sumDifferences_25 ?_
        refine r_incN2 hO d_C_sumDifferences_26 rfl ?_
        refine r_goto hO d_C_sumDifferences_29 ?_
        refine ih (k + 1) S1 _ (by omega) (hT1.d (fun q hq => cd_set_ne _ _ hq)) (hG1.off (fun b _ _ => cd_set_ne _ _ (by omega)) (fun b _ => cd_set_ne _ _ (by omega))) (fun a ha => ?_)
        rw [cd_set_eq]
        by_cases e : a = k
        · rw [e, px_ue]
        · rw [px_un _ _ e]
          exact hd a (by omega)
  refine r_aload hO d_C_sumDifferences_0 rfl ?_
  refine r_getR hO f_C_16 rfl hC.1 hC.2.2.1 d_C_sumDifferences_1 ?_
  refine r_aload hO d_C_sumDifferences_4 rfl ?_
  refine r_getR hO f_C_10 rfl hC.1 hC.2.1 d_C_sumDifferences_5 ?_
  refine cd_callV (rest := []) hO hE.1 (c_H_takes hG hT (by omega) (by omega)) mf_H_takes lk_C_156 hT.2.1 rfl (by decide) rfl rfl rfl (Nat.le_of_ble_eq_true rfl) d_C_sumDifferences_8 ⟨Nat.zero_le _, Nat.zero_le _⟩ ?_
  rintro r S1 I1 ⟨rfl, h1, h2, h3⟩
  have hT1 : cd_TD w S I S1 I1 := ⟨h1, fun b hb _ => h3 b (fun q => hb (Or.inl q))⟩
  show cd_J w X 0 0 S1 I1 11 [some (.ref w.1), some (.ref (w.1 + 62 + 2 * s)), none] []
  refine r_k hO d_C_sumDifferences_11 ?_
  refine r_sI2 hO d_C_sumDifferences_12 rfl ?_
  exact zero 12 0 S1 I1 (by omega) hT1 h2 (fun a ha => absurd ha (Nat.not_lt_zero _))
theorem cd_TD.rf (w : cd_WT) (S : cd_Sp) (I : cd_Mem) : cd_TD w S I S I := ⟨cd_ss.rf _ _, fun _ _ _ => rfl⟩
theorem d_C_taught_0 : cd_D_iload b_C_taught 0 1 1 := Or.inr ⟨1, ⟨by decide +kernel, rfl⟩, rfl⟩
theorem d_C_taught_1 : cd_Dk b_C_taught 1 (nI 3) 2 := Or.inl ⟨3, ⟨by decide +kernel, rfl⟩, by decide +kernel⟩
theorem d_C_taught_2 : cd_D 3 b_C_taught 2 (.invokestatic 58) 5 := ⟨by decide +kernel, rfl⟩
theorem d_C_taught_5 : cd_D_if_eq b_C_taught 5 17 8 := ⟨12, by decide +kernel, by decide, rfl⟩
theorem d_C_taught_8 : cd_D_iload b_C_taught 8 2 9 := Or.inr ⟨2, ⟨by decide +kernel, rfl⟩, rfl⟩
theorem d_C_taught_9 : cd_D_if_lt b_C_taught 9 17 12 := ⟨8, by decide +kernel, by decide, rfl⟩
theorem d_C_taught_12 : cd_D_iload b_C_taught 12 2 13 := Or.inr ⟨2, ⟨by decide +kernel, rfl⟩, rfl⟩
theorem d_C_taught_13 : cd_Dk b_C_taught 13 (nI 1) 14 := Or.inl ⟨1, ⟨by decide +kernel, rfl⟩, by decide +kernel⟩
theorem d_C_taught_14 : cd_D_icmp_le b_C_taught 14 20 17 := ⟨6, by decide +kernel, by decide, rfl⟩
theorem d_C_taught_17 : cd_D 2 b_C_taught 17 (.ldc 62) 19 := ⟨by decide +kernel, rfl⟩
theorem d_C_taught_19 : cd_D 1 b_C_taught 19 .ireturn 20 := ⟨by decide +kernel, rfl⟩
theorem d_C_taught_20 : cd_D_aload b_C_taught 20 0 21 := Or.inr ⟨0, ⟨by decide +kernel, rfl⟩, rfl⟩
theorem d_C_taught_21 : cd_D 3 b_C_taught 21 (.getfield 35) 24 := ⟨by decide +kernel, rfl⟩
theorem d_C_taught_24 : cd_D_iload b_C_taught 24 1 25 := Or.inr ⟨1, ⟨by decide +kernel, rfl⟩, rfl⟩
theorem d_C_taught_25 : cd_D 1 b_C_taught 25 .aaload 26 := ⟨by decide +kernel, rfl⟩
theorem d_C_taught_26 : cd_D 3 b_C_taught 26 (.invokevirtual 167) 29 := ⟨by decide +kernel, rfl⟩
theorem d_C_taught_29 : cd_D_if_eq b_C_taught 29 35 32 := ⟨6, by decide +kernel, by decide, rfl⟩
theorem d_C_taught_32 : cd_D 2 b_C_taught 32 (.ldc 171) 34 := ⟨by decide +kernel, rfl⟩
theorem d_C_taught_34 : cd_D 1 b_C_taught 34 .ireturn 35 := ⟨by decide +kernel, rfl⟩
theorem d_C_taught_35 : cd_D_aload b_C_taught 35 0 36 := Or.inr ⟨0, ⟨by decide +kernel, rfl⟩, rfl⟩
theorem d_C_taught_36 : cd_D 3 b_C_taught 36 (.getfield 10) 39 := ⟨by decide +kernel, rfl⟩
theorem d_C_taught_39 : cd_D 3 b_C_taught 39 (.getfield 63) 42 := ⟨by decide +kernel, rfl⟩
theorem d_C_taught_42 : cd_D_if_ne b_C_taught 42 48 45 := ⟨6, by decide +kernel, by decide, rfl⟩
theorem d_C_taught_45 : cd_D 2 b_C_taught 45 (.ldc 160) 47 := ⟨by decide +kernel, rfl⟩
theorem d_C_taught_47 : cd_D 1 b_C_taught 47 .ireturn 48 := ⟨by decide +kernel, rfl⟩
theorem d_C_taught_48 : cd_D_aload b_C_taught 48 0 49 := Or.inr ⟨0, ⟨by decide +kernel, rfl⟩, rfl⟩
theorem d_C_taught_49 : cd_D_aload b_C_taught 49 0 50 := Or.inr ⟨0, ⟨by decide +kernel, rfl⟩, rfl⟩
theorem d_C_taught_50 : cd_D 3 b_C_taught 50 (.getfield 35) 53 := ⟨by decide +kernel, rfl⟩
theorem d_C_taught_53 : cd_D_iload b_C_taught 53 1 54 := Or.inr ⟨1, ⟨by decide +kernel, rfl⟩, rfl⟩
theorem d_C_taught_54 : cd_D 1 b_C_taught 54 .aaload 55 := ⟨by decide +kernel, rfl⟩
theorem d_C_taught_55 : cd_D 3 b_C_taught 55 (.invokevirtual 172) 58 := ⟨by decide +kernel, rfl⟩
theorem d_C_taught_58 : cd_Dk b_C_taught 58 (nI 0) 59 := Or.inl ⟨0, ⟨by decide +kernel, rfl⟩, by decide +kernel⟩
theorem d_C_taught_59 : cd_D_istore b_C_taught 59 3 60 := Or.inr ⟨3, ⟨by decide +kernel, rfl⟩, rfl⟩
theorem d_C_taught_60 : cd_Dk b_C_taught 60 (nI 1) 61 := Or.inl ⟨1, ⟨by decide +kernel, rfl⟩, by decide +kernel⟩
theorem d_C_taught_61 : cd_D_istore b_C_taught 61 4 63 := Or.inl ⟨by decide +kernel, rfl⟩
theorem d_C_taught_63 : cd_D_iload b_C_taught 63 4 65 := Or.inl ⟨by decide +kernel, rfl⟩
theorem d_C_taught_65 : cd_D_aload b_C_taught 65 0 66 := Or.inr ⟨0, ⟨by decide +kernel, rfl⟩, rfl⟩
theorem d_C_taught_66 : cd_D 3 b_C_taught 66 (.getfield 10) 69 := ⟨by decide +kernel, rfl⟩
theorem d_C_taught_69 : cd_D 3 b_C_taught 69 (.getfield 63) 72 := ⟨by decide +kernel, rfl⟩
theorem d_C_taught_72 : cd_D_icmp_ge b_C_taught 72 100 75 := ⟨28, by decide +kernel, by decide, rfl⟩
theorem d_C_taught_75 : cd_D_aload b_C_taught 75 0 76 := Or.inr ⟨0, ⟨by decide +kernel, rfl⟩, rfl⟩
theorem d_C_taught_76 : cd_D 3 b_C_taught 76 (.getfield 53) 79 := ⟨by decide +kernel, rfl⟩
theorem d_C_taught_79 : cd_D_iload b_C_taught 79 4 81 := Or.inl ⟨by decide +kernel, rfl⟩
theorem d_C_taught_81 : cd_D 1 b_C_taught 81 .iaload 82 := ⟨by decide +kernel, rfl⟩
theorem d_C_taught_82 : cd_D_aload b_C_taught 82 0 83 := Or.inr ⟨0, ⟨by decide +kernel, rfl⟩, rfl⟩
theorem d_C_taught_83 : cd_D 3 b_C_taught 83 (.getfield 53) 86 := ⟨by decide +kernel, rfl⟩
theorem d_C_taught_86 : cd_D_iload b_C_taught 86 3 87 := Or.inr ⟨3, ⟨by decide +kernel, rfl⟩, rfl⟩
theorem d_C_taught_87 : cd_D 1 b_C_taught 87 .iaload 88 := ⟨by decide +kernel, rfl⟩
theorem d_C_taught_88 : cd_D_icmp_ge b_C_taught 88 94 91 := ⟨6, by decide +kernel, by decide, rfl⟩
theorem d_C_taught_91 : cd_D_iload b_C_taught 91 4 93 := Or.inl ⟨by decide +kernel, rfl⟩
theorem d_C_taught_93 : cd_D_istore b_C_taught 93 3 94 := Or.inr ⟨3, ⟨by decide +kernel, rfl⟩, rfl⟩
theorem d_C_taught_94 : cd_D 3 b_C_taught 94 (.iinc 4 (1)) 97 := ⟨by decide +kernel, rfl⟩
theorem d_C_taught_97 : cd_D_goto b_C_taught 97 63 := ⟨-34, by decide +kernel, by decide⟩
theorem d_C_taught_100 : cd_D_iload b_C_taught 100 2 101 := Or.inr ⟨2, ⟨by decide +kernel, rfl⟩, rfl⟩
theorem d_C_taught_101 : cd_D_if_ne b_C_taught 101 108 104 := ⟨7, by decide +kernel, by decide, rfl⟩
theorem d_C_taught_104 : cd_D_iload b_C_taught 104 3 105 := Or.inr ⟨3, ⟨by decide +kernel, rfl⟩, rfl⟩
theorem d_C_taught_105 : cd_D_goto b_C_taught 105 114 := ⟨9, by decide +kernel, by decide⟩
theorem d_C_taught_108 : cd_D_aload b_C_taught 108 0 109 := Or.inr ⟨0, ⟨by decide +kernel, rfl⟩, rfl⟩
theorem d_C_taught_109 : cd_D 3 b_C_taught 109 (.getfield 53) 112 := ⟨by decide +kernel, rfl⟩
theorem d_C_taught_112 : cd_D_iload b_C_taught 112 3 113 := Or.inr ⟨3, ⟨by decide +kernel, rfl⟩, rfl⟩
theorem d_C_taught_113 : cd_D 1 b_C_taught 113 .iaload 114 := ⟨by decide +kernel, rfl⟩
theorem d_C_taught_114 : cd_D 1 b_C_taught 114 .ireturn 115 := ⟨by decide +kernel, rfl⟩
theorem c_C_taught {l : Launch} {w : cd_WT} {S : cd_Sp} {I : cd_Mem} (hC : cd_CD w S) {mm tc : Nat} {N : Nat → Int32} (hG : cd_HG w S I (w.1 + 1) N mm tc) {so sz ce : Nat → Int32} (hS : cd_SR w I so sz ce) (hVS : cd_VS so sz) (hVC : cd_VC ce) (z q : Int32) : cd_C l w m_C_taught 7 0 0 [.ref w.1, .int z, .int q] S I (fun r S' I' => r = some (.int (sp_taught N so sz ce mm tc z q)) ∧ cd_TD w S I S' I') := by
  refine cd_intro (by decide) (by simp [Value.category]) (Nat.le_of_ble_eq_true rfl) ?_
  intro X hO hE
  show cd_J w X 0 0 S I 0 [some (.ref w.1), some (.int z), some (.int q), none, none] []
  obtain ⟨hH, hhd, hV, hIV, hR⟩ := id hG
  have hmm := hV.2.1
  have hm1 : I (w.1 + 1) 3 = nI mm := (hR.at 1 (by omega) rfl rfl).trans hV.1
  have hT : cd_HO w S (w.1 + 19) := hC.2.2.2.2.2.2.2.2.2.2.1
  have hI : cd_HO w S (w.1 + 37) := hC.2.2.2.2.2.2.2.2.2.2.2.1
  have loop : ∀ (s K : Nat) (S1 : cd_Sp) (I1 : cd_Mem), cd_TD w S I S1 I1 → (∀ a, a < mm → I1 (w.1 + 61) a = nI (px_os ce N mm tc s a K) ∧ cd_ol ce N mm tc s a K = lN (px_os ce N mm tc s a K) ∧ px_os ce N mm tc s a K ≤ 1201176) → 0 < mm → (q = 0 ∨ q = nI 1) → sp_taught N so sz ce mm tc z q = (if 0 ≤ (cd_bl (fun a => cd_ol ce N mm tc s a K) mm).1 then (if q = 0 then (cd_bl (fun a => cd_ol ce N mm tc s a K) mm).1 else (cd_bl (fun a => cd_ol ce N mm tc s a K) mm).2.toInt32) else cd_NONE) → ∀ (r i b : Nat), i + r = mm → 1 ≤ i → b = px_best (fun a => px_os ce N mm tc s a K) i → cd_J w X 0 0 S1 I1 63 [some (.ref w.1), some (.int (nI s)), some (.int q), some (.int (nI b)), some (.int (nI i))] [] := by
    intro s K S1 I1 hT1 hd h0 hq hsp r
    have hC1 := hT1.1.cdh hC
    have hN1 := hT1.hg hG (by omega)
    have hm2 : I1 (w.1 + 1) 3 = nI mm := (hN1.2.2.2.2.at 1 (by omega) rfl rfl).trans hV.1
    induction r with
    | zero =>
      intro i b hi hi1 hb
      have him : i = mm := by omega
      subst him
      have hbb : b ≤ i - 1 := by rw [hb]; have := px_best_b (fun a => px_os ce N i tc s a K) (i - 1); rw [show i - 1 + 1 = i by omega] at this; exact this
      have hbl := px_bl (f := fun a => cd_ol ce N i tc s a K) (F := fun a => px_os ce N i tc s a K) (i - 1) (fun a ha => ⟨(hd a (by omega)).2.1, by have := (hd a (by omega)).2.2; omega⟩) (by omega)
      rw [show i - 1 + 1 = i by omega, ← hb] at hbl
      rw [hbl, if_pos (Int32.not_lt.mp (nI_pos (by omega)))] at hsp
      refine r_iload hO d_C_taught_63 rfl ?_
      refine r_aload hO d_C_taught_65 rfl ?_
      refine r_getR hO f_C_10 rfl hC1.1 hC1.2.1 d_C_taught_66 ?_
      refine r_getI hO f_C_63 rfl hN1.1.2.1 d_C_taught_69 ?_
      rw [hm2]
      refine r_icmp_ge hO d_C_taught_72 (fun c_72 => ?_) (fun c_72 => ?_)
      · refine r_iload hO d_C_taught_100 rfl ?_
        refine r_if_ne hO d_C_taught_101 (fun c_101 => ?_) (fun c_101 => ?_)
        · refine r_aload hO d_C_taught_108 rfl ?_
          refine r_getR hO f_C_53 rfl hC1.1 hC1.2.2.2.2.2.2.2.2.1 d_C_taught_109 ?_
          refine r_iload hO d_C_taught_112 rfl ?_
          refine r_iald hO hC1.2.2.2.2.2.2.2.2.2.2.2.2.2.2.2.2.1 (by omega) (by decide) d_C_taught_113 ?_
          rw [(hd b (by omega)).1]
          refine r_iret hO hE (Nat.zero_le _) (Nat.zero_le _) d_C_taught_114 ?_
          exact ⟨by rw [hsp, if_neg c_101, lN_i], hT1⟩
        · refine r_iload hO d_C_taught_104 rfl ?_
          refine r_goto hO d_C_taught_105 ?_
          refine r_iret hO hE (Nat.zero_le _) (Nat.zero_le _) d_C_taught_114 ?_
          exact ⟨by rw [hsp, if_pos c_101], hT1⟩
      · exact absurd (nI_le (Nat.le_refl _) (by omega)) c_72
    | succ r ih =>
      intro i b hi hi1 hb
      have hbb : b ≤ i - 1 := by rw [hb]; have := px_best_b (fun a => px_os ce N mm tc s a K) (i - 1); rw [show i - 1 + 1 = i by omega] at this; exact this
      have h1 := hd i (by omega)
      have h2 := hd b (by omega)
      have eb : px_best (fun a => px_os ce N mm tc s a K) (i + 1) = if px_os ce N mm tc s i K < px_os ce N mm tc s b K then i else b := by rw [hb]; exact if_neg (by omega)
      refine r_iload hO d_C_taught_63 rfl ?_
      refine r_aload hO d_C_taught_65 rfl ?_
      refine r_getR hO f_C_10 rfl hC1.1 hC1.2.1 d_C_taught_66 ?_
      refine r_getI hO f_C_63 rfl hN1.1.2.1 d_C_taught_69 ?_
      rw [hm2]
      refine r_icmp_ge hO d_C_taught_72 (fun c_72 => ?_) (fun c_72 => ?_)
      · exact absurd c_72 (nI_ge (by omega) (by omega))
      · refine r_aload hO d_C_taught_75 rfl ?_
        refine r_getR hO f_C_53 rfl hC1.1 hC1.2.2.2.2.2.2.2.2.1 d_C_taught_76 ?_
        refine r_iload hO d_C_taught_79 rfl ?_
        refine r_iald hO hC1.2.2.2.2.2.2.2.2.2.2.2.2.2.2.2.2.1 (by omega) (by decide) d_C_taught_81 ?_
        rw [h1.1]
        refine r_aload hO d_C_taught_82 rfl ?_
        refine r_getR hO f_C_53 rfl hC1.1 hC1.2.2.2.2.2.2.2.2.1 d_C_taught_83 ?_
        refine r_iload hO d_C_taught_86 rfl ?_
        refine r_iald hO hC1.2.2.2.2.2.2.2.2.2.2.2.2.2.2.2.2.1 (by omega) (by decide) d_C_taught_87 ?_
        rw [h2.1]
        refine r_icmp_ge hO d_C_taught_88 (fun c_88 => ?_) (fun c_88 => ?_)
        · rw [nI_leI (by omega) (by omega)] at c_88
          refine r_incN4 hO d_C_taught_94 rfl ?_
          refine r_goto hO d_C_taught_97 ?_
          exact ih (i + 1) _ (by omega) (by omega) (by rw [eb, if_neg (by omega)])
        · rw [nI_leI (by omega) (by omega)] at c_88
          refine r_iload hO d_C_taught_91 rfl ?_
          refine r_sI3 hO d_C_taught_93 rfl ?_
          refine r_incN4 hO d_C_taught_94 rfl ?_
          refine r_goto hO d_C_taught_97 ?_
          exact ih (i + 1) _ (by omega) (by omega) (by rw [eb, if_pos (by omega)])
  refine r_iload hO d_C_taught_0 rfl ?_
  refine r_k hO d_C_taught_1 ?_
  refine r_cS2fi hO hE (c_C_isWithin _ _) mf_C_isWithin lk_C_58 (by decide) rfl (Nat.le_of_ble_eq_true rfl) d_C_taught_2 (Nat.zero_le _) (Nat.zero_le _) ?_
  refine r_if_eqB hO d_C_taught_5 (fun c_5 => ?_) (fun c_5 => ?_)
  · refine r_ldc hO k_C_62 d_C_taught_17 ?_
    refine r_iret hO hE (Nat.zero_le _) (Nat.zero_le _) d_C_taught_19 ?_
    exact ⟨by unfold sp_taught; rw [if_neg c_5], cd_TD.rf _ _ _⟩
  · obtain ⟨s, -, hs3, rfl⟩ := cd_in_ex c_5 (by decide) (by decide)
    obtain ⟨hs0, hs1, hs2⟩ := hS s (by omega)
    obtain ⟨n, hn24, hsz, hso⟩ := hVS s (by omega)
    refine r_iload hO d_C_taught_8 rfl ?_
    refine r_if_lt hO d_C_taught_9 (fun c_9 => ?_) (fun c_9 => ?_)
    · refine r_ldc hO k_C_62 d_C_taught_17 ?_
      refine r_iret hO hE (Nat.zero_le _) (Nat.zero_le _) d_C_taught_19 ?_
      exact ⟨by unfold sp_taught; rw [if_pos c_5, if_neg (fun z => absurd c_9 (Int32.not_lt.mpr z.1))], cd_TD.rf _ _ _⟩
    · refine r_iload hO d_C_taught_12 rfl ?_
      refine r_k hO d_C_taught_13 ?_
      refine r_icmp_le hO d_C_taught_14 (fun c_14 => ?_) (fun c_14 => ?_)
      · refine r_aload hO d_C_taught_20 rfl ?_
        refine r_getR hO f_C_35 rfl hC.1 hC.2.2.2.2.2.1 d_C_taught_21 ?_
        refine r_iload hO d_C_taught_24 rfl ?_
        refine r_aald (t := 6) hO hC.2.2.2.2.2.2.2.2.2.2.2.2.2.1 (by decide) (by decide) (by omega) (by decide) (hC.2.2.2.2.2.2.2.2.2.2.2.2.2.2.2.2.2.1 s (by omega)).1 d_C_taught_25 ?_
        refine r_cV0fi hO hE (c_S_isMissing (hC.2.2.2.2.2.2.2.2.2.2.2.2.2.2.2.2.2.1 s (by omega)).2 (Nat.le_trans (Nat.le_add_right _ _) (Nat.le_add_right _ _))) mf_S_isMissing lk_C_167 (hC.2.2.2.2.2.2.2.2.2.2.2.2.2.2.2.2.2.1 s (by omega)).2.1 rfl (by decide) rfl (Nat.le_of_ble_eq_true rfl) d_C_taught_26 (Nat.zero_le _) (Nat.zero_le _) ?_
        rw [hs0]
        refine r_if_eqB hO d_C_taught_29 (fun c_29 => ?_) (fun c_29 => ?_)
        · refine r_aload hO d_C_taught_35 rfl ?_
          refine r_getR hO f_C_10 rfl hC.1 hC.2.1 d_C_taught_36 ?_
          refine r_getI hO f_C_63 rfl hH.2.1 d_C_taught_39 ?_
          rw [hm1]
          refine r_if_ne hO d_C_taught_42 (fun c_42 => ?_) (fun c_42 => ?_)
          · have h0 : 0 < mm := Nat.pos_of_ne_zero (fun z => c_42 (by rw [z]; rfl))
            refine r_aload hO d_C_taught_48 rfl ?_
            refine r_aload hO d_C_taught_49 rfl ?_
            refine r_getR hO f_C_35 rfl hC.1 hC.2.2.2.2.2.1 d_C_taught_50 ?_
            refine r_iload hO d_C_taught_53 rfl ?_
            refine r_aald (t := 6) hO hC.2.2.2.2.2.2.2.2.2.2.2.2.2.1 (by decide) (by decide) (by omega) (by decide) (hC.2.2.2.2.2.2.2.2.2.2.2.2.2.2.2.2.2.1 s (by omega)).1 d_C_taught_54 ?_
            refine cd_callV (rest := []) hO hE.1 (c_C_sumDifferences hC hG hS hVS hVC (s := s) (by omega)) mf_C_sumDifferences lk_C_172 (hC.1) rfl (by decide) rfl rfl rfl (Nat.le_of_ble_eq_true rfl) d_C_taught_55 ⟨Nat.zero_le _, Nat.zero_le _⟩ ?_
            rintro r S1 I1 ⟨rfl, hT1, hd⟩
            show cd_J w X 0 0 S1 I1 58 [some (.ref w.1), some (.int (nI s)), some (.int q), none, none] []
            refine r_k hO d_C_taught_58 ?_
            refine r_sI3 hO d_C_taught_59 rfl ?_
            refine r_k hO d_C_taught_60 ?_
            refine r_sI4 hO d_C_taught_61 rfl ?_
            have hq01 : q = 0 ∨ q = nI 1 := by
              obtain ⟨j, -, hj, rfl⟩ := cd_in_ex (lo := 0) (hi := 1) ⟨Int32.not_lt.mp c_9, c_14⟩ (by decide) (by decide)
              rcases (show j = 0 ∨ j = 1 by omega) with rfl | rfl
              · exact Or.inl rfl
              · exact Or.inr rfl
            exact loop s _ S1 I1 hT1 hd h0 hq01 (by unfold sp_taught; rw [if_pos c_5, if_pos ⟨Int32.not_lt.mp c_9, c_14⟩, cd_tn_nI (show s < 2 ^ 31 by omega), if_pos ((cd_so0 hso).mpr c_29)]) (mm - 1) 1 0 (by omega) (Nat.le_refl _) rfl
          · have hm0 : mm = 0 := by
              rcases Nat.eq_zero_or_pos mm with z | z
              · exact z
              · exact absurd c_42 (nI_ne0 z (by omega))
            refine r_ldc hO k_C_160 d_C_taught_45 ?_
            refine r_iret hO hE (Nat.zero_le _) (Nat.zero_le _) d_C_taught_47 ?_
            exact ⟨by unfold sp_taught; rw [if_pos c_5, if_pos ⟨Int32.not_lt.mp c_9, c_14⟩, cd_tn_nI (show s < 2 ^ 31 by omega), if_pos ((cd_so0 hso).mpr c_29), hm0]; rfl, cd_TD.rf _ _ _⟩
        · refine r_ldc hO k_C_171 d_C_taught_32 ?_
          refine r_iret hO hE (Nat.zero_le _) (Nat.zero_le _) d_C_taught_34 ?_
          exact ⟨by unfold sp_taught; rw [if_pos c_5, if_pos ⟨Int32.not_lt.mp c_9, c_14⟩, cd_tn_nI (show s < 2 ^ 31 by omega), if_neg (fun z => (cd_so0 hso).mp z c_29)], cd_TD.rf _ _ _⟩
      · refine r_ldc hO k_C_62 d_C_taught_17 ?_
        refine r_iret hO hE (Nat.zero_le _) (Nat.zero_le _) d_C_taught_19 ?_
        exact ⟨by unfold sp_taught; rw [if_pos c_5, if_neg (fun z => c_14 z.2)], cd_TD.rf _ _ _⟩
