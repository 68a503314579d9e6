theorem cd_ss.cdh {w : cd_WT} {S S1 : cd_Sp} (a : cd_ss S S1 (w.1 + 19)) (h : cd_CD w S) : cd_CD w S1 := h.ss a (Or.inr (Or.inl rfl))
theorem d_C_check_0 : cd_D_aload b_C_check 0 0 1 := Or.inr ⟨0, ⟨by decide +kernel, rfl⟩, rfl⟩
theorem d_C_check_1 : cd_D 3 b_C_check 1 (.getfield 49) 4 := ⟨by decide +kernel, rfl⟩
theorem d_C_check_4 : cd_D_istore b_C_check 4 2 5 := Or.inr ⟨2, ⟨by decide +kernel, rfl⟩, rfl⟩
theorem d_C_check_5 : cd_D_aload b_C_check 5 0 6 := Or.inr ⟨0, ⟨by decide +kernel, rfl⟩, rfl⟩
theorem d_C_check_6 : cd_Dk b_C_check 6 (nI 0) 7 := Or.inl ⟨0, ⟨by decide +kernel, rfl⟩, by decide +kernel⟩
theorem d_C_check_7 : cd_D 3 b_C_check 7 (.putfield 49) 10 := ⟨by decide +kernel, rfl⟩
theorem d_C_check_10 : cd_D_iload b_C_check 10 1 11 := Or.inr ⟨1, ⟨by decide +kernel, rfl⟩, rfl⟩
theorem d_C_check_11 : cd_Dk b_C_check 11 (nI 1) 12 := Or.inl ⟨1, ⟨by decide +kernel, rfl⟩, by decide +kernel⟩
theorem d_C_check_12 : cd_D_icmp_lt b_C_check 12 21 15 := ⟨9, by decide +kernel, by decide, rfl⟩
theorem d_C_check_15 : cd_D_iload b_C_check 15 1 16 := Or.inr ⟨1, ⟨by decide +kernel, rfl⟩, rfl⟩
theorem d_C_check_16 : cd_Dk b_C_check 16 (nI 30) 18 := Or.inr (Or.inl ⟨30, ⟨by decide +kernel, rfl⟩, by decide +kernel⟩)
theorem d_C_check_18 : cd_D_icmp_le b_C_check 18 24 21 := ⟨6, by decide +kernel, by decide, rfl⟩
theorem d_C_check_21 : cd_D 2 b_C_check 21 (.ldc 62) 23 := ⟨by decide +kernel, rfl⟩
theorem d_C_check_23 : cd_D 1 b_C_check 23 .ireturn 24 := ⟨by decide +kernel, rfl⟩
theorem d_C_check_24 : cd_D_aload b_C_check 24 0 25 := Or.inr ⟨0, ⟨by decide +kernel, rfl⟩, rfl⟩
theorem d_C_check_25 : cd_D 3 b_C_check 25 (.getfield 22) 28 := ⟨by decide +kernel, rfl⟩
theorem d_C_check_28 : cd_D_if_ne b_C_check 28 35 31 := ⟨7, by decide +kernel, by decide, rfl⟩
theorem d_C_check_31 : cd_D 3 b_C_check 31 (.ldc_w 283) 34 := ⟨by decide +kernel, rfl⟩
theorem d_C_check_34 : cd_D 1 b_C_check 34 .ireturn 35 := ⟨by decide +kernel, rfl⟩
theorem d_C_check_35 : cd_D_aload b_C_check 35 0 36 := Or.inr ⟨0, ⟨by decide +kernel, rfl⟩, rfl⟩
theorem d_C_check_36 : cd_D 3 b_C_check 36 (.getfield 16) 39 := ⟨by decide +kernel, rfl⟩
theorem d_C_check_39 : cd_D_aload b_C_check 39 0 40 := Or.inr ⟨0, ⟨by decide +kernel, rfl⟩, rfl⟩
theorem d_C_check_40 : cd_D 3 b_C_check 40 (.getfield 19) 43 := ⟨by decide +kernel, rfl⟩
theorem d_C_check_43 : cd_D 3 b_C_check 43 (.invokevirtual 156) 46 := ⟨by decide +kernel, rfl⟩
theorem d_C_check_46 : cd_Dk b_C_check 46 (nI 2) 47 := Or.inl ⟨2, ⟨by decide +kernel, rfl⟩, by decide +kernel⟩
theorem d_C_check_47 : cd_D_iload b_C_check 47 1 48 := Or.inr ⟨1, ⟨by decide +kernel, rfl⟩, rfl⟩
theorem d_C_check_48 : cd_Dk b_C_check 48 (nI 9999) 51 := Or.inr (Or.inr ⟨9999, ⟨by decide +kernel, rfl⟩, by decide +kernel⟩)
theorem d_C_check_51 : cd_D_aload b_C_check 51 0 52 := Or.inr ⟨0, ⟨by decide +kernel, rfl⟩, rfl⟩
theorem d_C_check_52 : cd_D 3 b_C_check 52 (.getfield 19) 55 := ⟨by decide +kernel, rfl⟩
theorem d_C_check_55 : cd_D 3 b_C_check 55 (.getfield 145) 58 := ⟨by decide +kernel, rfl⟩
theorem d_C_check_58 : cd_D 1 b_C_check 58 .isub 59 := ⟨by decide +kernel, rfl⟩
theorem d_C_check_59 : cd_D 3 b_C_check 59 (.invokestatic 130) 62 := ⟨by decide +kernel, rfl⟩
theorem d_C_check_62 : cd_D 1 b_C_check 62 .imul 63 := ⟨by decide +kernel, rfl⟩
theorem d_C_check_63 : cd_D_istore b_C_check 63 3 64 := Or.inr ⟨3, ⟨by decide +kernel, rfl⟩, rfl⟩
theorem d_C_check_64 : cd_Dk b_C_check 64 (nI 0) 65 := Or.inl ⟨0, ⟨by decide +kernel, rfl⟩, by decide +kernel⟩
theorem d_C_check_65 : cd_D_istore b_C_check 65 4 67 := Or.inl ⟨by decide +kernel, rfl⟩
theorem d_C_check_67 : cd_D_iload b_C_check 67 4 69 := Or.inl ⟨by decide +kernel, rfl⟩
theorem d_C_check_69 : cd_D_iload b_C_check 69 3 70 := Or.inr ⟨3, ⟨by decide +kernel, rfl⟩, rfl⟩
theorem d_C_check_70 : cd_D_icmp_ge b_C_check 70 155 73 := ⟨85, by decide +kernel, by decide, rfl⟩
theorem d_C_check_73 : cd_D_iload b_C_check 73 4 75 := Or.inl ⟨by decide +kernel, rfl⟩
theorem d_C_check_75 : cd_Dk b_C_check 75 (nI 2) 76 := Or.inl ⟨2, ⟨by decide +kernel, rfl⟩, by decide +kernel⟩
theorem d_C_check_76 : cd_D 1 b_C_check 76 .irem 77 := ⟨by decide +kernel, rfl⟩
theorem d_C_check_77 : cd_D_if_ne b_C_check 77 84 80 := ⟨7, by decide +kernel, by decide, rfl⟩
theorem d_C_check_80 : cd_Dk b_C_check 80 (nI 1) 81 := Or.inl ⟨1, ⟨by decide +kernel, rfl⟩, by decide +kernel⟩
theorem d_C_check_81 : cd_D_goto b_C_check 81 85 := ⟨4, by decide +kernel, by decide⟩
theorem d_C_check_84 : cd_Dk b_C_check 84 (nI 0) 85 := Or.inl ⟨0, ⟨by decide +kernel, rfl⟩, by decide +kernel⟩
theorem d_C_check_85 : cd_D_istore b_C_check 85 5 87 := Or.inl ⟨by decide +kernel, rfl⟩
theorem d_C_check_87 : cd_D_iload b_C_check 87 5 89 := Or.inl ⟨by decide +kernel, rfl⟩
theorem d_C_check_89 : cd_D_if_eq b_C_check 89 100 92 := ⟨11, by decide +kernel, by decide, rfl⟩
theorem d_C_check_92 : cd_D_aload b_C_check 92 0 93 := Or.inr ⟨0, ⟨by decide +kernel, rfl⟩, rfl⟩
theorem d_C_check_93 : cd_D 3 b_C_check 93 (.getfield 16) 96 := ⟨by decide +kernel, rfl⟩
theorem d_C_check_96 : cd_Dk b_C_check 96 (nI 1) 97 := Or.inl ⟨1, ⟨by decide +kernel, rfl⟩, by decide +kernel⟩
theorem d_C_check_97 : cd_D 3 b_C_check 97 (.invokevirtual 146) 100 := ⟨by decide +kernel, rfl⟩
theorem d_C_check_100 : cd_D_iload b_C_check 100 5 102 := Or.inl ⟨by decide +kernel, rfl⟩
theorem d_C_check_102 : cd_D_if_eq b_C_check 102 115 105 := ⟨13, by decide +kernel, by decide, rfl⟩
theorem d_C_check_105 : cd_D_aload b_C_check 105 0 106 := Or.inr ⟨0, ⟨by decide +kernel, rfl⟩, rfl⟩
theorem d_C_check_106 : cd_D 3 b_C_check 106 (.getfield 16) 109 := ⟨by decide +kernel, rfl⟩
theorem d_C_check_109 : cd_D 3 b_C_check 109 (.invokevirtual 150) 112 := ⟨by decide +kernel, rfl⟩
theorem d_C_check_112 : cd_D_goto b_C_check 112 124 := ⟨12, by decide +kernel, by decide⟩
theorem d_C_check_115 : cd_D_aload b_C_check 115 0 116 := Or.inr ⟨0, ⟨by decide +kernel, rfl⟩, rfl⟩
theorem d_C_check_116 : cd_D 3 b_C_check 116 (.getfield 16) 119 := ⟨by decide +kernel, rfl⟩
theorem d_C_check_119 : cd_D 3 b_C_check 119 (.getfield 142) 122 := ⟨by decide +kernel, rfl⟩
theorem d_C_check_122 : cd_Dk b_C_check 122 (nI 0) 123 := Or.inl ⟨0, ⟨by decide +kernel, rfl⟩, by decide +kernel⟩
theorem d_C_check_123 : cd_D 1 b_C_check 123 .iaload 124 := ⟨by decide +kernel, rfl⟩
theorem d_C_check_124 : cd_D_istore b_C_check 124 6 126 := Or.inl ⟨by decide +kernel, rfl⟩
theorem d_C_check_126 : cd_D_iload b_C_check 126 4 128 := Or.inl ⟨by decide +kernel, rfl⟩
theorem d_C_check_128 : cd_D_iload b_C_check 128 2 129 := Or.inr ⟨2, ⟨by decide +kernel, rfl⟩, rfl⟩
theorem d_C_check_129 : cd_D_icmp_ge b_C_check 129 144 132 := ⟨15, by decide +kernel, by decide, rfl⟩
theorem d_C_check_132 : cd_D_aload b_C_check 132 0 133 := Or.inr ⟨0, ⟨by decide +kernel, rfl⟩, rfl⟩
theorem d_C_check_133 : cd_D 3 b_C_check 133 (.getfield 45) 136 := ⟨by decide +kernel, rfl⟩
theorem d_C_check_136 : cd_D_iload b_C_check 136 4 138 := Or.inl ⟨by decide +kernel, rfl⟩
theorem d_C_check_138 : cd_D 1 b_C_check 138 .iaload 139 := ⟨by decide +kernel, rfl⟩
theorem d_C_check_139 : cd_D_iload b_C_check 139 6 141 := Or.inl ⟨by decide +kernel, rfl⟩
theorem d_C_check_141 : cd_D_icmp_eq b_C_check 141 149 144 := ⟨8, by decide +kernel, by decide, rfl⟩
theorem d_C_check_144 : cd_Dk b_C_check 144 (nI 1) 145 := Or.inl ⟨1, ⟨by decide +kernel, rfl⟩, by decide +kernel⟩
theorem d_C_check_145 : cd_D_iload b_C_check 145 4 147 := Or.inl ⟨by decide +kernel, rfl⟩
theorem d_C_check_147 : cd_D 1 b_C_check 147 .iadd 148 := ⟨by decide +kernel, rfl⟩
theorem d_C_check_148 : cd_D 1 b_C_check 148 .ireturn 149 := ⟨by decide +kernel, rfl⟩
theorem d_C_check_149 : cd_D 3 b_C_check 149 (.iinc 4 (1)) 152 := ⟨by decide +kernel, rfl⟩
theorem d_C_check_152 : cd_D_goto b_C_check 152 67 := ⟨-85, by decide +kernel, by decide⟩
theorem d_C_check_155 : cd_D_iload b_C_check 155 2 156 := Or.inr ⟨2, ⟨by decide +kernel, rfl⟩, rfl⟩
theorem d_C_check_156 : cd_D_iload b_C_check 156 3 157 := Or.inr ⟨3, ⟨by decide +kernel, rfl⟩, rfl⟩
theorem d_C_check_157 : cd_D_icmp_le b_C_check 157 166 160 := ⟨9, by decide +kernel, by decide, rfl⟩
theorem d_C_check_160 : cd_Dk b_C_check 160 (nI 1) 161 := Or.inl ⟨1, ⟨by decide +kernel, rfl⟩, by decide +kernel⟩
theorem d_C_check_161 : cd_D_iload b_C_check 161 3 162 := Or.inr ⟨3, ⟨by decide +kernel, rfl⟩, rfl⟩
theorem d_C_check_162 : cd_D 1 b_C_check 162 .iadd 163 := ⟨by decide +kernel, rfl⟩
theorem d_C_check_163 : cd_D_goto b_C_check 163 167 := ⟨4, by decide +kernel, by decide⟩
theorem d_C_check_166 : cd_Dk b_C_check 166 (nI 0) 167 := Or.inl ⟨0, ⟨by decide +kernel, rfl⟩, by decide +kernel⟩
theorem d_C_check_167 : cd_D 1 b_C_check 167 .ireturn 168 := ⟨by decide +kernel, rfl⟩
theorem c_C_check {l : Launch} {w : cd_WT} {S : cd_Sp} {I : cd_Mem} (hC : cd_CD w S) {te G : Nat → Int32} {mg tg hg wt : Nat} (hw : I w.1 8 = nI wt) (hw6 : wt ≤ 60) (hW : ∀ j, j < wt → I (w.1 + 60) j = te j) (hK : ¬ I w.1 3 = 0 → cd_HG w S I (w.1 + 37) G mg tg ∧ G 2 = nI hg ∧ hg ≤ 9999) (x : Int32) : cd_C l w m_C_check 6 0 0 [.ref w.1, .int x] S I (cd_Pth w S (cd_set I w.1 (upd (I w.1) 8 (nI 0))) (sp_check te G mg tg hg wt (I w.1 3) x)) := by
  refine cd_intro (by decide) (by simp [Value.category]) (Nat.le_of_ble_eq_true rfl) ?_
  intro X hO hE
  show cd_J w X 0 0 S I 0 [some (.ref w.1), some (.int x), none, none, none, none, none] []
  have hH : cd_HO w S (w.1 + 1) := hC.2.2.2.2.2.2.2.2.2.1
  have hT : cd_HO w S (w.1 + 19) := hC.2.2.2.2.2.2.2.2.2.2.1
  have hI : cd_HO w S (w.1 + 37) := hC.2.2.2.2.2.2.2.2.2.2.2.1
  have hw60 : ∀ (S2 : cd_Sp) (I2 : cd_Mem), cd_TH w S (cd_set I w.1 (upd (I w.1) 8 (nI 0))) S2 I2 → ∀ j, j < wt → I2 (w.1 + 60) j = te j := fun S2 I2 h j hj => by
    rw [h.2 (w.1 + 60) (fun q => by rcases q with q | q <;> omega), cd_set_ne _ _ (by omega)]
    exact hW j hj
  have loop : ∀ (n D : Nat), D ≤ 30 → sp_check te G mg tg hg wt (I w.1 3) x = (if cd_cr te G mg tg wt D = wt ∧ cd_cr te G mg tg wt D = 2 * D then nI 0 else nI (1 + cd_cr te G mg tg wt D)) → ∀ (r k : Nat) (S1 : cd_Sp) (I1 : cd_Mem) (x5 x6 : Option Value), k + r = D → cd_cr te G mg tg wt k = 2 * k → 2 * k ≤ wt → cd_TH w S (cd_set I w.1 (upd (I w.1) 8 (nI 0))) S1 I1 → cd_HG w S1 I1 (w.1 + 19) (cd_hs G mg tg k) mg tg → cd_J w X 0 0 S1 I1 67 [some (.ref w.1), some (.int (nI n)), some (.int (nI wt)), some (.int (nI (2 * D))), some (.int (nI (2 * k))), x5, x6] [] := by
    intro n D hD hsp r
    induction r with
    | zero =>
      intro k S1 I1 x5 x6 hk hc hkw hT1 hG1
      have hkD : k = D := by omega
      subst hkD
      refine r_iload hO d_C_check_67 rfl ?_
      refine r_iload hO d_C_check_69 rfl ?_
      refine r_icmp_ge hO d_C_check_70 (fun c_70 => ?_) (fun c_70 => ?_)
      · refine r_iload hO d_C_check_155 rfl ?_
        refine r_iload hO d_C_check_156 rfl ?_
        refine r_icmp_le hO d_C_check_157 (fun c_157 => ?_) (fun c_157 => ?_)
        · rw [nI_leI (by omega) (by omega)] at c_157
          refine r_k hO d_C_check_166 ?_
          refine r_iret hO hE (Nat.zero_le _) (Nat.zero_le _) d_C_check_167 ?_
          exact ⟨by rw [hsp, if_pos ⟨by omega, hc⟩], hT1⟩
        · rw [nI_leI (by omega) (by omega)] at c_157
          refine r_k hO d_C_check_160 ?_
          refine r_iload hO d_C_check_161 rfl ?_
          refine r_iaddN hO d_C_check_162 ?_
          refine r_goto hO d_C_check_163 ?_
          refine r_iret hO hE (Nat.zero_le _) (Nat.zero_le _) d_C_check_167 ?_
          exact ⟨by rw [hsp, if_neg (fun q => by omega), hc], hT1⟩
      · exact absurd (nI_le (Nat.le_refl _) (by omega)) c_70
    | succ r ih =>
      intro k S1 I1 x5 x6 hk hc hkw hT1 hG1
      have hC1 := hT1.1.cdh hC
      have hcr : cd_cr te G mg tg wt (k + 1) = if cd_cr te G mg tg wt k = 2 * k then (cd_cr te G mg tg wt k + (if cd_cr te G mg tg wt k < wt ∧ te (cd_cr te G mg tg wt k) = cd_hb (cd_hs G mg tg (k + 1)) mg then 1 else 0)) + (if cd_cr te G mg tg wt k + (if cd_cr te G mg tg wt k < wt ∧ te (cd_cr te G mg tg wt k) = cd_hb (cd_hs G mg tg (k + 1)) mg then 1 else 0) = 2 * k + 1 ∧ cd_cr te G mg tg wt k + (if cd_cr te G mg tg wt k < wt ∧ te (cd_cr te G mg tg wt k) = cd_hb (cd_hs G mg tg (k + 1)) mg then 1 else 0) < wt ∧ te (cd_cr te G mg tg wt k + (if cd_cr te G mg tg wt k < wt ∧ te (cd_cr te G mg tg wt k) = cd_hb (cd_hs G mg tg (k + 1)) mg then 1 else 0)) = cd_hs G mg tg (k + 1) 10 then 1 else 0) else cd_cr te G mg tg wt k := rfl
      rw [hc, if_pos rfl] at hcr
      refine r_iload hO d_C_check_67 rfl ?_
      refine r_iload hO d_C_check_69 rfl ?_
      refine r_icmp_ge hO d_C_check_70 (fun c_70 => ?_) (fun c_70 => ?_)
      · exact absurd c_70 (nI_ge (by omega) (by omega))
      · refine r_iload hO d_C_check_73 rfl ?_
        refine r_k hO d_C_check_75 ?_
        refine r_iremN hO d_C_check_76 (by omega) (by decide) (by decide) ?_
        rw [show (2 * k) % 2 = 0 by omega]
        refine r_if_ne hO d_C_check_77 (fun c_77 => ?_) (fun c_77 => ?_)
        · exact absurd rfl c_77
        · refine r_k hO d_C_check_80 ?_
          refine r_goto hO d_C_check_81 ?_
          refine r_sI5 hO d_C_check_85 rfl ?_
          refine r_iload hO d_C_check_87 rfl ?_
          refine r_if_eq hO d_C_check_89 (fun c_89 => ?_) (fun c_89 => ?_)
          · exact absurd c_89 (by decide)
          · refine r_aload hO d_C_check_92 rfl ?_
            refine r_getR hO f_C_16 rfl hC1.1 hC1.2.2.1 d_C_check_93 ?_
            refine r_k hO d_C_check_96 ?_
            refine r_cV1v hO hE (c_H_passHours hG1 1 (by decide)) mf_H_passHours lk_C_146 hG1.1.2.1 rfl (by decide) rfl (Nat.le_of_ble_eq_true rfl) d_C_check_97 (Nat.zero_le _) (Nat.zero_le _) ?_
            intro I2 hh2
            have hG2 : cd_HG w S1 I2 (w.1 + 19) (cd_hs G mg tg (k + 1)) mg tg := hh2.1
            have hT2 := hT1.of hh2.2
            refine r_iload hO d_C_check_100 rfl ?_
            refine r_if_eq hO d_C_check_102 (fun c_102 => ?_) (fun c_102 => ?_)
            · exact absurd c_102 (by decide)
            · refine r_aload hO d_C_check_105 rfl ?_
              refine r_getR hO f_C_16 rfl hC1.1 hC1.2.2.1 d_C_check_106 ?_
              refine r_cV0fi hO hE (c_H_habitSum hG2) mf_H_habitSum lk_C_150 hG2.1.2.1 rfl (by decide) rfl (Nat.le_of_ble_eq_true rfl) d_C_check_109 (Nat.zero_le _) (Nat.zero_le _) ?_
              refine r_goto hO d_C_check_112 ?_
              refine r_sI6 hO d_C_check_124 rfl ?_
              refine r_iload hO d_C_check_126 rfl ?_
              refine r_iload hO d_C_check_128 rfl ?_
              refine r_icmp_ge hO d_C_check_129 (fun c_129 => ?_) (fun c_129 => ?_)
              · rw [nI_leI (by omega) (by omega)] at c_129
                refine r_k hO d_C_check_144 ?_
                refine r_iload hO d_C_check_145 rfl ?_
                refine r_iaddN hO d_C_check_147 ?_
                refine r_iret hO hE (Nat.zero_le _) (Nat.zero_le _) d_C_check_148 ?_
                have hb0 : ¬ (2 * k < wt ∧ te (2 * k) = cd_hb (cd_hs G mg tg (k + 1)) mg) := fun q => absurd c_129 (by omega)
                have hq : cd_cr te G mg tg wt (k + 1) = 2 * k := by rw [hcr, if_neg hb0, if_neg (fun q => by omega), Nat.add_zero]
                have hst := cd_cr_st (te := te) (N := G) (mm := mg) (tc := tg) (wt := wt) (k := k + 1) (by omega) r
                rw [show k + 1 + r = D by omega, hq] at hst
                exact ⟨by rw [hsp, hst, if_neg (fun q => by omega)], hT2⟩
              · rw [nI_leI (by omega) (by omega)] at c_129
                refine r_aload hO d_C_check_132 rfl ?_
                refine r_getR hO f_C_45 rfl hC1.1 hC1.2.2.2.2.2.2.2.1 d_C_check_133 ?_
                refine r_iload hO d_C_check_136 rfl ?_
                refine r_iald hO hC1.2.2.2.2.2.2.2.2.2.2.2.2.2.2.2.1 (by omega) (by decide) d_C_check_138 ?_
                rw [hw60 S1 I2 hT2 (2 * k) (by omega)]
                refine r_iload hO d_C_check_139 rfl ?_
                refine r_icmp_eq hO d_C_check_141 (fun c_141 => ?_) (fun c_141 => ?_)
                · refine r_incN4 hO d_C_check_149 rfl ?_
                  refine r_goto hO d_C_check_152 ?_
                  have hb1 : 2 * k < wt ∧ te (2 * k) = cd_hb (cd_hs G mg tg (k + 1)) mg := ⟨by omega, c_141⟩
                  refine r_iload hO d_C_check_67 rfl ?_
                  refine r_iload hO d_C_check_69 rfl ?_
                  refine r_icmp_ge hO d_C_check_70 (fun c_70 => ?_) (fun c_70 => ?_)
                  · exact absurd c_70 (nI_ge (by omega) (by omega))
                  · refine r_iload hO d_C_check_73 rfl ?_
                    refine r_k hO d_C_check_75 ?_
                    refine r_iremN hO d_C_check_76 (by omega) (by decide) (by decide) ?_
                    rw [show (2 * k + 1) % 2 = 1 by omega]
                    refine r_if_ne hO d_C_check_77 (fun c_77 => ?_) (fun c_77 => ?_)
                    · refine r_k hO d_C_check_84 ?_
                      refine r_sI5 hO d_C_check_85 rfl ?_
                      refine r_iload hO d_C_check_87 rfl ?_
                      refine r_if_eq hO d_C_check_89 (fun c_89 => ?_) (fun c_89 => ?_)
                      · refine r_iload hO d_C_check_100 rfl ?_
                        refine r_if_eq hO d_C_check_102 (fun c_102 => ?_) (fun c_102 => ?_)
                        · refine r_aload hO d_C_check_115 rfl ?_
                          refine r_getR hO f_C_16 rfl hC1.1 hC1.2.2.1 d_C_check_116 ?_
                          refine r_getR hO f_C_142 rfl hG2.1.2.1 hG2.1.2.2.2.1.1 d_C_check_119 ?_
                          refine r_k hO d_C_check_122 ?_
                          refine r_iald hO hG2.1.2.2.2.1.2 (by omega) (by decide) d_C_check_123 ?_
                          refine r_tops (show _ = cd_hs G mg tg (k + 1) 10 from hG2.2.2.2.2.at 10 (by omega) rfl rfl) ?_
                          refine r_sI6 hO d_C_check_124 rfl ?_
                          refine r_iload hO d_C_check_126 rfl ?_
                          refine r_iload hO d_C_check_128 rfl ?_
                          refine r_icmp_ge hO d_C_check_129 (fun c_129 => ?_) (fun c_129 => ?_)
                          · rw [nI_leI (by omega) (by omega)] at c_129
                            refine r_k hO d_C_check_144 ?_
                            refine r_iload hO d_C_check_145 rfl ?_
                            refine r_iaddN hO d_C_check_147 ?_
                            refine r_iret hO hE (Nat.zero_le _) (Nat.zero_le _) d_C_check_148 ?_
                            have hq : cd_cr te G mg tg wt (k + 1) = 2 * k + 1 := by rw [hcr, if_pos hb1, if_neg (fun q => absurd c_129 (by omega))]
                            have hst := cd_cr_st (te := te) (N := G) (mm := mg) (tc := tg) (wt := wt) (k := k + 1) (by omega) r
                            rw [show k + 1 + r = D by omega, hq] at hst
                            exact ⟨by rw [hsp, hst, if_neg (fun q => by omega), show 1 + (2 * k + 1) = 1 + (2 * k + 1) from rfl], hT2⟩
                          · rw [nI_leI (by omega) (by omega)] at c_129
                            refine r_aload hO d_C_check_132 rfl ?_
                            refine r_getR hO f_C_45 rfl hC1.1 hC1.2.2.2.2.2.2.2.1 d_C_check_133 ?_
                            refine r_iload hO d_C_check_136 rfl ?_
                            refine r_iald hO hC1.2.2.2.2.2.2.2.2.2.2.2.2.2.2.2.1 (by omega) (by decide) d_C_check_138 ?_
                            rw [hw60 S1 I2 hT2 (2 * k + 1) (by omega)]
                            refine r_iload hO d_C_check_139 rfl ?_
                            refine r_icmp_eq hO d_C_check_141 (fun c_141 => ?_) (fun c_141 => ?_)
                            · refine r_incN4 hO d_C_check_149 rfl ?_
                              refine r_goto hO d_C_check_152 ?_
                              exact ih (k + 1) S1 I2 _ _ (by omega) (by rw [hcr, if_pos hb1, if_pos ⟨rfl, by omega, c_141⟩]; omega) (by omega) hT2 hG2
                            · refine r_k hO d_C_check_144 ?_
                              refine r_iload hO d_C_check_145 rfl ?_
                              refine r_iaddN hO d_C_check_147 ?_
                              refine r_iret hO hE (Nat.zero_le _) (Nat.zero_le _) d_C_check_148 ?_
                              have hq : cd_cr te G mg tg wt (k + 1) = 2 * k + 1 := by rw [hcr, if_pos hb1, if_neg (fun q => c_141 q.2.2)]
                              have hst := cd_cr_st (te := te) (N := G) (mm := mg) (tc := tg) (wt := wt) (k := k + 1) (by omega) r
                              rw [show k + 1 + r = D by omega, hq] at hst
                              exact ⟨by rw [hsp, hst, if_neg (fun q => by omega), show 1 + (2 * k + 1) = 1 + (2 * k + 1) from rfl], hT2⟩
                        · exact absurd rfl c_102
                      · exact absurd rfl c_89
                    · exact absurd c_77 (by decide)
                · refine r_k hO d_C_check_144 ?_
                  refine r_iload hO d_C_check_145 rfl ?_
                  refine r_iaddN hO d_C_check_147 ?_
                  refine r_iret hO hE (Nat.zero_le _) (Nat.zero_le _) d_C_check_148 ?_
                  have hb0 : ¬ (2 * k < wt ∧ te (2 * k) = cd_hb (cd_hs G mg tg (k + 1)) mg) := fun q => c_141 q.2
                  have hq : cd_cr te G mg tg wt (k + 1) = 2 * k := by rw [hcr, if_neg hb0, if_neg (fun q => by omega), Nat.add_zero]
                  have hst := cd_cr_st (te := te) (N := G) (mm := mg) (tc := tg) (wt := wt) (k := k + 1) (by omega) r
                  rw [show k + 1 + r = D by omega, hq] at hst
                  exact ⟨by rw [hsp, hst, if_neg (fun q => by omega)], hT2⟩
  refine r_aload hO d_C_check_0 rfl ?_
  refine r_getI hO f_C_49 rfl hC.1 d_C_check_1 ?_
  refine r_tops hw ?_
  refine r_sI2 hO d_C_check_4 rfl ?_
  refine r_aload hO d_C_check_5 rfl ?_
  refine r_k hO d_C_check_6 ?_
  refine r_putI hO f_C_49 rfl hC.1 (Nat.le_refl _) d_C_check_7 ?_
  refine r_iload hO d_C_check_10 rfl ?_
  refine r_k hO d_C_check_11 ?_
  refine r_icmp_lt hO d_C_check_12 (fun c_12 => ?_) (fun c_12 => ?_)
  · refine r_ldc hO k_C_62 d_C_check_21 ?_
    refine r_iret hO hE (Nat.zero_le _) (Nat.zero_le _) d_C_check_23 ?_
    exact ⟨by unfold sp_check; rw [if_neg (by rintro ⟨q1, q2⟩; simp only [Int32.lt_iff_toInt_lt, Int32.le_iff_toInt_le] at *; omega)], cd_TH.rf _ _ _⟩
  · refine r_iload hO d_C_check_15 rfl ?_
    refine r_k hO d_C_check_16 ?_
    refine r_icmp_le hO d_C_check_18 (fun c_18 => ?_) (fun c_18 => ?_)
    · have c2 : nI 1 ≤ x := (by simp only [Int32.lt_iff_toInt_lt, Int32.le_iff_toInt_le] at *; omega)
      obtain ⟨n, hn1, hn30, rfl⟩ := cd_in_ex ⟨c2, c_18⟩ (by decide) (by decide)
      refine r_aload hO d_C_check_24 rfl ?_
      refine r_getI hO f_C_22 rfl hC.1 d_C_check_25 ?_
      try simp (disch := omega) only [cd_set_eq, cd_set_ne, cd_set_set]
      refine r_tops (show _ = I w.1 3 from rfl) ?_
      refine r_if_ne hO d_C_check_28 (fun c_28 => ?_) (fun c_28 => ?_)
      · obtain ⟨hGi, hG2, hg9⟩ := hK c_28
        have hGz : cd_HG w S (cd_set I w.1 (upd (I w.1) 8 (nI 0))) (w.1 + 37) G mg tg := hGi.off (fun b _ _ => cd_set_ne _ _ (by omega)) (fun b _ => cd_set_ne _ _ (by omega))
        refine r_aload hO d_C_check_35 rfl ?_
        refine r_getR hO f_C_16 rfl hC.1 hC.2.2.1 d_C_check_36 ?_
        try simp (disch := omega) only [cd_set_eq, cd_set_ne, cd_set_set]
        refine r_aload hO d_C_check_39 rfl ?_
        refine r_getR hO f_C_19 rfl hC.1 hC.2.2.2.1 d_C_check_40 ?_
        try simp (disch := omega) only [cd_set_eq, cd_set_ne, cd_set_set]
        refine cd_callV (rest := []) hO hE.1 (c_H_takes hGz hT (by omega) (by omega)) mf_H_takes lk_C_156 hT.2.1 rfl (by decide) rfl rfl rfl (Nat.le_of_ble_eq_true rfl) d_C_check_43 ⟨Nat.zero_le _, Nat.zero_le _⟩ ?_
        rintro r S1 I1 ⟨rfl, h1, h2, h3⟩
        have hT1 : cd_TH w S (cd_set I w.1 (upd (I w.1) 8 (nI 0))) S1 I1 := ⟨h1, fun b hb => h3 b (fun q => hb (Or.inl q))⟩
        have hG1 := h2
        have hC1 := hT1.1.cdh hC
        have hh4 : I1 (w.1 + 37) 4 = nI hg := by
          rw [h3 (w.1 + 37) (by omega), cd_set_ne _ _ (by omega)]
          exact (hGi.2.2.2.2.at 2 (by omega) rfl rfl).trans hG2
        show cd_J w X 0 0 S1 I1 46 [some (.ref w.1), some (.int (nI n)), some (.int (nI wt)), none, none, none, none] []
        try simp (disch := omega) only [cd_set_eq, cd_set_ne, cd_set_set]
        refine r_k hO d_C_check_46 ?_
        refine r_iload hO d_C_check_47 rfl ?_
        refine r_k hO d_C_check_48 ?_
        refine r_aload hO d_C_check_51 rfl ?_
        refine r_getR hO f_C_19 rfl hC1.1 hC1.2.2.2.1 d_C_check_52 ?_
        try simp (disch := omega) only [cd_set_eq, cd_set_ne, cd_set_set]
        refine r_getI hO f_C_145 rfl hC1.2.2.2.2.2.2.2.2.2.2.2.1.2.1 d_C_check_55 ?_
        try simp (disch := omega) only [cd_set_eq, cd_set_ne, cd_set_set]
        rw [hh4]
        refine r_isubN hO d_C_check_58 (by omega) ?_
        refine r_mmin hO hE lk_C_130 cd_mmin (by omega) rfl (Nat.le_of_ble_eq_true rfl) (Nat.zero_le _) (Nat.zero_le _) d_C_check_59 ?_
        try simp (disch := omega) only [cd_set_eq, cd_set_ne, cd_set_set]
        refine r_tops (show _ = nI (min (9999 - hg) n) from by
          split
          · rename_i q
            rw [nI_ltI (by omega) (by omega)] at q
            congr 1
            omega
          · rename_i q
            rw [nI_ltI (by omega) (by omega)] at q
            congr 1
            omega) ?_
        refine r_imulN hO d_C_check_62 ?_
        refine r_sI3 hO d_C_check_63 rfl ?_
        refine r_k hO d_C_check_64 ?_
        refine r_sI4 hO d_C_check_65 rfl ?_
        exact loop n (min (9999 - hg) n) (by omega) (by unfold sp_check; rw [if_pos ⟨c2, c_18⟩, if_neg c_28, cd_tn_nI (show n < 2 ^ 31 by omega)]) _ 0 S1 I1 _ _ (Nat.zero_add _) rfl (Nat.zero_le _) hT1 hG1
      · refine r_ldcw hO k_C_283 d_C_check_31 ?_
        refine r_iret hO hE (Nat.zero_le _) (Nat.zero_le _) d_C_check_34 ?_
        exact ⟨by unfold sp_check; rw [if_pos ⟨c2, c_18⟩, if_pos c_28], cd_TH.rf _ _ _⟩
    · refine r_ldc hO k_C_62 d_C_check_21 ?_
      refine r_iret hO hE (Nat.zero_le _) (Nat.zero_le _) d_C_check_23 ?_
      exact ⟨by unfold sp_check; rw [if_neg (by rintro ⟨q1, q2⟩; simp only [Int32.lt_iff_toInt_lt, Int32.le_iff_toInt_le] at *; omega)], cd_TH.rf _ _ _⟩
