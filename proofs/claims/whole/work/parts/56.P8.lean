def px_ka (w : Nat) : Nat := [0, 5, 8, 12].getD w 0
def px_kc (j : Nat) : Nat := [112, 114, 101, 115, 115, 102, 101, 101, 102, 105, 110, 101].getD j 0
theorem px_ka_b : ∀ w, w < 3 → px_ka w ≤ px_ka (w + 1) ∧ px_ka (w + 1) ≤ 12 ∧ 0 < px_ka (w + 1) - px_ka w := by decide
abbrev px_kp (B : Nat → Nat) (t : px_Tok) (w k : Nat) : Prop := t.2.2 - t.1 = px_ka (w + 1) - px_ka w ∧ ∀ j, j < k → B (t.1 + j) = px_kc (px_ka w + j)
abbrev px_kw (B : Nat → Nat) (t : px_Tok) (w : Nat) : Prop := t.2.1 = 1 ∧ px_kp B t w (px_ka (w + 1) - px_ka w)
def px_ky (B : Nat → Nat) (t : px_Tok) : Nat := if px_kw B t 0 then 0 else if px_kw B t 1 then 1 else if px_kw B t 2 then 2 else 3
theorem px_kc_b (j : Nat) : px_kc j < 256 := by
  rcases Nat.lt_or_ge j 12 with h | h
  · have : ∀ j, j < 12 → px_kc j < 256 := by decide
    exact this j h
  · unfold px_kc
    rw [List.getD_eq_getElem?_getD, List.getElem?_eq_none (by simpa using h)]
    decide
theorem d_M_takesKey_0 : cd_D_aload b_M_takesKey 0 0 1 := Or.inr ⟨0, ⟨by decide +kernel, rfl⟩, rfl⟩
theorem d_M_takesKey_1 : cd_D 3 b_M_takesKey 1 (.getfield 204) 4 := ⟨by decide +kernel, rfl⟩
theorem d_M_takesKey_4 : cd_Dk b_M_takesKey 4 (nI 1) 5 := Or.inl ⟨1, ⟨by decide +kernel, rfl⟩, by decide +kernel⟩
theorem d_M_takesKey_5 : cd_D_icmp_eq b_M_takesKey 5 10 8 := ⟨5, by decide +kernel, by decide, rfl⟩
theorem d_M_takesKey_8 : cd_Dk b_M_takesKey 8 (nI 0) 9 := Or.inl ⟨0, ⟨by decide +kernel, rfl⟩, by decide +kernel⟩
theorem d_M_takesKey_9 : cd_D 1 b_M_takesKey 9 .ireturn 10 := ⟨by decide +kernel, rfl⟩
theorem d_M_takesKey_10 : cd_Dk b_M_takesKey 10 (nI 0) 11 := Or.inl ⟨0, ⟨by decide +kernel, rfl⟩, by decide +kernel⟩
theorem d_M_takesKey_11 : cd_D_istore b_M_takesKey 11 1 12 := Or.inr ⟨1, ⟨by decide +kernel, rfl⟩, rfl⟩
theorem d_M_takesKey_12 : cd_D_iload b_M_takesKey 12 1 13 := Or.inr ⟨1, ⟨by decide +kernel, rfl⟩, rfl⟩
theorem d_M_takesKey_13 : cd_Dk b_M_takesKey 13 (nI 3) 14 := Or.inl ⟨3, ⟨by decide +kernel, rfl⟩, by decide +kernel⟩
theorem d_M_takesKey_14 : cd_D_icmp_ge b_M_takesKey 14 127 17 := ⟨113, by decide +kernel, by decide, rfl⟩
theorem d_M_takesKey_17 : cd_D_aload b_M_takesKey 17 0 18 := Or.inr ⟨0, ⟨by decide +kernel, rfl⟩, rfl⟩
theorem d_M_takesKey_18 : cd_D 3 b_M_takesKey 18 (.getfield 29) 21 := ⟨by decide +kernel, rfl⟩
theorem d_M_takesKey_21 : cd_D_iload b_M_takesKey 21 1 22 := Or.inr ⟨1, ⟨by decide +kernel, rfl⟩, rfl⟩
theorem d_M_takesKey_22 : cd_Dk b_M_takesKey 22 (nI 1) 23 := Or.inl ⟨1, ⟨by decide +kernel, rfl⟩, by decide +kernel⟩
theorem d_M_takesKey_23 : cd_D 1 b_M_takesKey 23 .iadd 24 := ⟨by decide +kernel, rfl⟩
theorem d_M_takesKey_24 : cd_D 1 b_M_takesKey 24 .iaload 25 := ⟨by decide +kernel, rfl⟩
theorem d_M_takesKey_25 : cd_D_aload b_M_takesKey 25 0 26 := Or.inr ⟨0, ⟨by decide +kernel, rfl⟩, rfl⟩
theorem d_M_takesKey_26 : cd_D 3 b_M_takesKey 26 (.getfield 29) 29 := ⟨by decide +kernel, rfl⟩
theorem d_M_takesKey_29 : cd_D_iload b_M_takesKey 29 1 30 := Or.inr ⟨1, ⟨by decide +kernel, rfl⟩, rfl⟩
theorem d_M_takesKey_30 : cd_D 1 b_M_takesKey 30 .iaload 31 := ⟨by decide +kernel, rfl⟩
theorem d_M_takesKey_31 : cd_D 1 b_M_takesKey 31 .isub 32 := ⟨by decide +kernel, rfl⟩
theorem d_M_takesKey_32 : cd_D_istore b_M_takesKey 32 2 33 := Or.inr ⟨2, ⟨by decide +kernel, rfl⟩, rfl⟩
theorem d_M_takesKey_33 : cd_D_iload b_M_takesKey 33 2 34 := Or.inr ⟨2, ⟨by decide +kernel, rfl⟩, rfl⟩
theorem d_M_takesKey_34 : cd_D_aload b_M_takesKey 34 0 35 := Or.inr ⟨0, ⟨by decide +kernel, rfl⟩, rfl⟩
theorem d_M_takesKey_35 : cd_D 3 b_M_takesKey 35 (.getfield 195) 38 := ⟨by decide +kernel, rfl⟩
theorem d_M_takesKey_38 : cd_D_aload b_M_takesKey 38 0 39 := Or.inr ⟨0, ⟨by decide +kernel, rfl⟩, rfl⟩
theorem d_M_takesKey_39 : cd_D 3 b_M_takesKey 39 (.getfield 198) 42 := ⟨by decide +kernel, rfl⟩
theorem d_M_takesKey_42 : cd_D 1 b_M_takesKey 42 .isub 43 := ⟨by decide +kernel, rfl⟩
theorem d_M_takesKey_43 : cd_D_icmp_ne b_M_takesKey 43 50 46 := ⟨7, by decide +kernel, by decide, rfl⟩
theorem d_M_takesKey_46 : cd_Dk b_M_takesKey 46 (nI 1) 47 := Or.inl ⟨1, ⟨by decide +kernel, rfl⟩, by decide +kernel⟩
theorem d_M_takesKey_47 : cd_D_goto b_M_takesKey 47 51 := ⟨4, by decide +kernel, by decide⟩
theorem d_M_takesKey_50 : cd_Dk b_M_takesKey 50 (nI 0) 51 := Or.inl ⟨0, ⟨by decide +kernel, rfl⟩, by decide +kernel⟩
theorem d_M_takesKey_51 : cd_D_istore b_M_takesKey 51 3 52 := Or.inr ⟨3, ⟨by decide +kernel, rfl⟩, rfl⟩
theorem d_M_takesKey_52 : cd_Dk b_M_takesKey 52 (nI 0) 53 := Or.inl ⟨0, ⟨by decide +kernel, rfl⟩, by decide +kernel⟩
theorem d_M_takesKey_53 : cd_D_istore b_M_takesKey 53 4 55 := Or.inl ⟨by decide +kernel, rfl⟩
theorem d_M_takesKey_55 : cd_D_iload b_M_takesKey 55 4 57 := Or.inl ⟨by decide +kernel, rfl⟩
theorem d_M_takesKey_57 : cd_D_iload b_M_takesKey 57 2 58 := Or.inr ⟨2, ⟨by decide +kernel, rfl⟩, rfl⟩
theorem d_M_takesKey_58 : cd_D_icmp_ge b_M_takesKey 58 106 61 := ⟨48, by decide +kernel, by decide, rfl⟩
theorem d_M_takesKey_61 : cd_D_iload b_M_takesKey 61 3 62 := Or.inr ⟨3, ⟨by decide +kernel, rfl⟩, rfl⟩
theorem d_M_takesKey_62 : cd_D_if_eq b_M_takesKey 62 106 65 := ⟨44, by decide +kernel, by decide, rfl⟩
theorem d_M_takesKey_65 : cd_D_aload b_M_takesKey 65 0 66 := Or.inr ⟨0, ⟨by decide +kernel, rfl⟩, rfl⟩
theorem d_M_takesKey_66 : cd_D 3 b_M_takesKey 66 (.getfield 22) 69 := ⟨by decide +kernel, rfl⟩
theorem d_M_takesKey_69 : cd_D_aload b_M_takesKey 69 0 70 := Or.inr ⟨0, ⟨by decide +kernel, rfl⟩, rfl⟩
theorem d_M_takesKey_70 : cd_D 3 b_M_takesKey 70 (.getfield 198) 73 := ⟨by decide +kernel, rfl⟩
theorem d_M_takesKey_73 : cd_D_iload b_M_takesKey 73 4 75 := Or.inl ⟨by decide +kernel, rfl⟩
theorem d_M_takesKey_75 : cd_D 1 b_M_takesKey 75 .iadd 76 := ⟨by decide +kernel, rfl⟩
theorem d_M_takesKey_76 : cd_D 1 b_M_takesKey 76 .iaload 77 := ⟨by decide +kernel, rfl⟩
theorem d_M_takesKey_77 : cd_D_aload b_M_takesKey 77 0 78 := Or.inr ⟨0, ⟨by decide +kernel, rfl⟩, rfl⟩
theorem d_M_takesKey_78 : cd_D 3 b_M_takesKey 78 (.getfield 25) 81 := ⟨by decide +kernel, rfl⟩
theorem d_M_takesKey_81 : cd_D_aload b_M_takesKey 81 0 82 := Or.inr ⟨0, ⟨by decide +kernel, rfl⟩, rfl⟩
theorem d_M_takesKey_82 : cd_D 3 b_M_takesKey 82 (.getfield 29) 85 := ⟨by decide +kernel, rfl⟩
theorem d_M_takesKey_85 : cd_D_iload b_M_takesKey 85 1 86 := Or.inr ⟨1, ⟨by decide +kernel, rfl⟩, rfl⟩
theorem d_M_takesKey_86 : cd_D 1 b_M_takesKey 86 .iaload 87 := ⟨by decide +kernel, rfl⟩
theorem d_M_takesKey_87 : cd_D_iload b_M_takesKey 87 4 89 := Or.inl ⟨by decide +kernel, rfl⟩
theorem d_M_takesKey_89 : cd_D 1 b_M_takesKey 89 .iadd 90 := ⟨by decide +kernel, rfl⟩
theorem d_M_takesKey_90 : cd_D 1 b_M_takesKey 90 .caload 91 := ⟨by decide +kernel, rfl⟩
theorem d_M_takesKey_91 : cd_D_icmp_ne b_M_takesKey 91 98 94 := ⟨7, by decide +kernel, by decide, rfl⟩
theorem d_M_takesKey_94 : cd_Dk b_M_takesKey 94 (nI 1) 95 := Or.inl ⟨1, ⟨by decide +kernel, rfl⟩, by decide +kernel⟩
theorem d_M_takesKey_95 : cd_D_goto b_M_takesKey 95 99 := ⟨4, by decide +kernel, by decide⟩
theorem d_M_takesKey_98 : cd_Dk b_M_takesKey 98 (nI 0) 99 := Or.inl ⟨0, ⟨by decide +kernel, rfl⟩, by decide +kernel⟩
theorem d_M_takesKey_99 : cd_D_istore b_M_takesKey 99 3 100 := Or.inr ⟨3, ⟨by decide +kernel, rfl⟩, rfl⟩
theorem d_M_takesKey_100 : cd_D 3 b_M_takesKey 100 (.iinc 4 (1)) 103 := ⟨by decide +kernel, rfl⟩
theorem d_M_takesKey_103 : cd_D_goto b_M_takesKey 103 55 := ⟨-48, by decide +kernel, by decide⟩
theorem d_M_takesKey_106 : cd_D_iload b_M_takesKey 106 3 107 := Or.inr ⟨3, ⟨by decide +kernel, rfl⟩, rfl⟩
theorem d_M_takesKey_107 : cd_D_if_eq b_M_takesKey 107 121 110 := ⟨14, by decide +kernel, by decide, rfl⟩
theorem d_M_takesKey_110 : cd_D_aload b_M_takesKey 110 0 111 := Or.inr ⟨0, ⟨by decide +kernel, rfl⟩, rfl⟩
theorem d_M_takesKey_111 : cd_D_iload b_M_takesKey 111 1 112 := Or.inr ⟨1, ⟨by decide +kernel, rfl⟩, rfl⟩
theorem d_M_takesKey_112 : cd_D 3 b_M_takesKey 112 (.putfield 216) 115 := ⟨by decide +kernel, rfl⟩
theorem d_M_takesKey_115 : cd_D_aload b_M_takesKey 115 0 116 := Or.inr ⟨0, ⟨by decide +kernel, rfl⟩, rfl⟩
theorem d_M_takesKey_116 : cd_D 3 b_M_takesKey 116 (.invokevirtual 219) 119 := ⟨by decide +kernel, rfl⟩
theorem d_M_takesKey_119 : cd_Dk b_M_takesKey 119 (nI 1) 120 := Or.inl ⟨1, ⟨by decide +kernel, rfl⟩, by decide +kernel⟩
theorem d_M_takesKey_120 : cd_D 1 b_M_takesKey 120 .ireturn 121 := ⟨by decide +kernel, rfl⟩
theorem d_M_takesKey_121 : cd_D 3 b_M_takesKey 121 (.iinc 1 (1)) 124 := ⟨by decide +kernel, rfl⟩
theorem d_M_takesKey_124 : cd_D_goto b_M_takesKey 124 12 := ⟨-112, by decide +kernel, by decide⟩
theorem d_M_takesKey_127 : cd_Dk b_M_takesKey 127 (nI 0) 128 := Or.inl ⟨0, ⟨by decide +kernel, rfl⟩, by decide +kernel⟩
theorem d_M_takesKey_128 : cd_D 1 b_M_takesKey 128 .ireturn 129 := ⟨by decide +kernel, rfl⟩
theorem c_M_takesKey {l : Launch} {w : cd_WT} {S : cd_Sp} {I : cd_Mem} {m : Nat} (hM : cd_MO w S m) {B : Nat → Nat} {L : Nat} {t : px_Tok} (a1 : I m 6 = nI L) (a2 : px_TP (I (m + 5)) B L) (a4 : px_TF (I m) B t) (a5 : px_TO B L t) (hK6 : ∀ j, j < 12 → I (m + 6) j = nI (px_kc j)) (hK7 : ∀ j, j < 4 → I (m + 7) j = nI (px_ka j)) : cd_C l w m_M_takesKey 2 0 0 [.ref m] S I (cd_Pi S (fun y I' => (px_ky B t = 3 ∧ y = nI 0 ∧ I' = I) ∨ (px_ky B t < 3 ∧ y = nI 1 ∧ ∃ Q, I' = cd_set I m Q ∧ Q 12 = nI (px_ky B t) ∧ (∀ k, k < 7 ∨ 12 < k → k ≠ 12 → Q k = I m k) ∧ px_TF Q B (px_adv B L t)))) := by
  refine cd_intro (by decide) (by simp [Value.category]) (Nat.le_of_ble_eq_true rfl) ?_
  intro X hO hE
  show cd_J w X 0 0 S I 0 [some (.ref m), none, none, none, none] []
  have hT1 := a2.1
  have hkd := a5.2.2.2.2.1
  have htL := a5.1
  have hnL := a5.2.1
  have step : ∀ wd, wd < 3 → t.2.1 = 1 → (px_kw B t wd → px_ky B t = wd) → (¬ px_kw B t wd → ∀ x2 x3 x4, cd_J w X 0 0 S I 121 [some (.ref m), some (.int (nI wd)), x2, x3, x4] []) → ∀ x2 x3 x4, cd_J w X 0 0 S I 12 [some (.ref m), some (.int (nI wd)), x2, x3, x4] [] := by
    intro wd hwd hk1 hY hN x2 x3 x4
    obtain ⟨hw1, hw2, hw3⟩ := px_ka_b wd hwd
    have hlt := a5.2.2.1 (by omega)
    obtain ⟨n, hn⟩ : ∃ n, n = px_ka (wd + 1) - px_ka wd := ⟨_, rfl⟩
    have fin : ∀ x3 x4, px_kw B t wd → cd_J w X 0 0 S I 110 [some (.ref m), some (.int (nI wd)), some (.int (nI n)), x3, x4] [] := by
      intro x3 x4 hkw
      refine r_aload hO d_M_takesKey_110 rfl ?_
      refine r_iload hO d_M_takesKey_111 rfl ?_
      refine r_putI hO f_M_216 rfl hM.2.1 hM.1 d_M_takesKey_112 ?_
      refine r_aload hO d_M_takesKey_115 rfl ?_
      refine r_cV0v hO hE (c_M_go hM (B := B) (L := L) (p := t.2.2) (by rw [cd_set_eq]; exact a1) (by rw [cd_set_ne _ _ (by omega)]; exact a2) (by rw [cd_set_eq]; exact a4.2.2.1) hnL (t.2.1 = 1 ∨ t.2.1 = 2) (by rw [cd_set_eq]; exact ⟨a4.2.2.2.2.2.1, fun q => absurd (Or.inl hk1) q⟩)) mf_M_go lk_M_219 hM.2.1 rfl (by decide) rfl (Nat.le_of_ble_eq_true rfl) d_M_takesKey_116 (Nat.zero_le _) (Nat.zero_le _) ?_
      rintro I2 ⟨Q, rfl, hQ⟩
      rw [cd_set_eq] at hQ
      rw [cd_set_set]
      try simp (disch := omega) only [cd_set_eq, cd_set_ne, cd_set_set]
      refine r_k hO d_M_takesKey_119 ?_
      refine r_zret hO hE (by first | exact Or.inl rfl | exact Or.inr rfl) (Nat.zero_le _) (Nat.zero_le _) d_M_takesKey_120 ?_
      exact ⟨_, rfl, rfl, Or.inr ⟨by rw [hY hkw]; exact hwd, rfl, Q, rfl, by rw [hQ.1 12 (by decide) (by decide) (by decide) (by decide) (by decide), hY hkw]; rfl, fun k k1 k2 => by rw [hQ.1 k (by omega) (by omega) (by omega) (by omega) (by omega)]; exact px_un _ _ (by omega), px_GO_TF hQ⟩⟩
    have loop : ∀ r k, k + r = n → cd_J w X 0 0 S I 55 [some (.ref m), some (.int (nI wd)), some (.int (nI n)), some (.int (cd_bI (px_kp B t wd k))), some (.int (nI k))] [] := by
      intro r
      induction r with
      | zero =>
        intro k hk
        have hkn : k = n := by omega
        subst hkn
        refine r_iload hO d_M_takesKey_55 rfl ?_
        refine r_iload hO d_M_takesKey_57 rfl ?_
        refine r_icmp_ge hO d_M_takesKey_58 (fun c_58 => ?_) (fun c_58 => ?_)
        · refine r_iload hO d_M_takesKey_106 rfl ?_
          refine r_if_eqB hO d_M_takesKey_107 (fun c_107 => ?_) (fun c_107 => ?_)
          · exact hN (fun q => c_107 (hn ▸ q.2)) _ _ _
          · exact fin _ _ ⟨hk1, hn ▸ c_107⟩
        · exact absurd (nI_le (Nat.le_refl _) (by omega)) c_58
      | succ r ih =>
        intro k hk
        refine r_iload hO d_M_takesKey_55 rfl ?_
        refine r_iload hO d_M_takesKey_57 rfl ?_
        refine r_icmp_ge hO d_M_takesKey_58 (fun c_58 => ?_) (fun c_58 => ?_)
        · exact absurd c_58 (nI_ge (by omega) (by omega))
        · refine r_iload hO d_M_takesKey_61 rfl ?_
          refine r_if_eqB hO d_M_takesKey_62 (fun c_62 => ?_) (fun c_62 => ?_)
          · refine r_iload hO d_M_takesKey_106 rfl ?_
            refine r_if_eqB hO d_M_takesKey_107 (fun c_107 => ?_) (fun c_107 => ?_)
            · exact hN (fun q => c_62 ⟨q.2.1, fun j hj => q.2.2 j (by omega)⟩) _ _ _
            · exact absurd c_107 c_62
          · have hn2 := c_62.1
            rw [← hn] at hn2
            have hTk := (a2.2 (t.1 + k) (by omega))
            refine r_aload hO d_M_takesKey_65 rfl ?_
            refine r_getR hO f_M_22 rfl hM.2.1 (mo_r5 hM) d_M_takesKey_66 ?_
            refine r_aload hO d_M_takesKey_69 rfl ?_
            refine r_getI hO f_M_198 rfl hM.2.1 d_M_takesKey_70 ?_
            refine r_tops (show _ = nI t.1 from a4.1) ?_
            refine r_iload hO d_M_takesKey_73 rfl ?_
            refine r_iaddN hO d_M_takesKey_75 ?_
            refine r_iald hO (mo_s5 hM) (by omega) (by decide) d_M_takesKey_76 ?_
            rw [hTk.1]
            refine r_aload hO d_M_takesKey_77 rfl ?_
            refine r_getR hO f_M_25 rfl hM.2.1 (mo_r6 hM) d_M_takesKey_78 ?_
            refine r_aload hO d_M_takesKey_81 rfl ?_
            refine r_getR hO f_M_29 rfl hM.2.1 (mo_r7 hM) d_M_takesKey_82 ?_
            refine r_iload hO d_M_takesKey_85 rfl ?_
            refine r_iald hO (mo_s7 hM) (by omega) (by decide) d_M_takesKey_86 ?_
            rw [hK7 wd (by omega)]
            refine r_iload hO d_M_takesKey_87 rfl ?_
            refine r_iaddN hO d_M_takesKey_89 ?_
            refine r_cald hO (mo_s6 hM) (by omega) (by decide) d_M_takesKey_90 ?_
            rw [hK6 _ (by omega)]
            refine r_jn2 (pcJ := 99) (fun v => v = cd_bI (px_kp B t wd (k + 1))) (fun v_91 hv_91 => ?_) (fun hj_91 => ?_)
            · subst hv_91
              refine r_sI3 hO d_M_takesKey_99 rfl ?_
              refine r_incN4 hO d_M_takesKey_100 rfl ?_
              refine r_goto hO d_M_takesKey_103 ?_
              exact ih (k + 1) (by omega)
            · refine r_icmp_ne hO d_M_takesKey_91 (fun c_91 => ?_) (fun c_91 => ?_)
              · rw [nI_eq (by omega) (by have h256 := px_kc_b (px_ka wd + k); omega)] at c_91
                refine r_k hO d_M_takesKey_98 ?_
                exact hj_91 _ (by rw [cd_bI, if_neg (fun q => c_91 (q.2 k (Nat.lt_succ_self _)))]; rfl)
              · rw [nI_eq (by omega) (by have h256 := px_kc_b (px_ka wd + k); omega)] at c_91
                refine r_k hO d_M_takesKey_94 ?_
                refine r_goto hO d_M_takesKey_95 ?_
                exact hj_91 _ (by rw [cd_bI, if_pos ⟨c_62.1, fun j hj => by by_cases e : j = k; rw [e]; exact c_91; exact c_62.2 j (by omega)⟩]; rfl)
    refine r_iload hO d_M_takesKey_12 rfl ?_
    refine r_k hO d_M_takesKey_13 ?_
    refine r_icmp_ge hO d_M_takesKey_14 (fun c_14 => ?_) (fun c_14 => ?_)
    · exact absurd c_14 (nI_ge (by omega) (by omega))
    · refine r_aload hO d_M_takesKey_17 rfl ?_
      refine r_getR hO f_M_29 rfl hM.2.1 (mo_r7 hM) d_M_takesKey_18 ?_
      refine r_iload hO d_M_takesKey_21 rfl ?_
      refine r_k hO d_M_takesKey_22 ?_
      refine r_iaddN hO d_M_takesKey_23 ?_
      refine r_iald hO (mo_s7 hM) (by omega) (by decide) d_M_takesKey_24 ?_
      rw [hK7 _ (by omega)]
      refine r_aload hO d_M_takesKey_25 rfl ?_
      refine r_getR hO f_M_29 rfl hM.2.1 (mo_r7 hM) d_M_takesKey_26 ?_
      refine r_iload hO d_M_takesKey_29 rfl ?_
      refine r_iald hO (mo_s7 hM) (by omega) (by decide) d_M_takesKey_30 ?_
      rw [hK7 _ (by omega)]
      refine r_isubN hO d_M_takesKey_31 hw1 ?_
      refine r_tops (show nI (px_ka (wd + 1) - px_ka wd) = nI n by rw [hn]) ?_
      refine r_sI2 hO d_M_takesKey_32 rfl ?_
      refine r_iload hO d_M_takesKey_33 rfl ?_
      refine r_aload hO d_M_takesKey_34 rfl ?_
      refine r_getI hO f_M_195 rfl hM.2.1 d_M_takesKey_35 ?_
      refine r_tops (show _ = nI t.2.2 from a4.2.2.1) ?_
      refine r_aload hO d_M_takesKey_38 rfl ?_
      refine r_getI hO f_M_198 rfl hM.2.1 d_M_takesKey_39 ?_
      refine r_tops (show _ = nI t.1 from a4.1) ?_
      refine r_isubN hO d_M_takesKey_42 (by omega) ?_
      refine r_jn2 (pcJ := 51) (fun v => v = cd_bI (px_kp B t wd 0)) (fun v_43 hv_43 => ?_) (fun hj_43 => ?_)
      · subst hv_43
        refine r_sI3 hO d_M_takesKey_51 rfl ?_
        refine r_k hO d_M_takesKey_52 ?_
        refine r_sI4 hO d_M_takesKey_53 rfl ?_
        exact loop n 0 (by omega)
      · refine r_icmp_ne hO d_M_takesKey_43 (fun c_43 => ?_) (fun c_43 => ?_)
        · rw [nI_eq (by omega) (by omega)] at c_43
          refine r_k hO d_M_takesKey_50 ?_
          exact hj_43 _ (by rw [cd_bI, if_neg (fun q => c_43 (hn.trans q.1.symm))]; rfl)
        · rw [nI_eq (by omega) (by omega)] at c_43
          refine r_k hO d_M_takesKey_46 ?_
          refine r_goto hO d_M_takesKey_47 ?_
          exact hj_43 _ (by rw [cd_bI, if_pos ⟨c_43.symm.trans hn, fun j hj => absurd hj (Nat.not_lt_zero _)⟩]; rfl)
  have e3 : ∀ wd, wd < 3 → ¬ t.2.1 = 1 → ¬ px_kw B t wd := fun wd _ q q2 => q q2.1
  have last : ¬ px_kw B t 0 → ¬ px_kw B t 1 → ¬ px_kw B t 2 → ∀ x2 x3 x4, cd_J w X 0 0 S I 121 [some (.ref m), some (.int (nI 2)), x2, x3, x4] [] := by
    intro k0 k1 k2 x2 x3 x4
    refine r_incN1 hO d_M_takesKey_121 rfl ?_
    refine r_goto hO d_M_takesKey_124 ?_
    refine r_iload hO d_M_takesKey_12 rfl ?_
    refine r_k hO d_M_takesKey_13 ?_
    refine r_icmp_ge hO d_M_takesKey_14 (fun c_14 => ?_) (fun c_14 => ?_)
    · refine r_k hO d_M_takesKey_127 ?_
      refine r_zret hO hE (by first | exact Or.inl rfl | exact Or.inr rfl) (Nat.zero_le _) (Nat.zero_le _) d_M_takesKey_128 ?_
      exact ⟨_, rfl, rfl, Or.inl ⟨by unfold px_ky; rw [if_neg k0, if_neg k1, if_neg k2], rfl, rfl⟩⟩
    · exact absurd (by decide) c_14
  have mid : ∀ wd, wd < 2 → (∀ x2 x3 x4, cd_J w X 0 0 S I 12 [some (.ref m), some (.int (nI (wd + 1))), x2, x3, x4] []) → ∀ x2 x3 x4, cd_J w X 0 0 S I 121 [some (.ref m), some (.int (nI wd)), x2, x3, x4] [] := by
    intro wd hwd hJ x2 x3 x4
    refine r_incN1 hO d_M_takesKey_121 rfl ?_
    refine r_goto hO d_M_takesKey_124 ?_
    exact hJ _ _ _
  refine r_aload hO d_M_takesKey_0 rfl ?_
  refine r_getI hO f_M_204 rfl hM.2.1 d_M_takesKey_1 ?_
  refine r_tops (show _ = nI t.2.1 from a4.2.1) ?_
  refine r_k hO d_M_takesKey_4 ?_
  refine r_icmp_eq hO d_M_takesKey_5 (fun c_5 => ?_) (fun c_5 => ?_)
  · rw [nI_eq (by omega) (by omega)] at c_5
    refine r_k hO d_M_takesKey_10 ?_
    refine r_sI1 hO d_M_takesKey_11 rfl ?_
    exact step 0 (by decide) c_5 (fun q => if_pos q) (fun k0 => mid 0 (by decide) (step 1 (by decide) c_5 (fun q => by unfold px_ky; rw [if_neg k0, if_pos q]) (fun k1 => mid 1 (by decide) (step 2 (by decide) c_5 (fun q => by unfold px_ky; rw [if_neg k0, if_neg k1, if_pos q]) (fun k2 => last k0 k1 k2))))) _ _ _
  · rw [nI_eq (by omega) (by omega)] at c_5
    refine r_k hO d_M_takesKey_8 ?_
    refine r_zret hO hE (by first | exact Or.inl rfl | exact Or.inr rfl) (Nat.zero_le _) (Nat.zero_le _) d_M_takesKey_9 ?_
    exact ⟨_, rfl, rfl, Or.inl ⟨by unfold px_ky; rw [if_neg (fun q => c_5 q.1), if_neg (fun q => c_5 q.1), if_neg (fun q => c_5 q.1)], rfl, rfl⟩⟩
