abbrev cd_Th4 : Type := (Nat → Int32) × (Nat → Int32) × (Nat → Int32) × (Nat → Int32)
def cd_m4 (I : cd_Mem) (m : Nat) (L : cd_Th4) : cd_Mem := cd_set (cd_set (cd_set (cd_set I (m + 16) L.1) (m + 17) L.2.1) (m + 18) L.2.2.1) (m + 19) L.2.2.2
def cd_g4 (I : cd_Mem) (m : Nat) : cd_Th4 := (I (m + 16), I (m + 17), I (m + 18), I (m + 19))
theorem cd_m4_self (I : cd_Mem) (m : Nat) : cd_m4 I m (cd_g4 I m) = I := by
  unfold cd_m4 cd_g4
  simp only [cd_set_self]
def cd_l4 (L : cd_Th4) (s : Nat) (t a b : Int32) : cd_Th4 := (upd L.1 s t, upd L.2.1 s a, upd L.2.2.1 s b, L.2.2.2)
theorem cd_l3_4 (I : cd_Mem) (m s : Nat) (t a b : Int32) : cd_l3 I m s t a b = cd_m4 I m (cd_l4 (cd_g4 I m) s t a b) := by
  unfold cd_m4 cd_l3 cd_l4 cd_g4
  funext q
  by_cases h : q = m + 19
  · subst h
    simp (disch := omega) only [cd_set_eq, cd_set_ne]
  · rw [cd_set_ne _ _ h]
def sp_ly (N so sz ce : Nat → Int32) (L : cd_Th4) (s t k : Int32) : Int32 × cd_Th4 := if nI 0 ≤ s ∧ s ≤ nI 4 then (if nI 0 ≤ t ∧ t ≤ nI 3 then (if t = nI 1 then (if cd_isA N k then (L.1 (cd_tn s), cd_l4 L (cd_tn s) t (N (16 + 5 * cd_tn k + 0)) (cd_wor (N (16 + 5 * cd_tn k + 0)) (N (16 + 5 * cd_tn k + 2)))) else (cd_BAD, L)) else if t = nI 2 then (if nI 0 ≤ k ∧ k ≤ nI 3 then (if 0 ≤ so (cd_tn k) then (L.1 (cd_tn s), upd L.1 (cd_tn s) t, upd L.2.1 (cd_tn s) (sz (cd_tn k)), upd L.2.2.1 (cd_tn s) (nI 0), cd_rg L.2.2.2 (24 * cd_tn s) 24 (fun i => ce (24 * cd_tn k + i))) else (cd_NOTHING, L)) else (cd_BAD, L)) else (L.1 (cd_tn s), cd_l4 L (cd_tn s) t k (nI 0))) else (cd_BAD, L)) else (cd_BAD, L)
theorem sp_lay_4 (I : cd_Mem) (m : Nat) (s t k : Int32) : sp_lay I m s t k = ((sp_ly (I (m + 1)) (I (m + 13)) (I (m + 14)) (I (m + 15)) (cd_g4 I m) s t k).1, cd_m4 I m (sp_ly (I (m + 1)) (I (m + 13)) (I (m + 14)) (I (m + 15)) (cd_g4 I m) s t k).2) := by
  have e2 : ∀ a, cd_set (cd_l3 I m (cd_tn s) t a (nI 0)) (m + 19) (cd_rg (I (m + 19)) (24 * cd_tn s) 24 (fun i => I (m + 15) (24 * cd_tn k + i))) = cd_m4 I m (upd (I (m + 16)) (cd_tn s) t, upd (I (m + 17)) (cd_tn s) a, upd (I (m + 18)) (cd_tn s) (nI 0), cd_rg (I (m + 19)) (24 * cd_tn s) 24 (fun i => I (m + 15) (24 * cd_tn k + i))) := fun _ => rfl
  unfold sp_lay sp_ly
  rw [e2, cd_l3_4, cd_l3_4]
  by_cases h1 : nI 0 ≤ s ∧ s ≤ nI 4
  · simp only [if_pos h1]
    by_cases h2 : nI 0 ≤ t ∧ t ≤ nI 3
    · simp only [if_pos h2]
      by_cases h3 : t = nI 1
      · simp only [if_pos h3]
        by_cases h4 : cd_isA (I (m + 1)) k
        · simp only [if_pos h4]; rfl
        · simp only [if_neg h4, cd_m4_self]
      · simp only [if_neg h3]
        by_cases h5 : t = nI 2
        · simp only [if_pos h5]
          by_cases h6 : nI 0 ≤ k ∧ k ≤ nI 3
          · simp only [if_pos h6]
            by_cases h7 : 0 ≤ I (m + 13) (cd_tn k)
            · simp only [if_pos h7]; rfl
            · simp only [if_neg h7, cd_m4_self]
          · simp only [if_neg h6, cd_m4_self]
        · simp only [if_neg h5]; rfl
    · simp only [if_neg h2, cd_m4_self]
  · simp only [if_neg h1, cd_m4_self]
/-- one slot's clause -/
def cd_L1 (w : cd_WT) (I : cd_Mem) (j : Nat) (t a b : Int32) (hc : Nat → Int32) : Prop := I (w.1 + 70 + 4 * j) 0 = t ∧ (t = nI 1 → I (w.1 + 71 + 4 * j) 0 = a ∧ cd_wor (I (w.1 + 71 + 4 * j) 0) (I (w.1 + 71 + 4 * j) 2) = b ∧ ∃ kd, kd ≤ 5 ∧ a = nI kd) ∧ (t = nI 2 → I (w.1 + 72 + 4 * j) 1 = a ∧ ∀ k, k < 24 → I (w.1 + 72 + 4 * j + 1) k = hc (24 * j + k)) ∧ (t = nI 3 → I (w.1 + 70 + 4 * j) 1 = a)
theorem cd_LR_u {w : cd_WT} {I I' : cd_Mem} {L : cd_Th4} (hL : cd_LR w I L.1 L.2.1 L.2.2.1 L.2.2.2) {s : Nat} (ho : ∀ b, ¬ (w.1 + 70 + 4 * s ≤ b ∧ b < w.1 + 74 + 4 * s) → I' b = I b) {t a b : Int32} {hc : Nat → Int32} (hh : ∀ q, ¬ (24 * s ≤ q ∧ q < 24 * s + 24) → hc q = L.2.2.2 q) (h1 : cd_L1 w I' s t a b hc) : cd_LR w I' (upd L.1 s t) (upd L.2.1 s a) (upd L.2.2.1 s b) hc := by
  intro j hj
  by_cases e : j = s
  · subst e
    rw [px_ue, px_ue, px_ue]
    exact h1
  · rw [px_un _ _ e, px_un _ _ e, px_un _ _ e, ho _ (by omega), ho _ (by omega), ho _ (by omega), ho _ (by omega)]
    obtain ⟨q1, q2, q3, q4⟩ := hL j hj
    refine ⟨q1, q2, fun h => ⟨(q3 h).1, fun k hk => ?_⟩, q4⟩
    rw [hh _ (by omega)]
    exact (q3 h).2 k hk
def cd_Psl (w : cd_WT) (S : cd_Sp) (I : cd_Mem) (p : Int32 × cd_Th4) : cd_Pt := cd_Pi S (fun x I' => x = p.1 ∧ cd_LR w I' p.2.1 p.2.2.1 p.2.2.2.1 p.2.2.2.2 ∧ ∀ b, ¬ (w.1 + 70 ≤ b ∧ b < w.1 + 90) → I' b = I b)
theorem cd_psl {w : cd_WT} {S : cd_Sp} {I I' : cd_Mem} {p : Int32 × cd_Th4} {v : Int32} {L : cd_Th4} (h : p = (v, L)) (hL : cd_LR w I' L.1 L.2.1 L.2.2.1 L.2.2.2) (ho : ∀ b, ¬ (w.1 + 70 ≤ b ∧ b < w.1 + 90) → I' b = I b) : cd_Psl w S I p (some (.int v)) S I' := by
  subst h
  exact ⟨_, rfl, rfl, rfl, hL, ho⟩
theorem d_C_lay_0 : cd_D_iload b_C_lay 0 1 1 := Or.inr ⟨1, ⟨by decide +kernel, rfl⟩, rfl⟩
theorem d_C_lay_1 : cd_Dk b_C_lay 1 (nI 4) 2 := Or.inl ⟨4, ⟨by decide +kernel, rfl⟩, by decide +kernel⟩
theorem d_C_lay_2 : cd_D 3 b_C_lay 2 (.invokestatic 58) 5 := ⟨by decide +kernel, rfl⟩
theorem d_C_lay_5 : cd_D_if_eq b_C_lay 5 16 8 := ⟨11, by decide +kernel, by decide, rfl⟩
theorem d_C_lay_8 : cd_D_iload b_C_lay 8 2 9 := Or.inr ⟨2, ⟨by decide +kernel, rfl⟩, rfl⟩
theorem d_C_lay_9 : cd_Dk b_C_lay 9 (nI 3) 10 := Or.inl ⟨3, ⟨by decide +kernel, rfl⟩, by decide +kernel⟩
theorem d_C_lay_10 : cd_D 3 b_C_lay 10 (.invokestatic 58) 13 := ⟨by decide +kernel, rfl⟩
theorem d_C_lay_13 : cd_D_if_ne b_C_lay 13 19 16 := ⟨6, by decide +kernel, by decide, rfl⟩
theorem d_C_lay_16 : cd_D 2 b_C_lay 16 (.ldc 62) 18 := ⟨by decide +kernel, rfl⟩
theorem d_C_lay_18 : cd_D 1 b_C_lay 18 .ireturn 19 := ⟨by decide +kernel, rfl⟩
theorem d_C_lay_19 : cd_D_iload b_C_lay 19 2 20 := Or.inr ⟨2, ⟨by decide +kernel, rfl⟩, rfl⟩
theorem d_C_lay_20 : cd_Dk b_C_lay 20 (nI 1) 21 := Or.inl ⟨1, ⟨by decide +kernel, rfl⟩, by decide +kernel⟩
theorem d_C_lay_21 : cd_D_icmp_ne b_C_lay 21 32 24 := ⟨11, by decide +kernel, by decide, rfl⟩
theorem d_C_lay_24 : cd_D_aload b_C_lay 24 0 25 := Or.inr ⟨0, ⟨by decide +kernel, rfl⟩, rfl⟩
theorem d_C_lay_25 : cd_D_iload b_C_lay 25 3 26 := Or.inr ⟨3, ⟨by decide +kernel, rfl⟩, rfl⟩
theorem d_C_lay_26 : cd_D 3 b_C_lay 26 (.invokevirtual 71) 29 := ⟨by decide +kernel, rfl⟩
theorem d_C_lay_29 : cd_D_if_eq b_C_lay 29 45 32 := ⟨16, by decide +kernel, by decide, rfl⟩
theorem d_C_lay_32 : cd_D_iload b_C_lay 32 2 33 := Or.inr ⟨2, ⟨by decide +kernel, rfl⟩, rfl⟩
theorem d_C_lay_33 : cd_Dk b_C_lay 33 (nI 2) 34 := Or.inl ⟨2, ⟨by decide +kernel, rfl⟩, by decide +kernel⟩
theorem d_C_lay_34 : cd_D_icmp_ne b_C_lay 34 48 37 := ⟨14, by decide +kernel, by decide, rfl⟩
theorem d_C_lay_37 : cd_D_iload b_C_lay 37 3 38 := Or.inr ⟨3, ⟨by decide +kernel, rfl⟩, rfl⟩
theorem d_C_lay_38 : cd_Dk b_C_lay 38 (nI 3) 39 := Or.inl ⟨3, ⟨by decide +kernel, rfl⟩, by decide +kernel⟩
theorem d_C_lay_39 : cd_D 3 b_C_lay 39 (.invokestatic 58) 42 := ⟨by decide +kernel, rfl⟩
theorem d_C_lay_42 : cd_D_if_ne b_C_lay 42 48 45 := ⟨6, by decide +kernel, by decide, rfl⟩
theorem d_C_lay_45 : cd_D 2 b_C_lay 45 (.ldc 62) 47 := ⟨by decide +kernel, rfl⟩
theorem d_C_lay_47 : cd_D 1 b_C_lay 47 .ireturn 48 := ⟨by decide +kernel, rfl⟩
theorem d_C_lay_48 : cd_D_iload b_C_lay 48 2 49 := Or.inr ⟨2, ⟨by decide +kernel, rfl⟩, rfl⟩
theorem d_C_lay_49 : cd_Dk b_C_lay 49 (nI 2) 50 := Or.inl ⟨2, ⟨by decide +kernel, rfl⟩, by decide +kernel⟩
theorem d_C_lay_50 : cd_D_icmp_ne b_C_lay 50 68 53 := ⟨18, by decide +kernel, by decide, rfl⟩
theorem d_C_lay_53 : cd_D_aload b_C_lay 53 0 54 := Or.inr ⟨0, ⟨by decide +kernel, rfl⟩, rfl⟩
theorem d_C_lay_54 : cd_D 3 b_C_lay 54 (.getfield 35) 57 := ⟨by decide +kernel, rfl⟩
theorem d_C_lay_57 : cd_D_iload b_C_lay 57 3 58 := Or.inr ⟨3, ⟨by decide +kernel, rfl⟩, rfl⟩
theorem d_C_lay_58 : cd_D 1 b_C_lay 58 .aaload 59 := ⟨by decide +kernel, rfl⟩
theorem d_C_lay_59 : cd_D 3 b_C_lay 59 (.invokevirtual 167) 62 := ⟨by decide +kernel, rfl⟩
theorem d_C_lay_62 : cd_D_if_eq b_C_lay 62 68 65 := ⟨6, by decide +kernel, by decide, rfl⟩
theorem d_C_lay_65 : cd_D 2 b_C_lay 65 (.ldc 171) 67 := ⟨by decide +kernel, rfl⟩
theorem d_C_lay_67 : cd_D 1 b_C_lay 67 .ireturn 68 := ⟨by decide +kernel, rfl⟩
theorem d_C_lay_68 : cd_D_aload b_C_lay 68 0 69 := Or.inr ⟨0, ⟨by decide +kernel, rfl⟩, rfl⟩
theorem d_C_lay_69 : cd_D 3 b_C_lay 69 (.getfield 41) 72 := ⟨by decide +kernel, rfl⟩
theorem d_C_lay_72 : cd_D_iload b_C_lay 72 1 73 := Or.inr ⟨1, ⟨by decide +kernel, rfl⟩, rfl⟩
theorem d_C_lay_73 : cd_D 1 b_C_lay 73 .aaload 74 := ⟨by decide +kernel, rfl⟩
theorem d_C_lay_74 : cd_D_astore b_C_lay 74 4 76 := Or.inl ⟨by decide +kernel, rfl⟩
theorem d_C_lay_76 : cd_D_aload b_C_lay 76 4 78 := Or.inl ⟨by decide +kernel, rfl⟩
theorem d_C_lay_78 : cd_D 3 b_C_lay 78 (.getfield 261) 81 := ⟨by decide +kernel, rfl⟩
theorem d_C_lay_81 : cd_D_istore b_C_lay 81 5 83 := Or.inl ⟨by decide +kernel, rfl⟩
theorem d_C_lay_83 : cd_D_aload b_C_lay 83 4 85 := Or.inl ⟨by decide +kernel, rfl⟩
theorem d_C_lay_85 : cd_D_iload b_C_lay 85 2 86 := Or.inr ⟨2, ⟨by decide +kernel, rfl⟩, rfl⟩
theorem d_C_lay_86 : cd_D 3 b_C_lay 86 (.putfield 261) 89 := ⟨by decide +kernel, rfl⟩
theorem d_C_lay_89 : cd_D_iload b_C_lay 89 2 90 := Or.inr ⟨2, ⟨by decide +kernel, rfl⟩, rfl⟩
theorem d_C_lay_90 : cd_Dk b_C_lay 90 (nI 1) 91 := Or.inl ⟨1, ⟨by decide +kernel, rfl⟩, by decide +kernel⟩
theorem d_C_lay_91 : cd_D_icmp_ne b_C_lay 91 114 94 := ⟨23, by decide +kernel, by decide, rfl⟩
theorem d_C_lay_94 : cd_D_aload b_C_lay 94 4 96 := Or.inl ⟨by decide +kernel, rfl⟩
theorem d_C_lay_96 : cd_D 3 b_C_lay 96 (.getfield 264) 99 := ⟨by decide +kernel, rfl⟩
theorem d_C_lay_99 : cd_D_aload b_C_lay 99 0 100 := Or.inr ⟨0, ⟨by decide +kernel, rfl⟩, rfl⟩
theorem d_C_lay_100 : cd_D 3 b_C_lay 100 (.getfield 10) 103 := ⟨by decide +kernel, rfl⟩
theorem d_C_lay_103 : cd_D 3 b_C_lay 103 (.getfield 75) 106 := ⟨by decide +kernel, rfl⟩
theorem d_C_lay_106 : cd_D_iload b_C_lay 106 3 107 := Or.inr ⟨3, ⟨by decide +kernel, rfl⟩, rfl⟩
theorem d_C_lay_107 : cd_D 1 b_C_lay 107 .aaload 108 := ⟨by decide +kernel, rfl⟩
theorem d_C_lay_108 : cd_D 3 b_C_lay 108 (.invokevirtual 268) 111 := ⟨by decide +kernel, rfl⟩
theorem d_C_lay_111 : cd_D_goto b_C_lay 111 142 := ⟨31, by decide +kernel, by decide⟩
theorem d_C_lay_114 : cd_D_iload b_C_lay 114 2 115 := Or.inr ⟨2, ⟨by decide +kernel, rfl⟩, rfl⟩
theorem d_C_lay_115 : cd_Dk b_C_lay 115 (nI 2) 116 := Or.inl ⟨2, ⟨by decide +kernel, rfl⟩, by decide +kernel⟩
theorem d_C_lay_116 : cd_D_icmp_ne b_C_lay 116 136 119 := ⟨20, by decide +kernel, by decide, rfl⟩
theorem d_C_lay_119 : cd_D_aload b_C_lay 119 4 121 := Or.inl ⟨by decide +kernel, rfl⟩
theorem d_C_lay_121 : cd_D 3 b_C_lay 121 (.getfield 271) 124 := ⟨by decide +kernel, rfl⟩
theorem d_C_lay_124 : cd_D_aload b_C_lay 124 0 125 := Or.inr ⟨0, ⟨by decide +kernel, rfl⟩, rfl⟩
theorem d_C_lay_125 : cd_D 3 b_C_lay 125 (.getfield 35) 128 := ⟨by decide +kernel, rfl⟩
theorem d_C_lay_128 : cd_D_iload b_C_lay 128 3 129 := Or.inr ⟨3, ⟨by decide +kernel, rfl⟩, rfl⟩
theorem d_C_lay_129 : cd_D 1 b_C_lay 129 .aaload 130 := ⟨by decide +kernel, rfl⟩
theorem d_C_lay_130 : cd_D 3 b_C_lay 130 (.invokevirtual 275) 133 := ⟨by decide +kernel, rfl⟩
theorem d_C_lay_133 : cd_D_goto b_C_lay 133 142 := ⟨9, by decide +kernel, by decide⟩
theorem d_C_lay_136 : cd_D_aload b_C_lay 136 4 138 := Or.inl ⟨by decide +kernel, rfl⟩
theorem d_C_lay_138 : cd_D_iload b_C_lay 138 3 139 := Or.inr ⟨3, ⟨by decide +kernel, rfl⟩, rfl⟩
theorem d_C_lay_139 : cd_D 3 b_C_lay 139 (.putfield 277) 142 := ⟨by decide +kernel, rfl⟩
theorem d_C_lay_142 : cd_D_iload b_C_lay 142 5 144 := Or.inl ⟨by decide +kernel, rfl⟩
theorem d_C_lay_144 : cd_D 1 b_C_lay 144 .ireturn 145 := ⟨by decide +kernel, rfl⟩
theorem c_C_lay {l : Launch} {w : cd_WT} {S : cd_Sp} {I : cd_Mem} (hC : cd_CD w S) {mm tc : Nat} {N : Nat → Int32} (hG : cd_HG w S I (w.1 + 1) N mm tc) {T : cd_Th3} (hS : cd_SR w I T.1 T.2.1 T.2.2) (hVS : cd_VS T.1 T.2.1) {L : cd_Th4} (hL : cd_LR w I L.1 L.2.1 L.2.2.1 L.2.2.2) (z y k : Int32) : cd_C l w m_C_lay 2 0 0 [.ref w.1, .int z, .int y, .int k] S I (cd_Psl w S I (sp_ly N T.1 T.2.1 T.2.2 L z y k)) := by
  refine cd_intro (by decide) (by simp [Value.category]) (Nat.le_of_ble_eq_true rfl) ?_
  intro X hO hE
  show cd_J w X 0 0 S I 0 [some (.ref w.1), some (.int z), some (.int y), some (.int k), none, none] []
  obtain ⟨hH, hhd, hV, hIV, hR⟩ := id hG
  have hmm := hV.2.1
  have hm1 : I (w.1 + 1) 3 = nI mm := (hR.at 1 (by omega) rfl rfl).trans hV.1
  refine r_iload hO d_C_lay_0 rfl ?_
  refine r_k hO d_C_lay_1 ?_
  refine r_cS2fi hO hE (c_C_isWithin _ _) mf_C_isWithin lk_C_58 (by decide) rfl (Nat.le_of_ble_eq_true rfl) d_C_lay_2 (Nat.zero_le _) (Nat.zero_le _) ?_
  refine r_if_eqB hO d_C_lay_5 (fun c_5 => ?_) (fun c_5 => ?_)
  · refine r_ldc hO k_C_62 d_C_lay_16 ?_
    refine r_iret hO hE (Nat.zero_le _) (Nat.zero_le _) d_C_lay_18 ?_
    exact cd_psl (by unfold sp_ly; rw [if_neg c_5]) hL (fun b hb => rfl)
  · obtain ⟨s, -, hs3, rfl⟩ := cd_in_ex c_5 (by decide) (by decide)
    obtain ⟨ha0, ha1, ha2, ha3⟩ := hL s (by omega)
    refine r_iload hO d_C_lay_8 rfl ?_
    refine r_k hO d_C_lay_9 ?_
    refine r_cS2fi hO hE (c_C_isWithin _ _) mf_C_isWithin lk_C_58 (by decide) rfl (Nat.le_of_ble_eq_true rfl) d_C_lay_10 (Nat.zero_le _) (Nat.zero_le _) ?_
    refine r_if_neB hO d_C_lay_13 (fun c_13 => ?_) (fun c_13 => ?_)
    · obtain ⟨t, -, ht3, rfl⟩ := cd_in_ex c_13 (by decide) (by decide)
      by_cases ht1 : t = 1
      · subst ht1
        refine r_iload hO d_C_lay_19 rfl ?_
        refine r_k hO d_C_lay_20 ?_
        refine r_icmp_ne hO d_C_lay_21 (fun c_21 => ?_) (fun c_21 => ?_)
        · exact absurd rfl c_21
        · refine r_aload hO d_C_lay_24 rfl ?_
          refine r_iload hO d_C_lay_25 rfl ?_
          refine r_cV1fi hO hE (c_C_isAsking hC hG _) mf_C_isAsking lk_C_71 hC.1 rfl (by decide) rfl (Nat.le_of_ble_eq_true rfl) d_C_lay_26 (Nat.zero_le _) (Nat.zero_le _) ?_
          try simp (disch := omega) only [cd_set_eq, cd_set_ne, cd_set_set]
          refine r_if_eqB hO d_C_lay_29 (fun c_29 => ?_) (fun c_29 => ?_)
          · refine r_ldc hO k_C_62 d_C_lay_45 ?_
            refine r_iret hO hE (Nat.zero_le _) (Nat.zero_le _) d_C_lay_47 ?_
            exact cd_psl (by unfold sp_ly; rw [if_pos c_5, if_pos c_13, if_pos rfl, if_neg c_29]) hL (fun b hb => rfl)
          · obtain ⟨i, hi, rfl⟩ := cd_isA_ex hV.1 hV.2.1 c_29
            refine r_iload hO d_C_lay_32 rfl ?_
            refine r_k hO d_C_lay_33 ?_
            refine r_icmp_ne hO d_C_lay_34 (fun c_34 => ?_) (fun c_34 => ?_)
            · refine r_iload hO d_C_lay_48 rfl ?_
              refine r_k hO d_C_lay_49 ?_
              refine r_icmp_ne hO d_C_lay_50 (fun c_50 => ?_) (fun c_50 => ?_)
              · refine r_aload hO d_C_lay_68 rfl ?_
                refine r_getR hO f_C_41 rfl hC.1 hC.2.2.2.2.2.2.1 d_C_lay_69 ?_
                try simp (disch := omega) only [cd_set_eq, cd_set_ne, cd_set_set]
                refine r_iload hO d_C_lay_72 rfl ?_
                refine r_aald (t := 7) hO hC.2.2.2.2.2.2.2.2.2.2.2.2.2.2.1 (by decide) (by decide) (by omega) (by decide) (hC.2.2.2.2.2.2.2.2.2.2.2.2.2.2.2.2.2.2 s (by omega)).1 d_C_lay_73 ?_
                refine r_sA4 hO d_C_lay_74 rfl ?_
                refine r_aload hO d_C_lay_76 rfl ?_
                refine r_getI hO f_C_261 rfl (hC.2.2.2.2.2.2.2.2.2.2.2.2.2.2.2.2.2.2 s (by omega)).2.1 d_C_lay_78 ?_
                try simp (disch := omega) only [cd_set_eq, cd_set_ne, cd_set_set]
                rw [ha0]
                refine r_sI5 hO d_C_lay_81 rfl ?_
                refine r_aload hO d_C_lay_83 rfl ?_
                refine r_iload hO d_C_lay_85 rfl ?_
                refine r_putI hO f_C_261 rfl (hC.2.2.2.2.2.2.2.2.2.2.2.2.2.2.2.2.2.2 s (by omega)).2.1 (Nat.le_trans (Nat.le_add_right _ _) (Nat.le_add_right _ _)) d_C_lay_86 ?_
                try simp (disch := omega) only [cd_set_eq, cd_set_ne, cd_set_set]
                refine r_iload hO d_C_lay_89 rfl ?_
                refine r_k hO d_C_lay_90 ?_
                refine r_icmp_ne hO d_C_lay_91 (fun c_91 => ?_) (fun c_91 => ?_)
                · exact absurd rfl c_91
                · refine r_aload hO d_C_lay_94 rfl ?_
                  refine r_getR hO f_C_264 rfl (hC.2.2.2.2.2.2.2.2.2.2.2.2.2.2.2.2.2.2 s (by omega)).2.1 (hC.2.2.2.2.2.2.2.2.2.2.2.2.2.2.2.2.2.2 s (by omega)).2.2.1 d_C_lay_96 ?_
                  try simp (disch := omega) only [cd_set_eq, cd_set_ne, cd_set_set]
                  refine r_aload hO d_C_lay_99 rfl ?_
                  refine r_getR hO f_C_10 rfl hC.1 hC.2.1 d_C_lay_100 ?_
                  try simp (disch := omega) only [cd_set_eq, cd_set_ne, cd_set_set]
                  refine r_getR hO f_C_75 rfl hH.2.1 hH.2.2.2.2.1.1 d_C_lay_103 ?_
                  try simp (disch := omega) only [cd_set_eq, cd_set_ne, cd_set_set]
                  refine r_iload hO d_C_lay_106 rfl ?_
                  refine r_aald (t := 4) hO hH.2.2.2.2.1.2 (by decide) (by decide) (by omega) (by decide) (hH.2.2.2.2.2.2.2 i (by omega)).1 d_C_lay_107 ?_
                  refine r_cV1fv hO hE (c_A_takes (hC.2.2.2.2.2.2.2.2.2.2.2.2.2.2.2.2.2.2 s (by omega)).2.2.2.2.1 (Nat.le_trans (Nat.le_add_right _ _) (Nat.le_add_right _ _)) ((hH.2.2.2.2.2.2.2 i (by omega)).2) (by omega)) mf_A_takes lk_C_268 (hC.2.2.2.2.2.2.2.2.2.2.2.2.2.2.2.2.2.2 s (by omega)).2.2.2.2.1 rfl (by decide) rfl (Nat.le_of_ble_eq_true rfl) d_C_lay_108 (Nat.zero_le _) (Nat.zero_le _) ?_
                  try simp (disch := omega) only [cd_set_eq, cd_set_ne, cd_set_set]
                  refine r_goto hO d_C_lay_111 ?_
                  refine r_iload hO d_C_lay_142 rfl ?_
                  refine r_iret hO hE (Nat.zero_le _) (Nat.zero_le _) d_C_lay_144 ?_
                  have q0 := hR.ask hi 0 (by decide)
                  have q2 := hR.ask hi 2 (by decide)
                  obtain ⟨kd, hk5, hkd⟩ := (hIV.1 i hi).1
                  refine cd_psl (L := cd_l4 L s (nI 1) (N (16 + 5 * i + 0)) (cd_wor (N (16 + 5 * i + 0)) (N (16 + 5 * i + 2)))) (by unfold sp_ly; rw [if_pos c_5, if_pos c_13, if_pos rfl, if_pos c_29, cd_tn_nI (show s < 2 ^ 31 by omega), cd_tn_nI (show i < 2 ^ 31 by omega)]) (cd_LR_u hL (s := s) (fun b hb => ?_) (fun q _ => rfl) ⟨?_, fun _ => ⟨?_, ?_, kd, hk5, hkd⟩, fun q => absurd q (by decide), fun q => absurd q (by decide)⟩) (fun b hb => ?_)
                  · rw [cd_set_ne _ _ (by omega), cd_set_ne _ _ (by omega)]
                  · rw [cd_set_ne _ _ (by omega), cd_set_eq]; rfl
                  · rw [cd_set_eq]; exact q0
                  · rw [cd_set_eq]
                    show cd_wor (I (w.1 + 1 + 6 + i) 0) (I (w.1 + 1 + 6 + i) 2) = _
                    rw [q0, q2]
                  · rw [cd_set_ne _ _ (by omega), cd_set_ne _ _ (by omega)]
              · exact absurd c_50 (by decide)
            · exact absurd c_34 (by decide)
      · by_cases ht2 : t = 2
        · subst ht2
          refine r_iload hO d_C_lay_19 rfl ?_
          refine r_k hO d_C_lay_20 ?_
          refine r_icmp_ne hO d_C_lay_21 (fun c_21 => ?_) (fun c_21 => ?_)
          · refine r_iload hO d_C_lay_32 rfl ?_
            refine r_k hO d_C_lay_33 ?_
            refine r_icmp_ne hO d_C_lay_34 (fun c_34 => ?_) (fun c_34 => ?_)
            · exact absurd rfl c_34
            · refine r_iload hO d_C_lay_37 rfl ?_
              refine r_k hO d_C_lay_38 ?_
              refine r_cS2fi hO hE (c_C_isWithin _ _) mf_C_isWithin lk_C_58 (by decide) rfl (Nat.le_of_ble_eq_true rfl) d_C_lay_39 (Nat.zero_le _) (Nat.zero_le _) ?_
              try simp (disch := omega) only [cd_set_eq, cd_set_ne, cd_set_set]
              refine r_if_neB hO d_C_lay_42 (fun c_42 => ?_) (fun c_42 => ?_)
              · obtain ⟨q, -, hq3, rfl⟩ := cd_in_ex c_42 (by decide) (by decide)
                obtain ⟨hs0, hs1, hs2⟩ := hS q (by omega)
                obtain ⟨nn, hn24, hsz, hso⟩ := hVS q (by omega)
                refine r_iload hO d_C_lay_48 rfl ?_
                refine r_k hO d_C_lay_49 ?_
                refine r_icmp_ne hO d_C_lay_50 (fun c_50 => ?_) (fun c_50 => ?_)
                · exact absurd rfl c_50
                · refine r_aload hO d_C_lay_53 rfl ?_
                  refine r_getR hO f_C_35 rfl hC.1 hC.2.2.2.2.2.1 d_C_lay_54 ?_
                  try simp (disch := omega) only [cd_set_eq, cd_set_ne, cd_set_set]
                  refine r_iload hO d_C_lay_57 rfl ?_
                  refine r_aald (t := 6) hO hC.2.2.2.2.2.2.2.2.2.2.2.2.2.1 (by decide) (by decide) (by omega) (by decide) (hC.2.2.2.2.2.2.2.2.2.2.2.2.2.2.2.2.2.1 q (by omega)).1 d_C_lay_58 ?_
                  refine r_cV0fi hO hE (c_S_isMissing (hC.2.2.2.2.2.2.2.2.2.2.2.2.2.2.2.2.2.1 q (by omega)).2 (Nat.le_trans (Nat.le_add_right _ _) (Nat.le_add_right _ _))) mf_S_isMissing lk_C_167 (hC.2.2.2.2.2.2.2.2.2.2.2.2.2.2.2.2.2.1 q (by omega)).2.1 rfl (by decide) rfl (Nat.le_of_ble_eq_true rfl) d_C_lay_59 (Nat.zero_le _) (Nat.zero_le _) ?_
                  rw [hs0]
                  try simp (disch := omega) only [cd_set_eq, cd_set_ne, cd_set_set]
                  refine r_if_eqB hO d_C_lay_62 (fun c_62 => ?_) (fun c_62 => ?_)
                  · refine r_aload hO d_C_lay_68 rfl ?_
                    refine r_getR hO f_C_41 rfl hC.1 hC.2.2.2.2.2.2.1 d_C_lay_69 ?_
                    try simp (disch := omega) only [cd_set_eq, cd_set_ne, cd_set_set]
                    refine r_iload hO d_C_lay_72 rfl ?_
                    refine r_aald (t := 7) hO hC.2.2.2.2.2.2.2.2.2.2.2.2.2.2.1 (by decide) (by decide) (by omega) (by decide) (hC.2.2.2.2.2.2.2.2.2.2.2.2.2.2.2.2.2.2 s (by omega)).1 d_C_lay_73 ?_
                    refine r_sA4 hO d_C_lay_74 rfl ?_
                    refine r_aload hO d_C_lay_76 rfl ?_
                    refine r_getI hO f_C_261 rfl (hC.2.2.2.2.2.2.2.2.2.2.2.2.2.2.2.2.2.2 s (by omega)).2.1 d_C_lay_78 ?_
                    try simp (disch := omega) only [cd_set_eq, cd_set_ne, cd_set_set]
                    rw [ha0]
                    refine r_sI5 hO d_C_lay_81 rfl ?_
                    refine r_aload hO d_C_lay_83 rfl ?_
                    refine r_iload hO d_C_lay_85 rfl ?_
                    refine r_putI hO f_C_261 rfl (hC.2.2.2.2.2.2.2.2.2.2.2.2.2.2.2.2.2.2 s (by omega)).2.1 (Nat.le_trans (Nat.le_add_right _ _) (Nat.le_add_right _ _)) d_C_lay_86 ?_
                    try simp (disch := omega) only [cd_set_eq, cd_set_ne, cd_set_set]
                    refine r_iload hO d_C_lay_89 rfl ?_
                    refine r_k hO d_C_lay_90 ?_
                    refine r_icmp_ne hO d_C_lay_91 (fun c_91 => ?_) (fun c_91 => ?_)
                    · refine r_iload hO d_C_lay_114 rfl ?_
                      refine r_k hO d_C_lay_115 ?_
                      refine r_icmp_ne hO d_C_lay_116 (fun c_116 => ?_) (fun c_116 => ?_)
                      · exact absurd rfl c_116
                      · refine r_aload hO d_C_lay_119 rfl ?_
                        refine r_getR hO f_C_271 rfl (hC.2.2.2.2.2.2.2.2.2.2.2.2.2.2.2.2.2.2 s (by omega)).2.1 (hC.2.2.2.2.2.2.2.2.2.2.2.2.2.2.2.2.2.2 s (by omega)).2.2.2.1 d_C_lay_121 ?_
                        try simp (disch := omega) only [cd_set_eq, cd_set_ne, cd_set_set]
                        refine r_aload hO d_C_lay_124 rfl ?_
                        refine r_getR hO f_C_35 rfl hC.1 hC.2.2.2.2.2.1 d_C_lay_125 ?_
                        try simp (disch := omega) only [cd_set_eq, cd_set_ne, cd_set_set]
                        refine r_iload hO d_C_lay_128 rfl ?_
                        refine r_aald (t := 6) hO hC.2.2.2.2.2.2.2.2.2.2.2.2.2.1 (by decide) (by decide) (by omega) (by decide) (hC.2.2.2.2.2.2.2.2.2.2.2.2.2.2.2.2.2.1 q (by omega)).1 d_C_lay_129 ?_
                        refine r_cV1fv hO hE (c_S_takes (hC.2.2.2.2.2.2.2.2.2.2.2.2.2.2.2.2.2.2 s (by omega)).2.2.2.2.2 (Nat.le_trans (Nat.le_add_right _ _) (Nat.le_add_right _ _)) (hC.2.2.2.2.2.2.2.2.2.2.2.2.2.2.2.2.2.1 q (by omega)).2 (by omega)) mf_S_takes lk_C_275 (hC.2.2.2.2.2.2.2.2.2.2.2.2.2.2.2.2.2.2 s (by omega)).2.2.2.2.2.1 rfl (by decide) rfl (Nat.le_of_ble_eq_true rfl) d_C_lay_130 (Nat.zero_le _) (Nat.zero_le _) ?_
                        try simp (disch := omega) only [cd_set_eq, cd_set_ne, cd_set_set]
                        refine r_goto hO d_C_lay_133 ?_
                        refine r_iload hO d_C_lay_142 rfl ?_
                        refine r_iret hO hE (Nat.zero_le _) (Nat.zero_le _) d_C_lay_144 ?_
                        refine cd_psl (L := (upd L.1 s (nI 2), upd L.2.1 s (T.2.1 q), upd L.2.2.1 s (nI 0), cd_rg L.2.2.2 (24 * s) 24 (fun i => T.2.2 (24 * q + i)))) (by unfold sp_ly; rw [if_pos c_5, if_pos c_13, if_neg (by decide), if_pos rfl, if_pos c_42, cd_tn_nI (show q < 2 ^ 31 by omega), if_pos ((cd_so0 hso).mpr c_62), cd_tn_nI (show s < 2 ^ 31 by omega)]) (cd_LR_u hL (s := s) (fun b hb => ?_) (fun z hz => if_neg hz) ⟨?_, fun z => absurd z (by decide), fun _ => ⟨?_, fun k hk => ?_⟩, fun z => absurd z (by decide)⟩) (fun b hb => ?_)
                        · rw [cd_set_ne _ _ (by omega), cd_set_ne _ _ (by omega), cd_set_ne _ _ (by omega)]
                        · rw [cd_set_ne _ _ (by omega), cd_set_ne _ _ (by omega), cd_set_eq]; rfl
                        · rw [cd_set_ne _ _ (by omega), cd_set_eq]; exact hs1
                        · rw [cd_set_eq]
                          show va_cpy (I (w.1 + 62 + 2 * q + 1)) (I (w.1 + 72 + 4 * s + 1)) 0 0 24 k = cd_rg L.2.2.2 (24 * s) 24 (fun i => T.2.2 (24 * q + i)) (24 * s + k)
                          unfold va_cpy cd_rg
                          rw [if_pos (by omega), if_pos (by omega)]
                          rw [show 0 + (k - 0) = k by omega, hs2 k hk, show 24 * s + k - 24 * s = k by omega]
                        · rw [cd_set_ne _ _ (by omega), cd_set_ne _ _ (by omega), cd_set_ne _ _ (by omega)]
                    · exact absurd c_91 (by decide)
                  · refine r_ldc hO k_C_171 d_C_lay_65 ?_
                    refine r_iret hO hE (Nat.zero_le _) (Nat.zero_le _) d_C_lay_67 ?_
                    exact cd_psl (by unfold sp_ly; rw [if_pos c_5, if_pos c_13, if_neg (by decide), if_pos rfl, if_pos c_42, cd_tn_nI (show q < 2 ^ 31 by omega), if_neg (fun z => (cd_so0 hso).mp z c_62)]) hL (fun b hb => rfl)
              · refine r_ldc hO k_C_62 d_C_lay_45 ?_
                refine r_iret hO hE (Nat.zero_le _) (Nat.zero_le _) d_C_lay_47 ?_
                exact cd_psl (by unfold sp_ly; rw [if_pos c_5, if_pos c_13, if_neg (by decide), if_pos rfl, if_neg c_42]) hL (fun b hb => rfl)
          · exact absurd c_21 (by decide)
        · have hn1 : ¬ nI t = nI 1 := fun z => ht1 ((nI_eq (by omega) (by omega)).mp z)
          have hn2 : ¬ nI t = nI 2 := fun z => ht2 ((nI_eq (by omega) (by omega)).mp z)
          refine r_iload hO d_C_lay_19 rfl ?_
          refine r_k hO d_C_lay_20 ?_
          refine r_icmp_ne hO d_C_lay_21 (fun c_21 => ?_) (fun c_21 => ?_)
          · refine r_iload hO d_C_lay_32 rfl ?_
            refine r_k hO d_C_lay_33 ?_
            refine r_icmp_ne hO d_C_lay_34 (fun c_34 => ?_) (fun c_34 => ?_)
            · refine r_iload hO d_C_lay_48 rfl ?_
              refine r_k hO d_C_lay_49 ?_
              refine r_icmp_ne hO d_C_lay_50 (fun c_50 => ?_) (fun c_50 => ?_)
              · refine r_aload hO d_C_lay_68 rfl ?_
                refine r_getR hO f_C_41 rfl hC.1 hC.2.2.2.2.2.2.1 d_C_lay_69 ?_
                refine r_iload hO d_C_lay_72 rfl ?_
                refine r_aald (t := 7) hO hC.2.2.2.2.2.2.2.2.2.2.2.2.2.2.1 (by decide) (by decide) (by omega) (by decide) (hC.2.2.2.2.2.2.2.2.2.2.2.2.2.2.2.2.2.2 s (by omega)).1 d_C_lay_73 ?_
                refine r_sA4 hO d_C_lay_74 rfl ?_
                refine r_aload hO d_C_lay_76 rfl ?_
                refine r_getI hO f_C_261 rfl (hC.2.2.2.2.2.2.2.2.2.2.2.2.2.2.2.2.2.2 s (by omega)).2.1 d_C_lay_78 ?_
                rw [ha0]
                refine r_sI5 hO d_C_lay_81 rfl ?_
                refine r_aload hO d_C_lay_83 rfl ?_
                refine r_iload hO d_C_lay_85 rfl ?_
                refine r_putI hO f_C_261 rfl (hC.2.2.2.2.2.2.2.2.2.2.2.2.2.2.2.2.2.2 s (by omega)).2.1 (Nat.le_trans (Nat.le_add_right _ _) (Nat.le_add_right _ _)) d_C_lay_86 ?_
                refine r_iload hO d_C_lay_89 rfl ?_
                refine r_k hO d_C_lay_90 ?_
                refine r_icmp_ne hO d_C_lay_91 (fun c_91 => ?_) (fun c_91 => ?_)
                · refine r_iload hO d_C_lay_114 rfl ?_
                  refine r_k hO d_C_lay_115 ?_
                  refine r_icmp_ne hO d_C_lay_116 (fun c_116 => ?_) (fun c_116 => ?_)
                  · refine r_aload hO d_C_lay_136 rfl ?_
                    refine r_iload hO d_C_lay_138 rfl ?_
                    refine r_putI hO f_C_277 rfl (hC.2.2.2.2.2.2.2.2.2.2.2.2.2.2.2.2.2.2 s (by omega)).2.1 (Nat.le_trans (Nat.le_add_right _ _) (Nat.le_add_right _ _)) d_C_lay_139 ?_
                    try simp (disch := omega) only [cd_set_eq, cd_set_ne, cd_set_set]
                    refine r_iload hO d_C_lay_142 rfl ?_
                    refine r_iret hO hE (Nat.zero_le _) (Nat.zero_le _) d_C_lay_144 ?_
                    refine cd_psl (L := cd_l4 L s (nI t) k (nI 0)) (by unfold sp_ly; rw [if_pos c_5, if_pos c_13, if_neg hn1, if_neg hn2, cd_tn_nI (show s < 2 ^ 31 by omega)]) (cd_LR_u hL (s := s) (fun b hb => ?_) (fun q _ => rfl) ⟨?_, fun z => absurd z hn1, fun z => absurd z hn2, fun _ => ?_⟩) (fun b hb => ?_)
                    · rw [cd_set_ne _ _ (by omega)]
                    · rw [cd_set_eq]; rfl
                    · rw [cd_set_eq]; rfl
                    · rw [cd_set_ne _ _ (by omega)]
                  · exact absurd c_116 hn2
                · exact absurd c_91 hn1
              · exact absurd c_50 hn2
            · exact absurd c_34 hn2
          · exact absurd c_21 hn1
    · refine r_ldc hO k_C_62 d_C_lay_16 ?_
      refine r_iret hO hE (Nat.zero_le _) (Nat.zero_le _) d_C_lay_18 ?_
      exact cd_psl (by unfold sp_ly; rw [if_pos c_5, if_neg c_13]) hL (fun b hb => rfl)
