def cd_mt3 (T : cd_Th3) (s p : Nat) (v : Int32) : Int32 × cd_Th3 := (nI 1, T.1, T.2.1, upd T.2.2 (24 * s + p) (if T.1 s = 0 then v.toInt16.toInt32 else v))
def cd_m63 (T : cd_Th3) (s p : Nat) (v : Int32) : Int32 × cd_Th3 := if T.1 s = nI 1 then (if v = cd_NONE then cd_mt3 T s p v else if (-99999) ≤ v ∧ v ≤ 99999 then cd_mt3 T s p v else (cd_BAD, T)) else cd_mt3 T s p v
def sp_mk (T : cd_Th3) (s p v : Int32) : Int32 × cd_Th3 := if nI 0 ≤ s ∧ s ≤ nI 3 then (if 0 ≤ T.1 (cd_tn s) then (if nI 0 ≤ p ∧ p ≤ T.2.1 (cd_tn s) - nI 1 then (if T.1 (cd_tn s) = 0 then (if v = cd_NONE then (cd_KIND, T) else cd_m63 T (cd_tn s) (cd_tn p) v) else cd_m63 T (cd_tn s) (cd_tn p) v) else (cd_INDEX, T)) else (cd_NOTHING, T)) else (cd_BAD, T)
theorem cd_mst_3 (I : cd_Mem) (m s p : Nat) (v : Int32) : cd_mst I m s p v = ((cd_mt3 (cd_g3 I m) s p v).1, cd_m3 I m (cd_mt3 (cd_g3 I m) s p v).2) := by
  unfold cd_mst cd_mt3 cd_m3 cd_g3
  simp only [cd_set_self]
theorem cd_m60_3 (I : cd_Mem) (m s p : Nat) (v : Int32) : cd_m60 I m s p v = ((cd_m63 (cd_g3 I m) s p v).1, cd_m3 I m (cd_m63 (cd_g3 I m) s p v).2) := by
  unfold cd_m60 cd_m63
  rw [cd_mst_3, show (cd_g3 I m).1 = I (m + 13) from rfl]
  by_cases h1 : I (m + 13) s = nI 1
  · simp only [if_pos h1]
    by_cases h2 : v = cd_NONE
    · simp only [if_pos h2]
    · simp only [if_neg h2]
      by_cases h3 : (-99999) ≤ v ∧ v ≤ 99999
      · simp only [if_pos h3]
      · simp only [if_neg h3, cd_m3_self]
  · simp only [if_neg h1]
theorem sp_mark_3 (I : cd_Mem) (m : Nat) (s p v : Int32) : sp_mark I m s p v = ((sp_mk (cd_g3 I m) s p v).1, cd_m3 I m (sp_mk (cd_g3 I m) s p v).2) := by
  unfold sp_mark sp_mk
  rw [cd_m60_3, show (cd_g3 I m).1 = I (m + 13) from rfl, show (cd_g3 I m).2.1 = I (m + 14) from rfl]
  by_cases h1 : nI 0 ≤ s ∧ s ≤ nI 3
  · simp only [if_pos h1]
    by_cases h2 : 0 ≤ I (m + 13) (cd_tn s)
    · simp only [if_pos h2]
      by_cases h3 : nI 0 ≤ p ∧ p ≤ I (m + 14) (cd_tn s) - nI 1
      · simp only [if_pos h3]
        by_cases h4 : I (m + 13) (cd_tn s) = 0
        · simp only [if_pos h4]
          by_cases h5 : v = cd_NONE
          · simp only [if_pos h5, cd_m3_self]
          · simp only [if_neg h5]
        · simp only [if_neg h4]
      · simp only [if_neg h3, cd_m3_self]
    · simp only [if_neg h2, cd_m3_self]
  · simp only [if_neg h1, cd_m3_self]
theorem cd_isP_lt {x a : Int32} {tc : Nat} (h1 : x = nI tc) (hm : tc ≤ 24) : (nI 0 ≤ a ∧ a ≤ x - nI 1) ↔ ¬ a < 0 ∧ ¬ nI tc ≤ a := by
  subst h1
  have e0 : (nI 0).toInt = 0 := rfl
  have e00 : (0 : Int32).toInt = 0 := rfl
  have e1 : (nI tc - nI 1).toInt = (tc : Int) - 1 := pk_sub_toInt (by omega) (by omega)
  have e2 : (nI tc).toInt = tc := nI_toInt (by omega)
  simp only [Int32.lt_iff_toInt_lt, Int32.le_iff_toInt_le]
  omega
theorem cd_SR_p {w : cd_WT} {I : cd_Mem} {so sz ce : Nat → Int32} {s j : Nat} {u : Int32} (hS : cd_SR w I so sz ce) (hs : s < 4) (hj : j < 24) : cd_SR w (cd_set I (w.1 + 62 + 2 * s + 1) (upd (I (w.1 + 62 + 2 * s + 1)) j u)) so sz (upd ce (24 * s + j) u) := by
  intro s' hs'
  obtain ⟨a, b, c⟩ := hS s' hs'
  refine ⟨by rw [cd_set_ne _ _ (by omega)]; exact a, by rw [cd_set_ne _ _ (by omega)]; exact b, fun k hk => ?_⟩
  by_cases e : s' = s
  · subst e
    rw [cd_set_eq]
    unfold upd
    by_cases ek : k = j
    · rw [if_pos ek, if_pos (by omega)]
    · rw [if_neg ek, if_neg (by omega)]
      exact c k hk
  · rw [cd_set_ne _ _ (by omega), c k hk]
    unfold upd
    rw [if_neg (by omega)]
theorem d_C_mark_0 : cd_D_iload b_C_mark 0 1 1 := Or.inr ⟨1, ⟨by decide +kernel, rfl⟩, rfl⟩
theorem d_C_mark_1 : cd_Dk b_C_mark 1 (nI 3) 2 := Or.inl ⟨3, ⟨by decide +kernel, rfl⟩, by decide +kernel⟩
theorem d_C_mark_2 : cd_D 3 b_C_mark 2 (.invokestatic 58) 5 := ⟨by decide +kernel, rfl⟩
theorem d_C_mark_5 : cd_D_if_ne b_C_mark 5 11 8 := ⟨6, by decide +kernel, by decide, rfl⟩
theorem d_C_mark_8 : cd_D 2 b_C_mark 8 (.ldc 62) 10 := ⟨by decide +kernel, rfl⟩
theorem d_C_mark_10 : cd_D 1 b_C_mark 10 .ireturn 11 := ⟨by decide +kernel, rfl⟩
theorem d_C_mark_11 : cd_D_aload b_C_mark 11 0 12 := Or.inr ⟨0, ⟨by decide +kernel, rfl⟩, rfl⟩
theorem d_C_mark_12 : cd_D 3 b_C_mark 12 (.getfield 35) 15 := ⟨by decide +kernel, rfl⟩
theorem d_C_mark_15 : cd_D_iload b_C_mark 15 1 16 := Or.inr ⟨1, ⟨by decide +kernel, rfl⟩, rfl⟩
theorem d_C_mark_16 : cd_D 1 b_C_mark 16 .aaload 17 := ⟨by decide +kernel, rfl⟩
theorem d_C_mark_17 : cd_D_astore b_C_mark 17 4 19 := Or.inl ⟨by decide +kernel, rfl⟩
theorem d_C_mark_19 : cd_D_aload b_C_mark 19 4 21 := Or.inl ⟨by decide +kernel, rfl⟩
theorem d_C_mark_21 : cd_D 3 b_C_mark 21 (.invokevirtual 167) 24 := ⟨by decide +kernel, rfl⟩
theorem d_C_mark_24 : cd_D_if_eq b_C_mark 24 30 27 := ⟨6, by decide +kernel, by decide, rfl⟩
theorem d_C_mark_27 : cd_D 2 b_C_mark 27 (.ldc 171) 29 := ⟨by decide +kernel, rfl⟩
theorem d_C_mark_29 : cd_D 1 b_C_mark 29 .ireturn 30 := ⟨by decide +kernel, rfl⟩
theorem d_C_mark_30 : cd_D_aload b_C_mark 30 4 32 := Or.inl ⟨by decide +kernel, rfl⟩
theorem d_C_mark_32 : cd_D_iload b_C_mark 32 2 33 := Or.inr ⟨2, ⟨by decide +kernel, rfl⟩, rfl⟩
theorem d_C_mark_33 : cd_D 3 b_C_mark 33 (.invokevirtual 240) 36 := ⟨by decide +kernel, rfl⟩
theorem d_C_mark_36 : cd_D_if_ne b_C_mark 36 42 39 := ⟨6, by decide +kernel, by decide, rfl⟩
theorem d_C_mark_39 : cd_D 2 b_C_mark 39 (.ldc 243) 41 := ⟨by decide +kernel, rfl⟩
theorem d_C_mark_41 : cd_D 1 b_C_mark 41 .ireturn 42 := ⟨by decide +kernel, rfl⟩
theorem d_C_mark_42 : cd_D_aload b_C_mark 42 4 44 := Or.inl ⟨by decide +kernel, rfl⟩
theorem d_C_mark_44 : cd_D 3 b_C_mark 44 (.getfield 244) 47 := ⟨by decide +kernel, rfl⟩
theorem d_C_mark_47 : cd_D_if_ne b_C_mark 47 70 50 := ⟨23, by decide +kernel, by decide, rfl⟩
theorem d_C_mark_50 : cd_D_iload b_C_mark 50 3 51 := Or.inr ⟨3, ⟨by decide +kernel, rfl⟩, rfl⟩
theorem d_C_mark_51 : cd_D 2 b_C_mark 51 (.ldc 160) 53 := ⟨by decide +kernel, rfl⟩
theorem d_C_mark_53 : cd_D_icmp_ne b_C_mark 53 59 56 := ⟨6, by decide +kernel, by decide, rfl⟩
theorem d_C_mark_56 : cd_D 2 b_C_mark 56 (.ldc 119) 58 := ⟨by decide +kernel, rfl⟩
theorem d_C_mark_58 : cd_D 1 b_C_mark 58 .ireturn 59 := ⟨by decide +kernel, rfl⟩
theorem d_C_mark_59 : cd_D_aload b_C_mark 59 4 61 := Or.inl ⟨by decide +kernel, rfl⟩
theorem d_C_mark_61 : cd_D 3 b_C_mark 61 (.getfield 182) 64 := ⟨by decide +kernel, rfl⟩
theorem d_C_mark_64 : cd_D_iload b_C_mark 64 2 65 := Or.inr ⟨2, ⟨by decide +kernel, rfl⟩, rfl⟩
theorem d_C_mark_65 : cd_D_iload b_C_mark 65 3 66 := Or.inr ⟨3, ⟨by decide +kernel, rfl⟩, rfl⟩
theorem d_C_mark_66 : cd_D 1 b_C_mark 66 .i2s 67 := ⟨by decide +kernel, rfl⟩
theorem d_C_mark_67 : cd_D 1 b_C_mark 67 .iastore 68 := ⟨by decide +kernel, rfl⟩
theorem d_C_mark_68 : cd_Dk b_C_mark 68 (nI 1) 69 := Or.inl ⟨1, ⟨by decide +kernel, rfl⟩, by decide +kernel⟩
theorem d_C_mark_69 : cd_D 1 b_C_mark 69 .ireturn 70 := ⟨by decide +kernel, rfl⟩
theorem d_C_mark_70 : cd_D_iload b_C_mark 70 3 71 := Or.inr ⟨3, ⟨by decide +kernel, rfl⟩, rfl⟩
theorem d_C_mark_71 : cd_D 2 b_C_mark 71 (.ldc 160) 73 := ⟨by decide +kernel, rfl⟩
theorem d_C_mark_73 : cd_D_icmp_eq b_C_mark 73 91 76 := ⟨18, by decide +kernel, by decide, rfl⟩
theorem d_C_mark_76 : cd_D_iload b_C_mark 76 3 77 := Or.inr ⟨3, ⟨by decide +kernel, rfl⟩, rfl⟩
theorem d_C_mark_77 : cd_D 2 b_C_mark 77 (.ldc 247) 79 := ⟨by decide +kernel, rfl⟩
theorem d_C_mark_79 : cd_D_icmp_lt b_C_mark 79 88 82 := ⟨9, by decide +kernel, by decide, rfl⟩
theorem d_C_mark_82 : cd_D_iload b_C_mark 82 3 83 := Or.inr ⟨3, ⟨by decide +kernel, rfl⟩, rfl⟩
theorem d_C_mark_83 : cd_D 2 b_C_mark 83 (.ldc 248) 85 := ⟨by decide +kernel, rfl⟩
theorem d_C_mark_85 : cd_D_icmp_le b_C_mark 85 91 88 := ⟨6, by decide +kernel, by decide, rfl⟩
theorem d_C_mark_88 : cd_D 2 b_C_mark 88 (.ldc 62) 90 := ⟨by decide +kernel, rfl⟩
theorem d_C_mark_90 : cd_D 1 b_C_mark 90 .ireturn 91 := ⟨by decide +kernel, rfl⟩
theorem d_C_mark_91 : cd_D_aload b_C_mark 91 4 93 := Or.inl ⟨by decide +kernel, rfl⟩
theorem d_C_mark_93 : cd_D 3 b_C_mark 93 (.getfield 182) 96 := ⟨by decide +kernel, rfl⟩
theorem d_C_mark_96 : cd_D_iload b_C_mark 96 2 97 := Or.inr ⟨2, ⟨by decide +kernel, rfl⟩, rfl⟩
theorem d_C_mark_97 : cd_D_iload b_C_mark 97 3 98 := Or.inr ⟨3, ⟨by decide +kernel, rfl⟩, rfl⟩
theorem d_C_mark_98 : cd_D 1 b_C_mark 98 .iastore 99 := ⟨by decide +kernel, rfl⟩
theorem d_C_mark_99 : cd_Dk b_C_mark 99 (nI 1) 100 := Or.inl ⟨1, ⟨by decide +kernel, rfl⟩, by decide +kernel⟩
theorem d_C_mark_100 : cd_D 1 b_C_mark 100 .ireturn 101 := ⟨by decide +kernel, rfl⟩
theorem c_C_mark {l : Launch} {w : cd_WT} {S : cd_Sp} {I : cd_Mem} (hC : cd_CD w S) {T : cd_Th3} (hS : cd_SR w I T.1 T.2.1 T.2.2) (hVS : cd_VS T.1 T.2.1) (z p v : Int32) : cd_C l w m_C_mark 1 0 0 [.ref w.1, .int z, .int p, .int v] S I (cd_Psh w S I (sp_mk T z p v)) := by
  refine cd_intro (by decide) (by simp [Value.category]) (Nat.le_of_ble_eq_true rfl) ?_
  intro X hO hE
  show cd_J w X 0 0 S I 0 [some (.ref w.1), some (.int z), some (.int p), some (.int v), none] []
  refine r_iload hO d_C_mark_0 rfl ?_
  refine r_k hO d_C_mark_1 ?_
  refine r_cS2fi hO hE (c_C_isWithin _ _) mf_C_isWithin lk_C_58 (by decide) rfl (Nat.le_of_ble_eq_true rfl) d_C_mark_2 (Nat.zero_le _) (Nat.zero_le _) ?_
  refine r_if_neB hO d_C_mark_5 (fun c_5 => ?_) (fun c_5 => ?_)
  · obtain ⟨s, -, hs3, rfl⟩ := cd_in_ex c_5 (by decide) (by decide)
    obtain ⟨hs0, hs1, hs2⟩ := hS s (by omega)
    obtain ⟨n, hn24, hsz, hso⟩ := hVS s (by omega)
    refine r_aload hO d_C_mark_11 rfl ?_
    refine r_getR hO f_C_35 rfl hC.1 hC.2.2.2.2.2.1 d_C_mark_12 ?_
    refine r_iload hO d_C_mark_15 rfl ?_
    refine r_aald (t := 6) hO hC.2.2.2.2.2.2.2.2.2.2.2.2.2.1 (by decide) (by decide) (by omega) (by decide) (hC.2.2.2.2.2.2.2.2.2.2.2.2.2.2.2.2.2.1 _ (by omega)).1 d_C_mark_16 ?_
    refine r_sA4 hO d_C_mark_17 rfl ?_
    refine r_aload hO d_C_mark_19 rfl ?_
    refine r_cV0fi hO hE (c_S_isMissing (hC.2.2.2.2.2.2.2.2.2.2.2.2.2.2.2.2.2.1 _ (by omega)).2 (Nat.le_trans (Nat.le_add_right _ _) (Nat.le_add_right _ _))) mf_S_isMissing lk_C_167 (hC.2.2.2.2.2.2.2.2.2.2.2.2.2.2.2.2.2.1 _ (by omega)).2.1 rfl (by decide) rfl (Nat.le_of_ble_eq_true rfl) d_C_mark_21 (Nat.zero_le _) (Nat.zero_le _) ?_
    rw [hs0]
    refine r_if_eqB hO d_C_mark_24 (fun c_24 => ?_) (fun c_24 => ?_)
    · refine r_aload hO d_C_mark_30 rfl ?_
      refine r_iload hO d_C_mark_32 rfl ?_
      refine r_cV1fi hO hE (c_S_hasPlace (hC.2.2.2.2.2.2.2.2.2.2.2.2.2.2.2.2.2.1 _ (by omega)).2 (Nat.le_trans (Nat.le_add_right _ _) (Nat.le_add_right _ _)) _) mf_S_hasPlace lk_C_240 (hC.2.2.2.2.2.2.2.2.2.2.2.2.2.2.2.2.2.1 _ (by omega)).2.1 rfl (by decide) rfl (Nat.le_of_ble_eq_true rfl) d_C_mark_33 (Nat.zero_le _) (Nat.zero_le _) ?_
      rw [hs1, hsz]
      refine r_if_neB hO d_C_mark_36 (fun c_36 => ?_) (fun c_36 => ?_)
      · have hpp := (cd_isP_lt hsz hn24).mpr c_36
        obtain ⟨j, hj, rfl⟩ := cd_lt_ex c_36.1 (show p < nI n from Int32.not_le.mp c_36.2) (by omega)
        refine r_aload hO d_C_mark_42 rfl ?_
        refine r_getI hO f_C_244 rfl (hC.2.2.2.2.2.2.2.2.2.2.2.2.2.2.2.2.2.1 _ (by omega)).2.1 d_C_mark_44 ?_
        rw [hs0]
        refine r_if_ne hO d_C_mark_47 (fun c_47 => ?_) (fun c_47 => ?_)
        · have hs1b : T.1 s = nI 1 := (hso.resolve_left c_24).resolve_left c_47
          refine r_iload hO d_C_mark_70 rfl ?_
          refine r_ldc hO k_C_160 d_C_mark_71 ?_
          refine r_icmp_eq hO d_C_mark_73 (fun c_73 => ?_) (fun c_73 => ?_)
          · refine r_aload hO d_C_mark_91 rfl ?_
            refine r_getR hO f_C_182 rfl (hC.2.2.2.2.2.2.2.2.2.2.2.2.2.2.2.2.2.1 _ (by omega)).2.1 (hC.2.2.2.2.2.2.2.2.2.2.2.2.2.2.2.2.2.1 _ (by omega)).2.2.1 d_C_mark_93 ?_
            refine r_iload hO d_C_mark_96 rfl ?_
            refine r_iload hO d_C_mark_97 rfl ?_
            refine r_iast hO (hC.2.2.2.2.2.2.2.2.2.2.2.2.2.2.2.2.2.1 _ (by omega)).2.2.2 (Nat.le_trans (Nat.le_add_right _ _) (Nat.le_trans (Nat.le_add_right _ _) (Nat.le_add_right _ _))) (by omega) (by decide) d_C_mark_98 ?_
            refine r_k hO d_C_mark_99 ?_
            refine r_iret hO hE (Nat.zero_le _) (Nat.zero_le _) d_C_mark_100 ?_
            exact cd_psh (by unfold sp_mk; rw [if_pos c_5, cd_tn_nI (show s < 2 ^ 31 by omega), if_pos ((cd_so0 hso).mpr c_24), if_pos hpp, if_neg c_47, cd_tn_nI (show j < 2 ^ 31 by omega)]; unfold cd_m63; rw [if_pos hs1b, if_pos c_73]; unfold cd_mt3; rw [if_neg c_47]) (cd_SR_p (s := s) (j := j) hS (by omega) (by omega)) (fun b hb => cd_set_ne _ _ (by omega))
          · refine r_iload hO d_C_mark_76 rfl ?_
            refine r_ldc hO k_C_247 d_C_mark_77 ?_
            refine r_icmp_lt hO d_C_mark_79 (fun c_79 => ?_) (fun c_79 => ?_)
            · refine r_ldc hO k_C_62 d_C_mark_88 ?_
              refine r_iret hO hE (Nat.zero_le _) (Nat.zero_le _) d_C_mark_90 ?_
              exact cd_psh (by unfold sp_mk; rw [if_pos c_5, cd_tn_nI (show s < 2 ^ 31 by omega), if_pos ((cd_so0 hso).mpr c_24), if_pos hpp, if_neg c_47, cd_tn_nI (show j < 2 ^ 31 by omega)]; unfold cd_m63; rw [if_pos hs1b, if_neg c_73, if_neg (by rintro ⟨q1, q2⟩; simp only [Int32.lt_iff_toInt_lt, Int32.le_iff_toInt_le] at *; omega)]) hS (fun b hb => rfl)
            · refine r_iload hO d_C_mark_82 rfl ?_
              refine r_ldc hO k_C_248 d_C_mark_83 ?_
              refine r_icmp_le hO d_C_mark_85 (fun c_85 => ?_) (fun c_85 => ?_)
              · refine r_aload hO d_C_mark_91 rfl ?_
                refine r_getR hO f_C_182 rfl (hC.2.2.2.2.2.2.2.2.2.2.2.2.2.2.2.2.2.1 _ (by omega)).2.1 (hC.2.2.2.2.2.2.2.2.2.2.2.2.2.2.2.2.2.1 _ (by omega)).2.2.1 d_C_mark_93 ?_
                refine r_iload hO d_C_mark_96 rfl ?_
                refine r_iload hO d_C_mark_97 rfl ?_
                refine r_iast hO (hC.2.2.2.2.2.2.2.2.2.2.2.2.2.2.2.2.2.1 _ (by omega)).2.2.2 (Nat.le_trans (Nat.le_add_right _ _) (Nat.le_trans (Nat.le_add_right _ _) (Nat.le_add_right _ _))) (by omega) (by decide) d_C_mark_98 ?_
                refine r_k hO d_C_mark_99 ?_
                refine r_iret hO hE (Nat.zero_le _) (Nat.zero_le _) d_C_mark_100 ?_
                exact cd_psh (by unfold sp_mk; rw [if_pos c_5, cd_tn_nI (show s < 2 ^ 31 by omega), if_pos ((cd_so0 hso).mpr c_24), if_pos hpp, if_neg c_47, cd_tn_nI (show j < 2 ^ 31 by omega)]; unfold cd_m63; rw [if_pos hs1b, if_neg c_73, if_pos ⟨Int32.not_lt.mp c_79, c_85⟩]; unfold cd_mt3; rw [if_neg c_47]) (cd_SR_p (s := s) (j := j) hS (by omega) (by omega)) (fun b hb => cd_set_ne _ _ (by omega))
              · refine r_ldc hO k_C_62 d_C_mark_88 ?_
                refine r_iret hO hE (Nat.zero_le _) (Nat.zero_le _) d_C_mark_90 ?_
                exact cd_psh (by unfold sp_mk; rw [if_pos c_5, cd_tn_nI (show s < 2 ^ 31 by omega), if_pos ((cd_so0 hso).mpr c_24), if_pos hpp, if_neg c_47, cd_tn_nI (show j < 2 ^ 31 by omega)]; unfold cd_m63; rw [if_pos hs1b, if_neg c_73, if_neg (by rintro ⟨q1, q2⟩; simp only [Int32.lt_iff_toInt_lt, Int32.le_iff_toInt_le] at *; omega)]) hS (fun b hb => rfl)
        · refine r_iload hO d_C_mark_50 rfl ?_
          refine r_ldc hO k_C_160 d_C_mark_51 ?_
          refine r_icmp_ne hO d_C_mark_53 (fun c_53 => ?_) (fun c_53 => ?_)
          · refine r_aload hO d_C_mark_59 rfl ?_
            refine r_getR hO f_C_182 rfl (hC.2.2.2.2.2.2.2.2.2.2.2.2.2.2.2.2.2.1 _ (by omega)).2.1 (hC.2.2.2.2.2.2.2.2.2.2.2.2.2.2.2.2.2.1 _ (by omega)).2.2.1 d_C_mark_61 ?_
            refine r_iload hO d_C_mark_64 rfl ?_
            refine r_iload hO d_C_mark_65 rfl ?_
            refine r_i2s hO d_C_mark_66 ?_
            refine r_iast hO (hC.2.2.2.2.2.2.2.2.2.2.2.2.2.2.2.2.2.1 _ (by omega)).2.2.2 (Nat.le_trans (Nat.le_add_right _ _) (Nat.le_trans (Nat.le_add_right _ _) (Nat.le_add_right _ _))) (by omega) (by decide) d_C_mark_67 ?_
            refine r_k hO d_C_mark_68 ?_
            refine r_iret hO hE (Nat.zero_le _) (Nat.zero_le _) d_C_mark_69 ?_
            exact cd_psh (by unfold sp_mk; rw [if_pos c_5, cd_tn_nI (show s < 2 ^ 31 by omega), if_pos ((cd_so0 hso).mpr c_24), if_pos hpp, if_pos c_47, if_neg c_53, cd_tn_nI (show j < 2 ^ 31 by omega)]; unfold cd_m63; rw [if_neg (by rw [c_47]; decide)]; unfold cd_mt3; rw [if_pos c_47]) (cd_SR_p (s := s) (j := j) hS (by omega) (by omega)) (fun b hb => cd_set_ne _ _ (by omega))
          · refine r_ldc hO k_C_119 d_C_mark_56 ?_
            refine r_iret hO hE (Nat.zero_le _) (Nat.zero_le _) d_C_mark_58 ?_
            exact cd_psh (by unfold sp_mk; rw [if_pos c_5, cd_tn_nI (show s < 2 ^ 31 by omega), if_pos ((cd_so0 hso).mpr c_24), if_pos hpp, if_pos c_47, if_pos c_53]) hS (fun b hb => rfl)
      · refine r_ldc hO k_C_243 d_C_mark_39 ?_
        refine r_iret hO hE (Nat.zero_le _) (Nat.zero_le _) d_C_mark_41 ?_
        exact cd_psh (by unfold sp_mk; rw [if_pos c_5, cd_tn_nI (show s < 2 ^ 31 by omega), if_pos ((cd_so0 hso).mpr c_24), if_neg (fun q => c_36 ((cd_isP_lt hsz hn24).mp q))]) hS (fun b hb => rfl)
    · refine r_ldc hO k_C_171 d_C_mark_27 ?_
      refine r_iret hO hE (Nat.zero_le _) (Nat.zero_le _) d_C_mark_29 ?_
      exact cd_psh (by unfold sp_mk; rw [if_pos c_5, cd_tn_nI (show s < 2 ^ 31 by omega), if_neg (fun q => (cd_so0 hso).mp q c_24)]) hS (fun b hb => rfl)
  · refine r_ldc hO k_C_62 d_C_mark_8 ?_
    refine r_iret hO hE (Nat.zero_le _) (Nat.zero_le _) d_C_mark_10 ?_
    exact cd_psh (by unfold sp_mk; rw [if_neg c_5]) hS (fun b hb => rfl)
