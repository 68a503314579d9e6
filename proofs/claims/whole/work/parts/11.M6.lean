abbrev cd_BAD : Int32 := -1000000001
abbrev cd_NO : Int32 := -1000000002
abbrev cd_FULL : Int32 := -1000000003
abbrev cd_NONE : Int32 := -1000000005
abbrev cd_NOTHING : Int32 := -1000000011
abbrev cd_KIND : Int32 := -1000000012
abbrev cd_INDEX : Int32 := -1000000013
abbrev cd_SIZE : Int32 := -1000000014
theorem cd_tn_nI {i : Nat} (h : i < 2 ^ 31) : cd_tn (nI i) = i := nI_clamp h
theorem cd_in_ex {x : Int32} {lo hi : Nat} (h : nI lo ≤ x ∧ x ≤ nI hi) (hl : lo < 2 ^ 31) (hh : hi < 2 ^ 31) : ∃ q, lo ≤ q ∧ q ≤ hi ∧ x = nI q := by
  obtain ⟨h1, h2⟩ := h
  have h0 : ¬ x < 0 := by
    intro q
    rw [Int32.lt_iff_toInt_lt] at q
    rw [Int32.le_iff_toInt_le, nI_toInt hl] at h1
    have e : (0 : Int32).toInt = 0 := rfl
    omega
  obtain ⟨j, hj, rfl⟩ := nI_of2 (nI_toInt hh) h0 h2
  exact ⟨j, (nI_leI hl (by omega)).mp h1, hj, rfl⟩
theorem cd_isA_ex {N : Nat → Int32} {a : Int32} {mm : Nat} (h1 : N 1 = nI mm) (hm : mm ≤ 12) (h : cd_isA N a) : ∃ i, i < mm ∧ a = nI i := by
  obtain ⟨h2, h3⟩ := h
  rw [h1] at h3
  by_cases h0 : mm = 0
  · subst h0
    exfalso
    rw [Int32.le_iff_toInt_le] at h2 h3
    have e1 : (nI 0).toInt = 0 := rfl
    have e2 : (nI 0 - nI 1).toInt = -1 := rfl
    omega
  · rw [pk_sub (by omega)] at h3
    obtain ⟨q, -, h4, rfl⟩ := cd_in_ex ⟨h2, h3⟩ (by decide) (by omega)
    exact ⟨q, by omega, rfl⟩
theorem cd_isA_nI {N : Nat → Int32} {i mm : Nat} (h1 : N 1 = nI mm) (hm : mm ≤ 12) (hi : i < mm) : cd_isA N (nI i) := by
  refine ⟨nI_le (by omega) (by omega), ?_⟩
  rw [h1, pk_sub (by omega)]
  exact nI_le (by omega) (by omega)
theorem cd_cl0 {S : cd_Sp} {I : cd_Mem} {a : Nat} {v : Int32} {sp : Int32 × (Nat → Int32)} (h : sp = (v, I a)) : cd_Fi S sp.1 (cd_set I a sp.2) (some (.int v)) S I := by
  rw [h]
  exact ⟨rfl, rfl, (cd_set_self I a).symm⟩
theorem cd_cl1 {S : cd_Sp} {I : cd_Mem} {a : Nat} {v : Int32} {r : Nat → Int32} {sp : Int32 × (Nat → Int32)} (h : sp = (v, r)) : cd_Fi S sp.1 (cd_set I a sp.2) (some (.int v)) S (cd_set I a r) := by
  rw [h]
  exact ⟨rfl, rfl, rfl⟩
theorem cd_clp {S : cd_Sp} {I : cd_Mem} {a : Nat} {sp q : Int32 × (Nat → Int32)} (h : sp = q) : cd_Fi S sp.1 (cd_set I a sp.2) (some (.int q.1)) S (cd_set I a q.2) := by
  subst h
  exact ⟨rfl, rfl, rfl⟩
def sp_asking (N : Nat → Int32) (mm : Nat) (k h b e : Int32) : Int32 × (Nat → Int32) := if nI 0 ≤ k ∧ k ≤ nI 5 then (if cd_isOf (nI 1) h then (if cd_isOf (nI 2) b then (if cd_isOf (nI 3) e then (if N 1 = nI 12 then (cd_FULL, N) else (nI mm, cd_comes N mm k h b e)) else (cd_BAD, N)) else (cd_BAD, N)) else (cd_BAD, N)) else (cd_BAD, N)
def sp_told (N : Nat → Int32) (tc : Nat) (a q : Int32) : Int32 := if cd_isA N a then (if q = nI 0 then N (16 + 5 * cd_tn a + 0) else if q = nI 1 then N (16 + 5 * cd_tn a + 1) else if q = nI 2 then N (16 + 5 * cd_tn a + 2) else if q = nI 3 then N (16 + 5 * cd_tn a + 3) else if q = nI 4 then N (16 + 5 * cd_tn a + 4) else if q = nI 5 then cd_pr N (cd_tn a) tc else if q = nI 6 then cd_lea (N (16 + 5 * cd_tn a + 0)) else if q = nI 7 then cd_fog (N (16 + 5 * cd_tn a + 0)) else if q = nI 8 then cd_scr (N (16 + 5 * cd_tn a + 0)) else if q = nI 9 then cd_mea N (cd_tn a) else if q = nI 10 then cd_wor (N (16 + 5 * cd_tn a + 0)) (N (16 + 5 * cd_tn a + 2)) else cd_BAD) else cd_BAD
def sp_as (N : Nat → Int32) (a k : Int32) : Int32 := if cd_isA N a then (if nI 0 ≤ k ∧ k ≤ nI 5 then (if cd_und (N (16 + 5 * cd_tn a + 0)) k then N (16 + 5 * cd_tn a + 2) else cd_KIND) else cd_BAD) else cd_BAD
def sp_turns (N : Nat → Int32) (a k : Int32) : Int32 × (Nat → Int32) := if cd_isA N a then (if nI 0 ≤ k ∧ k ≤ nI 5 then (N (16 + 5 * cd_tn a), upd N (16 + 5 * cd_tn a) k) else (cd_BAD, N)) else (cd_BAD, N)
def sp_set (N : Nat → Int32) (a q v : Int32) : Int32 × (Nat → Int32) := if cd_isA N a then (if nI 1 ≤ q ∧ q ≤ nI 3 then (if cd_isOf q v then (N (16 + 5 * cd_tn a + cd_tn q), upd N (16 + 5 * cd_tn a + cd_tn q) v) else (cd_BAD, N)) else (cd_BAD, N)) else (cd_BAD, N)
def cd_mo (q : Int32) : Int32 := if q = 0 then nI 99 else if nI 3 ≤ q then nI 1 else nI 100
def sp_rule (N : Nat → Int32) (q v : Int32) : Int32 × (Nat → Int32) := if nI 0 ≤ q ∧ q ≤ nI 6 then (if nI 0 ≤ v ∧ v ≤ cd_mo q then (N (3 + cd_tn q), upd N (3 + cd_tn q) v) else (cd_BAD, N)) else (cd_BAD, N)
def sp_opens (N : Nat → Int32) (a : Int32) : Int32 × (Nat → Int32) := if cd_isA N a then cd_ri N (cd_tn a) else (cd_BAD, N)
theorem cd_lt12 {N : Nat → Int32} {mm : Nat} (h1 : N 1 = nI mm) (hm : mm ≤ 12) (h : ¬ N 1 = nI 12) : mm < 12 := by
  rcases Nat.lt_or_ge mm 12 with q | q
  · exact q
  · exact absurd (by rw [h1, show mm = 12 by omega]) h
theorem d_M_asking_0 : cd_D_iload b_M_asking 0 1 1 := Or.inr ⟨1, ⟨by decide +kernel, rfl⟩, rfl⟩
theorem d_M_asking_1 : cd_Dk b_M_asking 1 (nI 0) 2 := Or.inl ⟨0, ⟨by decide +kernel, rfl⟩, by decide +kernel⟩
theorem d_M_asking_2 : cd_Dk b_M_asking 2 (nI 5) 3 := Or.inl ⟨5, ⟨by decide +kernel, rfl⟩, by decide +kernel⟩
theorem d_M_asking_3 : cd_D 3 b_M_asking 3 (.invokestatic 75) 6 := ⟨by decide +kernel, rfl⟩
theorem d_M_asking_6 : cd_D_if_eq b_M_asking 6 34 9 := ⟨28, by decide +kernel, by decide, rfl⟩
theorem d_M_asking_9 : cd_Dk b_M_asking 9 (nI 1) 10 := Or.inl ⟨1, ⟨by decide +kernel, rfl⟩, by decide +kernel⟩
theorem d_M_asking_10 : cd_D_iload b_M_asking 10 2 11 := Or.inr ⟨2, ⟨by decide +kernel, rfl⟩, rfl⟩
theorem d_M_asking_11 : cd_D 3 b_M_asking 11 (.invokestatic 83) 14 := ⟨by decide +kernel, rfl⟩
theorem d_M_asking_14 : cd_D_if_eq b_M_asking 14 34 17 := ⟨20, by decide +kernel, by decide, rfl⟩
theorem d_M_asking_17 : cd_Dk b_M_asking 17 (nI 2) 18 := Or.inl ⟨2, ⟨by decide +kernel, rfl⟩, by decide +kernel⟩
theorem d_M_asking_18 : cd_D_iload b_M_asking 18 3 19 := Or.inr ⟨3, ⟨by decide +kernel, rfl⟩, rfl⟩
theorem d_M_asking_19 : cd_D 3 b_M_asking 19 (.invokestatic 83) 22 := ⟨by decide +kernel, rfl⟩
theorem d_M_asking_22 : cd_D_if_eq b_M_asking 22 34 25 := ⟨12, by decide +kernel, by decide, rfl⟩
theorem d_M_asking_25 : cd_Dk b_M_asking 25 (nI 3) 26 := Or.inl ⟨3, ⟨by decide +kernel, rfl⟩, by decide +kernel⟩
theorem d_M_asking_26 : cd_D_iload b_M_asking 26 4 28 := Or.inl ⟨by decide +kernel, rfl⟩
theorem d_M_asking_28 : cd_D 3 b_M_asking 28 (.invokestatic 83) 31 := ⟨by decide +kernel, rfl⟩
theorem d_M_asking_31 : cd_D_if_ne b_M_asking 31 37 34 := ⟨6, by decide +kernel, by decide, rfl⟩
theorem d_M_asking_34 : cd_D 2 b_M_asking 34 (.ldc 87) 36 := ⟨by decide +kernel, rfl⟩
theorem d_M_asking_36 : cd_D 1 b_M_asking 36 .ireturn 37 := ⟨by decide +kernel, rfl⟩
theorem d_M_asking_37 : cd_D_aload b_M_asking 37 0 38 := Or.inr ⟨0, ⟨by decide +kernel, rfl⟩, rfl⟩
theorem d_M_asking_38 : cd_D 3 b_M_asking 38 (.getfield 9) 41 := ⟨by decide +kernel, rfl⟩
theorem d_M_asking_41 : cd_Dk b_M_asking 41 (nI 1) 42 := Or.inl ⟨1, ⟨by decide +kernel, rfl⟩, by decide +kernel⟩
theorem d_M_asking_42 : cd_D 1 b_M_asking 42 .iaload 43 := ⟨by decide +kernel, rfl⟩
theorem d_M_asking_43 : cd_Dk b_M_asking 43 (nI 12) 45 := Or.inr (Or.inl ⟨12, ⟨by decide +kernel, rfl⟩, by decide +kernel⟩)
theorem d_M_asking_45 : cd_D_icmp_ne b_M_asking 45 53 48 := ⟨8, by decide +kernel, by decide, rfl⟩
theorem d_M_asking_48 : cd_D 2 b_M_asking 48 (.ldc 88) 50 := ⟨by decide +kernel, rfl⟩
theorem d_M_asking_50 : cd_D_goto b_M_asking 50 62 := ⟨12, by decide +kernel, by decide⟩
theorem d_M_asking_53 : cd_D_aload b_M_asking 53 0 54 := Or.inr ⟨0, ⟨by decide +kernel, rfl⟩, rfl⟩
theorem d_M_asking_54 : cd_D_iload b_M_asking 54 1 55 := Or.inr ⟨1, ⟨by decide +kernel, rfl⟩, rfl⟩
theorem d_M_asking_55 : cd_D_iload b_M_asking 55 2 56 := Or.inr ⟨2, ⟨by decide +kernel, rfl⟩, rfl⟩
theorem d_M_asking_56 : cd_D_iload b_M_asking 56 3 57 := Or.inr ⟨3, ⟨by decide +kernel, rfl⟩, rfl⟩
theorem d_M_asking_57 : cd_D_iload b_M_asking 57 4 59 := Or.inl ⟨by decide +kernel, rfl⟩
theorem d_M_asking_59 : cd_D 3 b_M_asking 59 (.invokevirtual 89) 62 := ⟨by decide +kernel, rfl⟩
theorem d_M_asking_62 : cd_D 1 b_M_asking 62 .ireturn 63 := ⟨by decide +kernel, rfl⟩
theorem c_M_asking {l : Launch} {w : cd_WT} {S : cd_Sp} {I : cd_Mem} {m : Nat} (hM : cd_MO w S m) (mm tc : Nat) (hV : cd_V (I (m + 1)) mm tc) (k h b e : Int32) : cd_C l w m_M_asking 2 0 0 [.ref m, .int k, .int h, .int b, .int e] S I (cd_Fi S (sp_asking (I (m + 1)) mm k h b e).1 (cd_set I (m + 1) (sp_asking (I (m + 1)) mm k h b e).2)) := by
  refine cd_intro (by decide) (by simp [Value.category]) (Nat.le_of_ble_eq_true rfl) ?_
  intro X hO hE
  show cd_J w X 0 0 S I 0 [some (.ref m), some (.int k), some (.int h), some (.int b), some (.int e)] []
  refine r_iload hO d_M_asking_0 rfl ?_
  refine r_k hO d_M_asking_1 ?_
  refine r_k hO d_M_asking_2 ?_
  refine r_cS3fi hO hE (c_M_in _ _ _) mf_M_in lk_M_75 (by decide) rfl (Nat.le_of_ble_eq_true rfl) d_M_asking_3 (Nat.zero_le _) (Nat.zero_le _) ?_
  refine r_if_eqB hO d_M_asking_6 (fun c_6 => ?_) (fun c_6 => ?_)
  · refine r_ldc hO k_M_87 d_M_asking_34 ?_
    refine r_iret hO hE (Nat.zero_le _) (Nat.zero_le _) d_M_asking_36 ?_
    exact cd_cl0 (by unfold sp_asking; rw [if_neg c_6])
  · refine r_k hO d_M_asking_9 ?_
    refine r_iload hO d_M_asking_10 rfl ?_
    refine r_cS2fi hO hE (c_M_isOf _ _) mf_M_isOf lk_M_83 (by decide) rfl (Nat.le_of_ble_eq_true rfl) d_M_asking_11 (Nat.zero_le _) (Nat.zero_le _) ?_
    refine r_if_eqB hO d_M_asking_14 (fun c_14 => ?_) (fun c_14 => ?_)
    · refine r_ldc hO k_M_87 d_M_asking_34 ?_
      refine r_iret hO hE (Nat.zero_le _) (Nat.zero_le _) d_M_asking_36 ?_
      exact cd_cl0 (by unfold sp_asking; rw [if_pos c_6, if_neg c_14])
    · refine r_k hO d_M_asking_17 ?_
      refine r_iload hO d_M_asking_18 rfl ?_
      refine r_cS2fi hO hE (c_M_isOf _ _) mf_M_isOf lk_M_83 (by decide) rfl (Nat.le_of_ble_eq_true rfl) d_M_asking_19 (Nat.zero_le _) (Nat.zero_le _) ?_
      refine r_if_eqB hO d_M_asking_22 (fun c_22 => ?_) (fun c_22 => ?_)
      · refine r_ldc hO k_M_87 d_M_asking_34 ?_
        refine r_iret hO hE (Nat.zero_le _) (Nat.zero_le _) d_M_asking_36 ?_
        exact cd_cl0 (by unfold sp_asking; rw [if_pos c_6, if_pos c_14, if_neg c_22])
      · refine r_k hO d_M_asking_25 ?_
        refine r_iload hO d_M_asking_26 rfl ?_
        refine r_cS2fi hO hE (c_M_isOf _ _) mf_M_isOf lk_M_83 (by decide) rfl (Nat.le_of_ble_eq_true rfl) d_M_asking_28 (Nat.zero_le _) (Nat.zero_le _) ?_
        refine r_if_neB hO d_M_asking_31 (fun c_31 => ?_) (fun c_31 => ?_)
        · refine r_aload hO d_M_asking_37 rfl ?_
          refine r_getR hO f_M_9 rfl hM.2.1 (mo_r1 hM) d_M_asking_38 ?_
          refine r_k hO d_M_asking_41 ?_
          refine r_iald hO (mo_s1 hM) (by omega) (by decide) d_M_asking_42 ?_
          refine r_k hO d_M_asking_43 ?_
          refine r_icmp_ne hO d_M_asking_45 (fun c_45 => ?_) (fun c_45 => ?_)
          · refine r_aload hO d_M_asking_53 rfl ?_
            refine r_iload hO d_M_asking_54 rfl ?_
            refine r_iload hO d_M_asking_55 rfl ?_
            refine r_iload hO d_M_asking_56 rfl ?_
            refine r_iload hO d_M_asking_57 rfl ?_
            refine r_cV4fi hO hE (c_M_comes hM mm hV.1 (cd_lt12 hV.1 hV.2.1 c_45) _ _ _ _) mf_M_comes lk_M_89 hM.2.1 rfl (by decide) rfl (Nat.le_of_ble_eq_true rfl) d_M_asking_59 (Nat.zero_le _) (Nat.zero_le _) ?_
            refine r_iret hO hE (Nat.zero_le _) (Nat.zero_le _) d_M_asking_62 ?_
            exact cd_cl1 (by unfold sp_asking; rw [if_pos c_6, if_pos c_14, if_pos c_22, if_pos c_31, if_neg c_45])
          · refine r_ldc hO k_M_88 d_M_asking_48 ?_
            refine r_goto hO d_M_asking_50 ?_
            refine r_iret hO hE (Nat.zero_le _) (Nat.zero_le _) d_M_asking_62 ?_
            exact cd_cl0 (by unfold sp_asking; rw [if_pos c_6, if_pos c_14, if_pos c_22, if_pos c_31, if_pos c_45])
        · refine r_ldc hO k_M_87 d_M_asking_34 ?_
          refine r_iret hO hE (Nat.zero_le _) (Nat.zero_le _) d_M_asking_36 ?_
          exact cd_cl0 (by unfold sp_asking; rw [if_pos c_6, if_pos c_14, if_pos c_22, if_neg c_31])

theorem d_M_told_0 : cd_D_aload b_M_told 0 0 1 := Or.inr ⟨0, ⟨by decide +kernel, rfl⟩, rfl⟩
theorem d_M_told_1 : cd_D_iload b_M_told 1 1 2 := Or.inr ⟨1, ⟨by decide +kernel, rfl⟩, rfl⟩
theorem d_M_told_2 : cd_D 3 b_M_told 2 (.invokevirtual 108) 5 := ⟨by decide +kernel, rfl⟩
theorem d_M_told_5 : cd_D_if_ne b_M_told 5 11 8 := ⟨6, by decide +kernel, by decide, rfl⟩
theorem d_M_told_8 : cd_D 2 b_M_told 8 (.ldc 87) 10 := ⟨by decide +kernel, rfl⟩
theorem d_M_told_10 : cd_D 1 b_M_told 10 .ireturn 11 := ⟨by decide +kernel, rfl⟩
theorem d_M_told_11 : cd_D_iload b_M_told 11 2 12 := Or.inr ⟨2, ⟨by decide +kernel, rfl⟩, rfl⟩
theorem d_M_told_12 : decode b_M_told 12 = .ok (.tableswitch (103) (0) (10) #[60, 60, 60, 60, 60, 67, 73, 79, 85, 91, 97], 60) := by decide +kernel
theorem d_M_told_72 : cd_D_aload b_M_told 72 0 73 := Or.inr ⟨0, ⟨by decide +kernel, rfl⟩, rfl⟩
theorem d_M_told_73 : cd_D_iload b_M_told 73 1 74 := Or.inr ⟨1, ⟨by decide +kernel, rfl⟩, rfl⟩
theorem d_M_told_74 : cd_D_iload b_M_told 74 2 75 := Or.inr ⟨2, ⟨by decide +kernel, rfl⟩, rfl⟩
theorem d_M_told_75 : cd_D 3 b_M_told 75 (.invokevirtual 97) 78 := ⟨by decide +kernel, rfl⟩
theorem d_M_told_78 : cd_D 1 b_M_told 78 .ireturn 79 := ⟨by decide +kernel, rfl⟩
theorem d_M_told_79 : cd_D_aload b_M_told 79 0 80 := Or.inr ⟨0, ⟨by decide +kernel, rfl⟩, rfl⟩
theorem d_M_told_80 : cd_D_iload b_M_told 80 1 81 := Or.inr ⟨1, ⟨by decide +kernel, rfl⟩, rfl⟩
theorem d_M_told_81 : cd_D 3 b_M_told 81 (.invokevirtual 112) 84 := ⟨by decide +kernel, rfl⟩
theorem d_M_told_84 : cd_D 1 b_M_told 84 .ireturn 85 := ⟨by decide +kernel, rfl⟩
theorem d_M_told_85 : cd_D_aload b_M_told 85 0 86 := Or.inr ⟨0, ⟨by decide +kernel, rfl⟩, rfl⟩
theorem d_M_told_86 : cd_D_iload b_M_told 86 1 87 := Or.inr ⟨1, ⟨by decide +kernel, rfl⟩, rfl⟩
theorem d_M_told_87 : cd_D 3 b_M_told 87 (.invokevirtual 115) 90 := ⟨by decide +kernel, rfl⟩
theorem d_M_told_90 : cd_D 1 b_M_told 90 .ireturn 91 := ⟨by decide +kernel, rfl⟩
theorem d_M_told_91 : cd_D_aload b_M_told 91 0 92 := Or.inr ⟨0, ⟨by decide +kernel, rfl⟩, rfl⟩
theorem d_M_told_92 : cd_D_iload b_M_told 92 1 93 := Or.inr ⟨1, ⟨by decide +kernel, rfl⟩, rfl⟩
theorem d_M_told_93 : cd_D 3 b_M_told 93 (.invokevirtual 118) 96 := ⟨by decide +kernel, rfl⟩
theorem d_M_told_96 : cd_D 1 b_M_told 96 .ireturn 97 := ⟨by decide +kernel, rfl⟩
theorem d_M_told_97 : cd_D_aload b_M_told 97 0 98 := Or.inr ⟨0, ⟨by decide +kernel, rfl⟩, rfl⟩
theorem d_M_told_98 : cd_D_iload b_M_told 98 1 99 := Or.inr ⟨1, ⟨by decide +kernel, rfl⟩, rfl⟩
theorem d_M_told_99 : cd_D 3 b_M_told 99 (.invokevirtual 121) 102 := ⟨by decide +kernel, rfl⟩
theorem d_M_told_102 : cd_D 1 b_M_told 102 .ireturn 103 := ⟨by decide +kernel, rfl⟩
theorem d_M_told_103 : cd_D_aload b_M_told 103 0 104 := Or.inr ⟨0, ⟨by decide +kernel, rfl⟩, rfl⟩
theorem d_M_told_104 : cd_D_iload b_M_told 104 1 105 := Or.inr ⟨1, ⟨by decide +kernel, rfl⟩, rfl⟩
theorem d_M_told_105 : cd_D 3 b_M_told 105 (.invokevirtual 124) 108 := ⟨by decide +kernel, rfl⟩
theorem d_M_told_108 : cd_D 1 b_M_told 108 .ireturn 109 := ⟨by decide +kernel, rfl⟩
theorem d_M_told_109 : cd_D_aload b_M_told 109 0 110 := Or.inr ⟨0, ⟨by decide +kernel, rfl⟩, rfl⟩
theorem d_M_told_110 : cd_D_iload b_M_told 110 1 111 := Or.inr ⟨1, ⟨by decide +kernel, rfl⟩, rfl⟩
theorem d_M_told_111 : cd_D 3 b_M_told 111 (.invokevirtual 127) 114 := ⟨by decide +kernel, rfl⟩
theorem d_M_told_114 : cd_D 1 b_M_told 114 .ireturn 115 := ⟨by decide +kernel, rfl⟩
theorem d_M_told_115 : cd_D 2 b_M_told 115 (.ldc 87) 117 := ⟨by decide +kernel, rfl⟩
theorem d_M_told_117 : cd_D 1 b_M_told 117 .ireturn 118 := ⟨by decide +kernel, rfl⟩
theorem c_M_told {l : Launch} {w : cd_WT} {S : cd_Sp} {I : cd_Mem} {m : Nat} (hM : cd_MO w S m) (mm tc : Nat) (hV : cd_V (I (m + 1)) mm tc) (a q : Int32) : cd_C l w m_M_told 3 0 0 [.ref m, .int a, .int q] S I (cd_Pi S (fun x I' => x = sp_told (I (m + 1)) tc a q ∧ cd_off I I' [m + 11, m + 12])) := by
  refine cd_intro (by decide) (by simp [Value.category]) (Nat.le_of_ble_eq_true rfl) ?_
  intro X hO hE
  show cd_J w X 0 0 S I 0 [some (.ref m), some (.int a), some (.int q)] []
  refine r_aload hO d_M_told_0 rfl ?_
  refine r_iload hO d_M_told_1 rfl ?_
  refine r_cV1fi hO hE (c_M_isAsking hM _) mf_M_isAsking lk_M_108 hM.2.1 rfl (by decide) rfl (Nat.le_of_ble_eq_true rfl) d_M_told_2 (Nat.zero_le _) (Nat.zero_le _) ?_
  refine r_if_neB hO d_M_told_5 (fun c_5 => ?_) (fun c_5 => ?_)
  · obtain ⟨i, hi, rfl⟩ := cd_isA_ex hV.1 hV.2.1 c_5
    have hmm := hV.2.1
    refine r_iload hO d_M_told_11 rfl ?_
    by_cases c_12_0 : q = nI 0
    · subst c_12_0
      refine r_tabE hO d_M_told_12 rfl (off := 60) (by decide) (by decide) (by decide) (tgt := 72) (by decide) ?_
      refine r_aload hO d_M_told_72 rfl ?_
      refine r_iload hO d_M_told_73 rfl ?_
      refine r_iload hO d_M_told_74 rfl ?_
      refine r_cV2fi hO hE (c_M_of hM _ _ (by omega)) mf_M_of lk_M_97 hM.2.1 rfl (by decide) rfl (Nat.le_of_ble_eq_true rfl) d_M_told_75 (Nat.zero_le _) (Nat.zero_le _) ?_
      refine r_iret hO hE (Nat.zero_le _) (Nat.zero_le _) d_M_told_78 ?_
      exact ⟨_, rfl, rfl, by unfold sp_told; rw [if_pos c_5, if_pos rfl, cd_tn_nI (by omega)], cd_off.rf _ _⟩
    by_cases c_12_1 : q = nI 1
    · subst c_12_1
      refine r_tabE hO d_M_told_12 rfl (off := 60) (by decide) (by decide) (by decide) (tgt := 72) (by decide) ?_
      refine r_aload hO d_M_told_72 rfl ?_
      refine r_iload hO d_M_told_73 rfl ?_
      refine r_iload hO d_M_told_74 rfl ?_
      refine r_cV2fi hO hE (c_M_of hM _ _ (by omega)) mf_M_of lk_M_97 hM.2.1 rfl (by decide) rfl (Nat.le_of_ble_eq_true rfl) d_M_told_75 (Nat.zero_le _) (Nat.zero_le _) ?_
      refine r_iret hO hE (Nat.zero_le _) (Nat.zero_le _) d_M_told_78 ?_
      exact ⟨_, rfl, rfl, by unfold sp_told; rw [if_pos c_5, if_neg c_12_0, if_pos rfl, cd_tn_nI (by omega)], cd_off.rf _ _⟩
    by_cases c_12_2 : q = nI 2
    · subst c_12_2
      refine r_tabE hO d_M_told_12 rfl (off := 60) (by decide) (by decide) (by decide) (tgt := 72) (by decide) ?_
      refine r_aload hO d_M_told_72 rfl ?_
      refine r_iload hO d_M_told_73 rfl ?_
      refine r_iload hO d_M_told_74 rfl ?_
      refine r_cV2fi hO hE (c_M_of hM _ _ (by omega)) mf_M_of lk_M_97 hM.2.1 rfl (by decide) rfl (Nat.le_of_ble_eq_true rfl) d_M_told_75 (Nat.zero_le _) (Nat.zero_le _) ?_
      refine r_iret hO hE (Nat.zero_le _) (Nat.zero_le _) d_M_told_78 ?_
      exact ⟨_, rfl, rfl, by unfold sp_told; rw [if_pos c_5, if_neg c_12_0, if_neg c_12_1, if_pos rfl, cd_tn_nI (by omega)], cd_off.rf _ _⟩
    by_cases c_12_3 : q = nI 3
    · subst c_12_3
      refine r_tabE hO d_M_told_12 rfl (off := 60) (by decide) (by decide) (by decide) (tgt := 72) (by decide) ?_
      refine r_aload hO d_M_told_72 rfl ?_
      refine r_iload hO d_M_told_73 rfl ?_
      refine r_iload hO d_M_told_74 rfl ?_
      refine r_cV2fi hO hE (c_M_of hM _ _ (by omega)) mf_M_of lk_M_97 hM.2.1 rfl (by decide) rfl (Nat.le_of_ble_eq_true rfl) d_M_told_75 (Nat.zero_le _) (Nat.zero_le _) ?_
      refine r_iret hO hE (Nat.zero_le _) (Nat.zero_le _) d_M_told_78 ?_
      exact ⟨_, rfl, rfl, by unfold sp_told; rw [if_pos c_5, if_neg c_12_0, if_neg c_12_1, if_neg c_12_2, if_pos rfl, cd_tn_nI (by omega)], cd_off.rf _ _⟩
    by_cases c_12_4 : q = nI 4
    · subst c_12_4
      refine r_tabE hO d_M_told_12 rfl (off := 60) (by decide) (by decide) (by decide) (tgt := 72) (by decide) ?_
      refine r_aload hO d_M_told_72 rfl ?_
      refine r_iload hO d_M_told_73 rfl ?_
      refine r_iload hO d_M_told_74 rfl ?_
      refine r_cV2fi hO hE (c_M_of hM _ _ (by omega)) mf_M_of lk_M_97 hM.2.1 rfl (by decide) rfl (Nat.le_of_ble_eq_true rfl) d_M_told_75 (Nat.zero_le _) (Nat.zero_le _) ?_
      refine r_iret hO hE (Nat.zero_le _) (Nat.zero_le _) d_M_told_78 ?_
      exact ⟨_, rfl, rfl, by unfold sp_told; rw [if_pos c_5, if_neg c_12_0, if_neg c_12_1, if_neg c_12_2, if_neg c_12_3, if_pos rfl, cd_tn_nI (by omega)], cd_off.rf _ _⟩
    by_cases c_12_5 : q = nI 5
    · subst c_12_5
      refine r_tabE hO d_M_told_12 rfl (off := 67) (by decide) (by decide) (by decide) (tgt := 79) (by decide) ?_
      refine r_aload hO d_M_told_79 rfl ?_
      refine r_iload hO d_M_told_80 rfl ?_
      refine r_cV1i hO hE (c_M_pressesOf hM mm tc _ hV (by omega)) mf_M_pressesOf lk_M_112 hM.2.1 rfl (by decide) rfl (Nat.le_of_ble_eq_true rfl) d_M_told_81 (Nat.zero_le _) (Nat.zero_le _) ?_
      rintro x I2 ⟨hx, ho⟩
      refine r_iret hO hE (Nat.zero_le _) (Nat.zero_le _) d_M_told_84 ?_
      exact ⟨_, rfl, rfl, by unfold sp_told; rw [if_pos c_5, if_neg c_12_0, if_neg c_12_1, if_neg c_12_2, if_neg c_12_3, if_neg c_12_4, if_pos rfl, cd_tn_nI (by omega)]; exact hx, ho⟩
    by_cases c_12_6 : q = nI 6
    · subst c_12_6
      refine r_tabE hO d_M_told_12 rfl (off := 73) (by decide) (by decide) (by decide) (tgt := 85) (by decide) ?_
      refine r_aload hO d_M_told_85 rfl ?_
      refine r_iload hO d_M_told_86 rfl ?_
      refine r_cV1fi hO hE (c_M_learnsOf hM _ (by omega)) mf_M_learnsOf lk_M_115 hM.2.1 rfl (by decide) rfl (Nat.le_of_ble_eq_true rfl) d_M_told_87 (Nat.zero_le _) (Nat.zero_le _) ?_
      refine r_iret hO hE (Nat.zero_le _) (Nat.zero_le _) d_M_told_90 ?_
      exact ⟨_, rfl, rfl, by unfold sp_told; rw [if_pos c_5, if_neg c_12_0, if_neg c_12_1, if_neg c_12_2, if_neg c_12_3, if_neg c_12_4, if_neg c_12_5, if_pos rfl, cd_tn_nI (by omega)], cd_off.rf _ _⟩
    by_cases c_12_7 : q = nI 7
    · subst c_12_7
      refine r_tabE hO d_M_told_12 rfl (off := 79) (by decide) (by decide) (by decide) (tgt := 91) (by decide) ?_
      refine r_aload hO d_M_told_91 rfl ?_
      refine r_iload hO d_M_told_92 rfl ?_
      refine r_cV1fi hO hE (c_M_forgetsOf hM _ (by omega)) mf_M_forgetsOf lk_M_118 hM.2.1 rfl (by decide) rfl (Nat.le_of_ble_eq_true rfl) d_M_told_93 (Nat.zero_le _) (Nat.zero_le _) ?_
      refine r_iret hO hE (Nat.zero_le _) (Nat.zero_le _) d_M_told_96 ?_
      exact ⟨_, rfl, rfl, by unfold sp_told; rw [if_pos c_5, if_neg c_12_0, if_neg c_12_1, if_neg c_12_2, if_neg c_12_3, if_neg c_12_4, if_neg c_12_5, if_neg c_12_6, if_pos rfl, cd_tn_nI (by omega)], cd_off.rf _ _⟩
    by_cases c_12_8 : q = nI 8
    · subst c_12_8
      refine r_tabE hO d_M_told_12 rfl (off := 85) (by decide) (by decide) (by decide) (tgt := 97) (by decide) ?_
      refine r_aload hO d_M_told_97 rfl ?_
      refine r_iload hO d_M_told_98 rfl ?_
      refine r_cV1fi hO hE (c_M_scratchesOf hM _ (by omega)) mf_M_scratchesOf lk_M_121 hM.2.1 rfl (by decide) rfl (Nat.le_of_ble_eq_true rfl) d_M_told_99 (Nat.zero_le _) (Nat.zero_le _) ?_
      refine r_iret hO hE (Nat.zero_le _) (Nat.zero_le _) d_M_told_102 ?_
      exact ⟨_, rfl, rfl, by unfold sp_told; rw [if_pos c_5, if_neg c_12_0, if_neg c_12_1, if_neg c_12_2, if_neg c_12_3, if_neg c_12_4, if_neg c_12_5, if_neg c_12_6, if_neg c_12_7, if_pos rfl, cd_tn_nI (by omega)], cd_off.rf _ _⟩
    by_cases c_12_9 : q = nI 9
    · subst c_12_9
      refine r_tabE hO d_M_told_12 rfl (off := 91) (by decide) (by decide) (by decide) (tgt := 103) (by decide) ?_
      refine r_aload hO d_M_told_103 rfl ?_
      refine r_iload hO d_M_told_104 rfl ?_
      refine r_cV1fi hO hE (c_M_meantBy hM _ (by omega)) mf_M_meantBy lk_M_124 hM.2.1 rfl (by decide) rfl (Nat.le_of_ble_eq_true rfl) d_M_told_105 (Nat.zero_le _) (Nat.zero_le _) ?_
      refine r_iret hO hE (Nat.zero_le _) (Nat.zero_le _) d_M_told_108 ?_
      exact ⟨_, rfl, rfl, by unfold sp_told; rw [if_pos c_5, if_neg c_12_0, if_neg c_12_1, if_neg c_12_2, if_neg c_12_3, if_neg c_12_4, if_neg c_12_5, if_neg c_12_6, if_neg c_12_7, if_neg c_12_8, if_pos rfl, cd_tn_nI (by omega)], cd_off.rf _ _⟩
    by_cases c_12_10 : q = nI 10
    · subst c_12_10
      refine r_tabE hO d_M_told_12 rfl (off := 97) (by decide) (by decide) (by decide) (tgt := 109) (by decide) ?_
      refine r_aload hO d_M_told_109 rfl ?_
      refine r_iload hO d_M_told_110 rfl ?_
      refine r_cV1fi hO hE (c_M_worthOf hM _ (by omega)) mf_M_worthOf lk_M_127 hM.2.1 rfl (by decide) rfl (Nat.le_of_ble_eq_true rfl) d_M_told_111 (Nat.zero_le _) (Nat.zero_le _) ?_
      refine r_iret hO hE (Nat.zero_le _) (Nat.zero_le _) d_M_told_114 ?_
      exact ⟨_, rfl, rfl, by unfold sp_told; rw [if_pos c_5, if_neg c_12_0, if_neg c_12_1, if_neg c_12_2, if_neg c_12_3, if_neg c_12_4, if_neg c_12_5, if_neg c_12_6, if_neg c_12_7, if_neg c_12_8, if_neg c_12_9, if_pos rfl, cd_tn_nI (by omega)], cd_off.rf _ _⟩
    refine r_tabN hO d_M_told_12 (by decide) (fun j hj => ?_) (tgt := 115) (by decide) ?_
    · have hj2 : j < 11 := hj
      rcases (show j = 0 ∨ j = 1 ∨ j = 2 ∨ j = 3 ∨ j = 4 ∨ j = 5 ∨ j = 6 ∨ j = 7 ∨ j = 8 ∨ j = 9 ∨ j = 10 by omega) with rfl | rfl | rfl | rfl | rfl | rfl | rfl | rfl | rfl | rfl | rfl
      · exact Or.inl (fun e => c_12_0 (e.trans (by decide)))
      · exact Or.inl (fun e => c_12_1 (e.trans (by decide)))
      · exact Or.inl (fun e => c_12_2 (e.trans (by decide)))
      · exact Or.inl (fun e => c_12_3 (e.trans (by decide)))
      · exact Or.inl (fun e => c_12_4 (e.trans (by decide)))
      · exact Or.inl (fun e => c_12_5 (e.trans (by decide)))
      · exact Or.inl (fun e => c_12_6 (e.trans (by decide)))
      · exact Or.inl (fun e => c_12_7 (e.trans (by decide)))
      · exact Or.inl (fun e => c_12_8 (e.trans (by decide)))
      · exact Or.inl (fun e => c_12_9 (e.trans (by decide)))
      · exact Or.inl (fun e => c_12_10 (e.trans (by decide)))
    refine r_ldc hO k_M_87 d_M_told_115 ?_
    refine r_iret hO hE (Nat.zero_le _) (Nat.zero_le _) d_M_told_117 ?_
    exact ⟨_, rfl, rfl, by unfold sp_told; rw [if_pos c_5, if_neg c_12_0, if_neg c_12_1, if_neg c_12_2, if_neg c_12_3, if_neg c_12_4, if_neg c_12_5, if_neg c_12_6, if_neg c_12_7, if_neg c_12_8, if_neg c_12_9, if_neg c_12_10], cd_off.rf _ _⟩
  · refine r_ldc hO k_M_87 d_M_told_8 ?_
    refine r_iret hO hE (Nat.zero_le _) (Nat.zero_le _) d_M_told_10 ?_
    exact ⟨_, rfl, rfl, by unfold sp_told; rw [if_neg c_5], cd_off.rf _ _⟩
theorem d_M_as_0 : cd_D_aload b_M_as 0 0 1 := Or.inr ⟨0, ⟨by decide +kernel, rfl⟩, rfl⟩
theorem d_M_as_1 : cd_D_iload b_M_as 1 1 2 := Or.inr ⟨1, ⟨by decide +kernel, rfl⟩, rfl⟩
theorem d_M_as_2 : cd_D 3 b_M_as 2 (.invokevirtual 108) 5 := ⟨by decide +kernel, rfl⟩
theorem d_M_as_5 : cd_D_if_eq b_M_as 5 17 8 := ⟨12, by decide +kernel, by decide, rfl⟩
theorem d_M_as_8 : cd_D_iload b_M_as 8 2 9 := Or.inr ⟨2, ⟨by decide +kernel, rfl⟩, rfl⟩
theorem d_M_as_9 : cd_Dk b_M_as 9 (nI 0) 10 := Or.inl ⟨0, ⟨by decide +kernel, rfl⟩, by decide +kernel⟩
theorem d_M_as_10 : cd_Dk b_M_as 10 (nI 5) 11 := Or.inl ⟨5, ⟨by decide +kernel, rfl⟩, by decide +kernel⟩
theorem d_M_as_11 : cd_D 3 b_M_as 11 (.invokestatic 75) 14 := ⟨by decide +kernel, rfl⟩
theorem d_M_as_14 : cd_D_if_ne b_M_as 14 20 17 := ⟨6, by decide +kernel, by decide, rfl⟩
theorem d_M_as_17 : cd_D 2 b_M_as 17 (.ldc 87) 19 := ⟨by decide +kernel, rfl⟩
theorem d_M_as_19 : cd_D 1 b_M_as 19 .ireturn 20 := ⟨by decide +kernel, rfl⟩
theorem d_M_as_20 : cd_D_aload b_M_as 20 0 21 := Or.inr ⟨0, ⟨by decide +kernel, rfl⟩, rfl⟩
theorem d_M_as_21 : cd_D_iload b_M_as 21 1 22 := Or.inr ⟨1, ⟨by decide +kernel, rfl⟩, rfl⟩
theorem d_M_as_22 : cd_Dk b_M_as 22 (nI 0) 23 := Or.inl ⟨0, ⟨by decide +kernel, rfl⟩, by decide +kernel⟩
theorem d_M_as_23 : cd_D 3 b_M_as 23 (.invokevirtual 97) 26 := ⟨by decide +kernel, rfl⟩
theorem d_M_as_26 : cd_D_iload b_M_as 26 2 27 := Or.inr ⟨2, ⟨by decide +kernel, rfl⟩, rfl⟩
theorem d_M_as_27 : cd_D 3 b_M_as 27 (.invokestatic 130) 30 := ⟨by decide +kernel, rfl⟩
theorem d_M_as_30 : cd_D_if_eq b_M_as 30 42 33 := ⟨12, by decide +kernel, by decide, rfl⟩
theorem d_M_as_33 : cd_D_aload b_M_as 33 0 34 := Or.inr ⟨0, ⟨by decide +kernel, rfl⟩, rfl⟩
theorem d_M_as_34 : cd_D_iload b_M_as 34 1 35 := Or.inr ⟨1, ⟨by decide +kernel, rfl⟩, rfl⟩
theorem d_M_as_35 : cd_Dk b_M_as 35 (nI 2) 36 := Or.inl ⟨2, ⟨by decide +kernel, rfl⟩, by decide +kernel⟩
theorem d_M_as_36 : cd_D 3 b_M_as 36 (.invokevirtual 97) 39 := ⟨by decide +kernel, rfl⟩
theorem d_M_as_39 : cd_D_goto b_M_as 39 44 := ⟨5, by decide +kernel, by decide⟩
theorem d_M_as_42 : cd_D 2 b_M_as 42 (.ldc 133) 44 := ⟨by decide +kernel, rfl⟩
theorem d_M_as_44 : cd_D 1 b_M_as 44 .ireturn 45 := ⟨by decide +kernel, rfl⟩
theorem c_M_as {l : Launch} {w : cd_WT} {S : cd_Sp} {I : cd_Mem} {m : Nat} (hM : cd_MO w S m) (mm tc : Nat) (hV : cd_V (I (m + 1)) mm tc) (a k : Int32) : cd_C l w m_M_as 2 0 0 [.ref m, .int a, .int k] S I (cd_Fi S (sp_as (I (m + 1)) a k) I) := by
  refine cd_intro (by decide) (by simp [Value.category]) (Nat.le_of_ble_eq_true rfl) ?_
  intro X hO hE
  show cd_J w X 0 0 S I 0 [some (.ref m), some (.int a), some (.int k)] []
  refine r_aload hO d_M_as_0 rfl ?_
  refine r_iload hO d_M_as_1 rfl ?_
  refine r_cV1fi hO hE (c_M_isAsking hM _) mf_M_isAsking lk_M_108 hM.2.1 rfl (by decide) rfl (Nat.le_of_ble_eq_true rfl) d_M_as_2 (Nat.zero_le _) (Nat.zero_le _) ?_
  refine r_if_eqB hO d_M_as_5 (fun c_5 => ?_) (fun c_5 => ?_)
  · refine r_ldc hO k_M_87 d_M_as_17 ?_
    refine r_iret hO hE (Nat.zero_le _) (Nat.zero_le _) d_M_as_19 ?_
    exact ⟨by unfold sp_as; rw [if_neg c_5], rfl, rfl⟩
  · obtain ⟨i, hi, rfl⟩ := cd_isA_ex hV.1 hV.2.1 c_5
    have hmm := hV.2.1
    refine r_iload hO d_M_as_8 rfl ?_
    refine r_k hO d_M_as_9 ?_
    refine r_k hO d_M_as_10 ?_
    refine r_cS3fi hO hE (c_M_in _ _ _) mf_M_in lk_M_75 (by decide) rfl (Nat.le_of_ble_eq_true rfl) d_M_as_11 (Nat.zero_le _) (Nat.zero_le _) ?_
    refine r_if_neB hO d_M_as_14 (fun c_14 => ?_) (fun c_14 => ?_)
    · refine r_aload hO d_M_as_20 rfl ?_
      refine r_iload hO d_M_as_21 rfl ?_
      refine r_k hO d_M_as_22 ?_
      refine r_cV2fi hO hE (c_M_of hM _ _ (by omega)) mf_M_of lk_M_97 hM.2.1 rfl (by decide) rfl (Nat.le_of_ble_eq_true rfl) d_M_as_23 (Nat.zero_le _) (Nat.zero_le _) ?_
      refine r_iload hO d_M_as_26 rfl ?_
      refine r_cS2fi hO hE (c_M_isUnder _ _) mf_M_isUnder lk_M_130 (by decide) rfl (Nat.le_of_ble_eq_true rfl) d_M_as_27 (Nat.zero_le _) (Nat.zero_le _) ?_
      refine r_if_eqB hO d_M_as_30 (fun c_30 => ?_) (fun c_30 => ?_)
      · refine r_ldc hO k_M_133 d_M_as_42 ?_
        refine r_iret hO hE (Nat.zero_le _) (Nat.zero_le _) d_M_as_44 ?_
        exact ⟨by unfold sp_as; rw [if_pos c_5, if_pos c_14, cd_tn_nI (by omega), if_neg c_30], rfl, rfl⟩
      · refine r_aload hO d_M_as_33 rfl ?_
        refine r_iload hO d_M_as_34 rfl ?_
        refine r_k hO d_M_as_35 ?_
        refine r_cV2fi hO hE (c_M_of hM _ _ (by omega)) mf_M_of lk_M_97 hM.2.1 rfl (by decide) rfl (Nat.le_of_ble_eq_true rfl) d_M_as_36 (Nat.zero_le _) (Nat.zero_le _) ?_
        refine r_goto hO d_M_as_39 ?_
        refine r_iret hO hE (Nat.zero_le _) (Nat.zero_le _) d_M_as_44 ?_
        exact ⟨by unfold sp_as; rw [if_pos c_5, if_pos c_14, cd_tn_nI (by omega), if_pos c_30], rfl, rfl⟩
    · refine r_ldc hO k_M_87 d_M_as_17 ?_
      refine r_iret hO hE (Nat.zero_le _) (Nat.zero_le _) d_M_as_19 ?_
      exact ⟨by unfold sp_as; rw [if_pos c_5, if_neg c_14], rfl, rfl⟩
theorem d_M_turns_0 : cd_D_aload b_M_turns 0 0 1 := Or.inr ⟨0, ⟨by decide +kernel, rfl⟩, rfl⟩
theorem d_M_turns_1 : cd_D_iload b_M_turns 1 1 2 := Or.inr ⟨1, ⟨by decide +kernel, rfl⟩, rfl⟩
theorem d_M_turns_2 : cd_D 3 b_M_turns 2 (.invokevirtual 108) 5 := ⟨by decide +kernel, rfl⟩
theorem d_M_turns_5 : cd_D_if_eq b_M_turns 5 31 8 := ⟨26, by decide +kernel, by decide, rfl⟩
theorem d_M_turns_8 : cd_D_iload b_M_turns 8 2 9 := Or.inr ⟨2, ⟨by decide +kernel, rfl⟩, rfl⟩
theorem d_M_turns_9 : cd_Dk b_M_turns 9 (nI 0) 10 := Or.inl ⟨0, ⟨by decide +kernel, rfl⟩, by decide +kernel⟩
theorem d_M_turns_10 : cd_Dk b_M_turns 10 (nI 5) 11 := Or.inl ⟨5, ⟨by decide +kernel, rfl⟩, by decide +kernel⟩
theorem d_M_turns_11 : cd_D 3 b_M_turns 11 (.invokestatic 75) 14 := ⟨by decide +kernel, rfl⟩
theorem d_M_turns_14 : cd_D_if_eq b_M_turns 14 31 17 := ⟨17, by decide +kernel, by decide, rfl⟩
theorem d_M_turns_17 : cd_D_aload b_M_turns 17 0 18 := Or.inr ⟨0, ⟨by decide +kernel, rfl⟩, rfl⟩
theorem d_M_turns_18 : cd_Dk b_M_turns 18 (nI 16) 20 := Or.inr (Or.inl ⟨16, ⟨by decide +kernel, rfl⟩, by decide +kernel⟩)
theorem d_M_turns_20 : cd_Dk b_M_turns 20 (nI 5) 21 := Or.inl ⟨5, ⟨by decide +kernel, rfl⟩, by decide +kernel⟩
theorem d_M_turns_21 : cd_D_iload b_M_turns 21 1 22 := Or.inr ⟨1, ⟨by decide +kernel, rfl⟩, rfl⟩
theorem d_M_turns_22 : cd_D 1 b_M_turns 22 .imul 23 := ⟨by decide +kernel, rfl⟩
theorem d_M_turns_23 : cd_D 1 b_M_turns 23 .iadd 24 := ⟨by decide +kernel, rfl⟩
theorem d_M_turns_24 : cd_D_iload b_M_turns 24 2 25 := Or.inr ⟨2, ⟨by decide +kernel, rfl⟩, rfl⟩
theorem d_M_turns_25 : cd_D 3 b_M_turns 25 (.invokevirtual 134) 28 := ⟨by decide +kernel, rfl⟩
theorem d_M_turns_28 : cd_D_goto b_M_turns 28 33 := ⟨5, by decide +kernel, by decide⟩
theorem d_M_turns_31 : cd_D 2 b_M_turns 31 (.ldc 87) 33 := ⟨by decide +kernel, rfl⟩
theorem d_M_turns_33 : cd_D 1 b_M_turns 33 .ireturn 34 := ⟨by decide +kernel, rfl⟩
theorem c_M_turns {l : Launch} {w : cd_WT} {S : cd_Sp} {I : cd_Mem} {m : Nat} (hM : cd_MO w S m) (mm tc : Nat) (hV : cd_V (I (m + 1)) mm tc) (a k : Int32) : cd_C l w m_M_turns 2 0 0 [.ref m, .int a, .int k] S I (cd_Fi S (sp_turns (I (m + 1)) a k).1 (cd_set I (m + 1) (sp_turns (I (m + 1)) a k).2)) := by
  refine cd_intro (by decide) (by simp [Value.category]) (Nat.le_of_ble_eq_true rfl) ?_
  intro X hO hE
  show cd_J w X 0 0 S I 0 [some (.ref m), some (.int a), some (.int k)] []
  refine r_aload hO d_M_turns_0 rfl ?_
  refine r_iload hO d_M_turns_1 rfl ?_
  refine r_cV1fi hO hE (c_M_isAsking hM _) mf_M_isAsking lk_M_108 hM.2.1 rfl (by decide) rfl (Nat.le_of_ble_eq_true rfl) d_M_turns_2 (Nat.zero_le _) (Nat.zero_le _) ?_
  refine r_if_eqB hO d_M_turns_5 (fun c_5 => ?_) (fun c_5 => ?_)
  · refine r_ldc hO k_M_87 d_M_turns_31 ?_
    refine r_iret hO hE (Nat.zero_le _) (Nat.zero_le _) d_M_turns_33 ?_
    exact cd_cl0 (by unfold sp_turns; rw [if_neg c_5])
  · obtain ⟨i, hi, rfl⟩ := cd_isA_ex hV.1 hV.2.1 c_5
    have hmm := hV.2.1
    refine r_iload hO d_M_turns_8 rfl ?_
    refine r_k hO d_M_turns_9 ?_
    refine r_k hO d_M_turns_10 ?_
    refine r_cS3fi hO hE (c_M_in _ _ _) mf_M_in lk_M_75 (by decide) rfl (Nat.le_of_ble_eq_true rfl) d_M_turns_11 (Nat.zero_le _) (Nat.zero_le _) ?_
    refine r_if_eqB hO d_M_turns_14 (fun c_14 => ?_) (fun c_14 => ?_)
    · refine r_ldc hO k_M_87 d_M_turns_31 ?_
      refine r_iret hO hE (Nat.zero_le _) (Nat.zero_le _) d_M_turns_33 ?_
      exact cd_cl0 (by unfold sp_turns; rw [if_pos c_5, if_neg c_14])
    · refine r_aload hO d_M_turns_17 rfl ?_
      refine r_k hO d_M_turns_18 ?_
      refine r_k hO d_M_turns_20 ?_
      refine r_iload hO d_M_turns_21 rfl ?_
      refine r_imulN hO d_M_turns_22 ?_
      refine r_iaddN hO d_M_turns_23 ?_
      refine r_iload hO d_M_turns_24 rfl ?_
      refine r_cV2fi hO hE (c_M_becomes hM _ _ (by omega)) mf_M_becomes lk_M_134 hM.2.1 rfl (by decide) rfl (Nat.le_of_ble_eq_true rfl) d_M_turns_25 (Nat.zero_le _) (Nat.zero_le _) ?_
      refine r_goto hO d_M_turns_28 ?_
      refine r_iret hO hE (Nat.zero_le _) (Nat.zero_le _) d_M_turns_33 ?_
      exact cd_cl1 (by unfold sp_turns; rw [if_pos c_5, if_pos c_14, cd_tn_nI (by omega)])
theorem d_M_set_0 : cd_D_aload b_M_set 0 0 1 := Or.inr ⟨0, ⟨by decide +kernel, rfl⟩, rfl⟩
theorem d_M_set_1 : cd_D_iload b_M_set 1 1 2 := Or.inr ⟨1, ⟨by decide +kernel, rfl⟩, rfl⟩
theorem d_M_set_2 : cd_D 3 b_M_set 2 (.invokevirtual 108) 5 := ⟨by decide +kernel, rfl⟩
theorem d_M_set_5 : cd_D_if_eq b_M_set 5 41 8 := ⟨36, by decide +kernel, by decide, rfl⟩
theorem d_M_set_8 : cd_D_iload b_M_set 8 2 9 := Or.inr ⟨2, ⟨by decide +kernel, rfl⟩, rfl⟩
theorem d_M_set_9 : cd_Dk b_M_set 9 (nI 1) 10 := Or.inl ⟨1, ⟨by decide +kernel, rfl⟩, by decide +kernel⟩
theorem d_M_set_10 : cd_Dk b_M_set 10 (nI 3) 11 := Or.inl ⟨3, ⟨by decide +kernel, rfl⟩, by decide +kernel⟩
theorem d_M_set_11 : cd_D 3 b_M_set 11 (.invokestatic 75) 14 := ⟨by decide +kernel, rfl⟩
theorem d_M_set_14 : cd_D_if_eq b_M_set 14 41 17 := ⟨27, by decide +kernel, by decide, rfl⟩
theorem d_M_set_17 : cd_D_iload b_M_set 17 2 18 := Or.inr ⟨2, ⟨by decide +kernel, rfl⟩, rfl⟩
theorem d_M_set_18 : cd_D_iload b_M_set 18 3 19 := Or.inr ⟨3, ⟨by decide +kernel, rfl⟩, rfl⟩
theorem d_M_set_19 : cd_D 3 b_M_set 19 (.invokestatic 83) 22 := ⟨by decide +kernel, rfl⟩
theorem d_M_set_22 : cd_D_if_eq b_M_set 22 41 25 := ⟨19, by decide +kernel, by decide, rfl⟩
theorem d_M_set_25 : cd_D_aload b_M_set 25 0 26 := Or.inr ⟨0, ⟨by decide +kernel, rfl⟩, rfl⟩
theorem d_M_set_26 : cd_Dk b_M_set 26 (nI 16) 28 := Or.inr (Or.inl ⟨16, ⟨by decide +kernel, rfl⟩, by decide +kernel⟩)
theorem d_M_set_28 : cd_Dk b_M_set 28 (nI 5) 29 := Or.inl ⟨5, ⟨by decide +kernel, rfl⟩, by decide +kernel⟩
theorem d_M_set_29 : cd_D_iload b_M_set 29 1 30 := Or.inr ⟨1, ⟨by decide +kernel, rfl⟩, rfl⟩
theorem d_M_set_30 : cd_D 1 b_M_set 30 .imul 31 := ⟨by decide +kernel, rfl⟩
theorem d_M_set_31 : cd_D 1 b_M_set 31 .iadd 32 := ⟨by decide +kernel, rfl⟩
theorem d_M_set_32 : cd_D_iload b_M_set 32 2 33 := Or.inr ⟨2, ⟨by decide +kernel, rfl⟩, rfl⟩
theorem d_M_set_33 : cd_D 1 b_M_set 33 .iadd 34 := ⟨by decide +kernel, rfl⟩
theorem d_M_set_34 : cd_D_iload b_M_set 34 3 35 := Or.inr ⟨3, ⟨by decide +kernel, rfl⟩, rfl⟩
theorem d_M_set_35 : cd_D 3 b_M_set 35 (.invokevirtual 134) 38 := ⟨by decide +kernel, rfl⟩
theorem d_M_set_38 : cd_D_goto b_M_set 38 43 := ⟨5, by decide +kernel, by decide⟩
theorem d_M_set_41 : cd_D 2 b_M_set 41 (.ldc 87) 43 := ⟨by decide +kernel, rfl⟩
theorem d_M_set_43 : cd_D 1 b_M_set 43 .ireturn 44 := ⟨by decide +kernel, rfl⟩
theorem c_M_set {l : Launch} {w : cd_WT} {S : cd_Sp} {I : cd_Mem} {m : Nat} (hM : cd_MO w S m) (mm tc : Nat) (hV : cd_V (I (m + 1)) mm tc) (a q v : Int32) : cd_C l w m_M_set 2 0 0 [.ref m, .int a, .int q, .int v] S I (cd_Fi S (sp_set (I (m + 1)) a q v).1 (cd_set I (m + 1) (sp_set (I (m + 1)) a q v).2)) := by
  refine cd_intro (by decide) (by simp [Value.category]) (Nat.le_of_ble_eq_true rfl) ?_
  intro X hO hE
  show cd_J w X 0 0 S I 0 [some (.ref m), some (.int a), some (.int q), some (.int v)] []
  refine r_aload hO d_M_set_0 rfl ?_
  refine r_iload hO d_M_set_1 rfl ?_
  refine r_cV1fi hO hE (c_M_isAsking hM _) mf_M_isAsking lk_M_108 hM.2.1 rfl (by decide) rfl (Nat.le_of_ble_eq_true rfl) d_M_set_2 (Nat.zero_le _) (Nat.zero_le _) ?_
  refine r_if_eqB hO d_M_set_5 (fun c_5 => ?_) (fun c_5 => ?_)
  · refine r_ldc hO k_M_87 d_M_set_41 ?_
    refine r_iret hO hE (Nat.zero_le _) (Nat.zero_le _) d_M_set_43 ?_
    exact cd_cl0 (by unfold sp_set; rw [if_neg c_5])
  · obtain ⟨i, hi, rfl⟩ := cd_isA_ex hV.1 hV.2.1 c_5
    have hmm := hV.2.1
    refine r_iload hO d_M_set_8 rfl ?_
    refine r_k hO d_M_set_9 ?_
    refine r_k hO d_M_set_10 ?_
    refine r_cS3fi hO hE (c_M_in _ _ _) mf_M_in lk_M_75 (by decide) rfl (Nat.le_of_ble_eq_true rfl) d_M_set_11 (Nat.zero_le _) (Nat.zero_le _) ?_
    refine r_if_eqB hO d_M_set_14 (fun c_14 => ?_) (fun c_14 => ?_)
    · refine r_ldc hO k_M_87 d_M_set_41 ?_
      refine r_iret hO hE (Nat.zero_le _) (Nat.zero_le _) d_M_set_43 ?_
      exact cd_cl0 (by unfold sp_set; rw [if_pos c_5, if_neg c_14])
    · obtain ⟨z, hz1, hz2, rfl⟩ := cd_in_ex c_14 (by decide) (by decide)
      refine r_iload hO d_M_set_17 rfl ?_
      refine r_iload hO d_M_set_18 rfl ?_
      refine r_cS2fi hO hE (c_M_isOf _ _) mf_M_isOf lk_M_83 (by decide) rfl (Nat.le_of_ble_eq_true rfl) d_M_set_19 (Nat.zero_le _) (Nat.zero_le _) ?_
      refine r_if_eqB hO d_M_set_22 (fun c_22 => ?_) (fun c_22 => ?_)
      · refine r_ldc hO k_M_87 d_M_set_41 ?_
        refine r_iret hO hE (Nat.zero_le _) (Nat.zero_le _) d_M_set_43 ?_
        exact cd_cl0 (by unfold sp_set; rw [if_pos c_5, if_pos c_14, if_neg c_22])
      · refine r_aload hO d_M_set_25 rfl ?_
        refine r_k hO d_M_set_26 ?_
        refine r_k hO d_M_set_28 ?_
        refine r_iload hO d_M_set_29 rfl ?_
        refine r_imulN hO d_M_set_30 ?_
        refine r_iaddN hO d_M_set_31 ?_
        refine r_iload hO d_M_set_32 rfl ?_
        refine r_iaddN hO d_M_set_33 ?_
        refine r_iload hO d_M_set_34 rfl ?_
        refine r_cV2fi hO hE (c_M_becomes hM _ _ (by omega)) mf_M_becomes lk_M_134 hM.2.1 rfl (by decide) rfl (Nat.le_of_ble_eq_true rfl) d_M_set_35 (Nat.zero_le _) (Nat.zero_le _) ?_
        refine r_goto hO d_M_set_38 ?_
        refine r_iret hO hE (Nat.zero_le _) (Nat.zero_le _) d_M_set_43 ?_
        exact cd_cl1 (by unfold sp_set; rw [if_pos c_5, if_pos c_14, if_pos c_22, cd_tn_nI (by omega), cd_tn_nI (by omega)])
theorem d_M_rule_0 : cd_D_iload b_M_rule 0 1 1 := Or.inr ⟨1, ⟨by decide +kernel, rfl⟩, rfl⟩
theorem d_M_rule_1 : cd_D_if_ne b_M_rule 1 9 4 := ⟨8, by decide +kernel, by decide, rfl⟩
theorem d_M_rule_4 : cd_Dk b_M_rule 4 (nI 99) 6 := Or.inr (Or.inl ⟨99, ⟨by decide +kernel, rfl⟩, by decide +kernel⟩)
theorem d_M_rule_6 : cd_D_goto b_M_rule 6 20 := ⟨14, by decide +kernel, by decide⟩
theorem d_M_rule_9 : cd_D_iload b_M_rule 9 1 10 := Or.inr ⟨1, ⟨by decide +kernel, rfl⟩, rfl⟩
theorem d_M_rule_10 : cd_Dk b_M_rule 10 (nI 3) 11 := Or.inl ⟨3, ⟨by decide +kernel, rfl⟩, by decide +kernel⟩
theorem d_M_rule_11 : cd_D_icmp_ge b_M_rule 11 19 14 := ⟨8, by decide +kernel, by decide, rfl⟩
theorem d_M_rule_14 : cd_Dk b_M_rule 14 (nI 100) 16 := Or.inr (Or.inl ⟨100, ⟨by decide +kernel, rfl⟩, by decide +kernel⟩)
theorem d_M_rule_16 : cd_D_goto b_M_rule 16 20 := ⟨4, by decide +kernel, by decide⟩
theorem d_M_rule_19 : cd_Dk b_M_rule 19 (nI 1) 20 := Or.inl ⟨1, ⟨by decide +kernel, rfl⟩, by decide +kernel⟩
theorem d_M_rule_20 : cd_D_istore b_M_rule 20 3 21 := Or.inr ⟨3, ⟨by decide +kernel, rfl⟩, rfl⟩
theorem d_M_rule_21 : cd_D_iload b_M_rule 21 1 22 := Or.inr ⟨1, ⟨by decide +kernel, rfl⟩, rfl⟩
theorem d_M_rule_22 : cd_Dk b_M_rule 22 (nI 0) 23 := Or.inl ⟨0, ⟨by decide +kernel, rfl⟩, by decide +kernel⟩
theorem d_M_rule_23 : cd_Dk b_M_rule 23 (nI 6) 25 := Or.inr (Or.inl ⟨6, ⟨by decide +kernel, rfl⟩, by decide +kernel⟩)
theorem d_M_rule_25 : cd_D 3 b_M_rule 25 (.invokestatic 75) 28 := ⟨by decide +kernel, rfl⟩
theorem d_M_rule_28 : cd_D_if_eq b_M_rule 28 51 31 := ⟨23, by decide +kernel, by decide, rfl⟩
theorem d_M_rule_31 : cd_D_iload b_M_rule 31 2 32 := Or.inr ⟨2, ⟨by decide +kernel, rfl⟩, rfl⟩
theorem d_M_rule_32 : cd_Dk b_M_rule 32 (nI 0) 33 := Or.inl ⟨0, ⟨by decide +kernel, rfl⟩, by decide +kernel⟩
theorem d_M_rule_33 : cd_D_iload b_M_rule 33 3 34 := Or.inr ⟨3, ⟨by decide +kernel, rfl⟩, rfl⟩
theorem d_M_rule_34 : cd_D 3 b_M_rule 34 (.invokestatic 75) 37 := ⟨by decide +kernel, rfl⟩
theorem d_M_rule_37 : cd_D_if_eq b_M_rule 37 51 40 := ⟨14, by decide +kernel, by decide, rfl⟩
theorem d_M_rule_40 : cd_D_aload b_M_rule 40 0 41 := Or.inr ⟨0, ⟨by decide +kernel, rfl⟩, rfl⟩
theorem d_M_rule_41 : cd_Dk b_M_rule 41 (nI 3) 42 := Or.inl ⟨3, ⟨by decide +kernel, rfl⟩, by decide +kernel⟩
theorem d_M_rule_42 : cd_D_iload b_M_rule 42 1 43 := Or.inr ⟨1, ⟨by decide +kernel, rfl⟩, rfl⟩
theorem d_M_rule_43 : cd_D 1 b_M_rule 43 .iadd 44 := ⟨by decide +kernel, rfl⟩
theorem d_M_rule_44 : cd_D_iload b_M_rule 44 2 45 := Or.inr ⟨2, ⟨by decide +kernel, rfl⟩, rfl⟩
theorem d_M_rule_45 : cd_D 3 b_M_rule 45 (.invokevirtual 134) 48 := ⟨by decide +kernel, rfl⟩
theorem d_M_rule_48 : cd_D_goto b_M_rule 48 53 := ⟨5, by decide +kernel, by decide⟩
theorem d_M_rule_51 : cd_D 2 b_M_rule 51 (.ldc 87) 53 := ⟨by decide +kernel, rfl⟩
theorem d_M_rule_53 : cd_D 1 b_M_rule 53 .ireturn 54 := ⟨by decide +kernel, rfl⟩
theorem c_M_rule {l : Launch} {w : cd_WT} {S : cd_Sp} {I : cd_Mem} {m : Nat} (hM : cd_MO w S m) (q v : Int32) : cd_C l w m_M_rule 1 0 0 [.ref m, .int q, .int v] S I (cd_Fi S (sp_rule (I (m + 1)) q v).1 (cd_set I (m + 1) (sp_rule (I (m + 1)) q v).2)) := by
  refine cd_intro (by decide) (by simp [Value.category]) (Nat.le_of_ble_eq_true rfl) ?_
  intro X hO hE
  show cd_J w X 0 0 S I 0 [some (.ref m), some (.int q), some (.int v), none] []
  refine r_iload hO d_M_rule_0 rfl ?_
  refine r_jn1 (pcJ := 20) (fun x => x = cd_mo q) (fun v_1 hv_1 => ?_) (fun hj_1 => ?_)
  · subst hv_1
    refine r_sI3 hO d_M_rule_20 rfl ?_
    refine r_iload hO d_M_rule_21 rfl ?_
    refine r_k hO d_M_rule_22 ?_
    refine r_k hO d_M_rule_23 ?_
    refine r_cS3fi hO hE (c_M_in _ _ _) mf_M_in lk_M_75 (by decide) rfl (Nat.le_of_ble_eq_true rfl) d_M_rule_25 (Nat.zero_le _) (Nat.zero_le _) ?_
    refine r_if_eqB hO d_M_rule_28 (fun c_28 => ?_) (fun c_28 => ?_)
    · refine r_ldc hO k_M_87 d_M_rule_51 ?_
      refine r_iret hO hE (Nat.zero_le _) (Nat.zero_le _) d_M_rule_53 ?_
      exact cd_cl0 (by unfold sp_rule; rw [if_neg c_28])
    · obtain ⟨z, hz1, hz2, rfl⟩ := cd_in_ex c_28 (by decide) (by decide)
      refine r_iload hO d_M_rule_31 rfl ?_
      refine r_k hO d_M_rule_32 ?_
      refine r_iload hO d_M_rule_33 rfl ?_
      refine r_cS3fi hO hE (c_M_in _ _ _) mf_M_in lk_M_75 (by decide) rfl (Nat.le_of_ble_eq_true rfl) d_M_rule_34 (Nat.zero_le _) (Nat.zero_le _) ?_
      refine r_if_eqB hO d_M_rule_37 (fun c_37 => ?_) (fun c_37 => ?_)
      · refine r_ldc hO k_M_87 d_M_rule_51 ?_
        refine r_iret hO hE (Nat.zero_le _) (Nat.zero_le _) d_M_rule_53 ?_
        exact cd_cl0 (by unfold sp_rule; rw [if_pos c_28, if_neg c_37])
      · refine r_aload hO d_M_rule_40 rfl ?_
        refine r_k hO d_M_rule_41 ?_
        refine r_iload hO d_M_rule_42 rfl ?_
        refine r_iaddN hO d_M_rule_43 ?_
        refine r_iload hO d_M_rule_44 rfl ?_
        refine r_cV2fi hO hE (c_M_becomes hM _ _ (by omega)) mf_M_becomes lk_M_134 hM.2.1 rfl (by decide) rfl (Nat.le_of_ble_eq_true rfl) d_M_rule_45 (Nat.zero_le _) (Nat.zero_le _) ?_
        refine r_goto hO d_M_rule_48 ?_
        refine r_iret hO hE (Nat.zero_le _) (Nat.zero_le _) d_M_rule_53 ?_
        exact cd_cl1 (by unfold sp_rule; rw [if_pos c_28, if_pos c_37, cd_tn_nI (by omega)])
  · refine r_if_ne hO d_M_rule_1 (fun c_1 => ?_) (fun c_1 => ?_)
    · refine r_iload hO d_M_rule_9 rfl ?_
      refine r_k hO d_M_rule_10 ?_
      refine r_icmp_ge hO d_M_rule_11 (fun c_11 => ?_) (fun c_11 => ?_)
      · refine r_k hO d_M_rule_19 ?_
        exact hj_1 _ (by unfold cd_mo; rw [if_neg c_1, if_pos c_11])
      · refine r_k hO d_M_rule_14 ?_
        refine r_goto hO d_M_rule_16 ?_
        exact hj_1 _ (by unfold cd_mo; rw [if_neg c_1, if_neg c_11])
    · refine r_k hO d_M_rule_4 ?_
      refine r_goto hO d_M_rule_6 ?_
      exact hj_1 _ (by unfold cd_mo; rw [if_pos c_1])
theorem d_M_opens_0 : cd_D_aload b_M_opens 0 0 1 := Or.inr ⟨0, ⟨by decide +kernel, rfl⟩, rfl⟩
theorem d_M_opens_1 : cd_D_iload b_M_opens 1 1 2 := Or.inr ⟨1, ⟨by decide +kernel, rfl⟩, rfl⟩
theorem d_M_opens_2 : cd_D 3 b_M_opens 2 (.invokevirtual 108) 5 := ⟨by decide +kernel, rfl⟩
theorem d_M_opens_5 : cd_D_if_eq b_M_opens 5 16 8 := ⟨11, by decide +kernel, by decide, rfl⟩
theorem d_M_opens_8 : cd_D_aload b_M_opens 8 0 9 := Or.inr ⟨0, ⟨by decide +kernel, rfl⟩, rfl⟩
theorem d_M_opens_9 : cd_D_iload b_M_opens 9 1 10 := Or.inr ⟨1, ⟨by decide +kernel, rfl⟩, rfl⟩
theorem d_M_opens_10 : cd_D 3 b_M_opens 10 (.invokevirtual 152) 13 := ⟨by decide +kernel, rfl⟩
theorem d_M_opens_13 : cd_D_goto b_M_opens 13 18 := ⟨5, by decide +kernel, by decide⟩
theorem d_M_opens_16 : cd_D 2 b_M_opens 16 (.ldc 87) 18 := ⟨by decide +kernel, rfl⟩
theorem d_M_opens_18 : cd_D 1 b_M_opens 18 .ireturn 19 := ⟨by decide +kernel, rfl⟩
theorem c_M_opens {l : Launch} {w : cd_WT} {S : cd_Sp} {I : cd_Mem} {m : Nat} (hM : cd_MO w S m) (mm tc : Nat) (hV : cd_V (I (m + 1)) mm tc) (a : Int32) : cd_C l w m_M_opens 4 0 0 [.ref m, .int a] S I (cd_Fi S (sp_opens (I (m + 1)) a).1 (cd_set I (m + 1) (sp_opens (I (m + 1)) a).2)) := by
  refine cd_intro (by decide) (by simp [Value.category]) (Nat.le_of_ble_eq_true rfl) ?_
  intro X hO hE
  show cd_J w X 0 0 S I 0 [some (.ref m), some (.int a)] []
  refine r_aload hO d_M_opens_0 rfl ?_
  refine r_iload hO d_M_opens_1 rfl ?_
  refine r_cV1fi hO hE (c_M_isAsking hM _) mf_M_isAsking lk_M_108 hM.2.1 rfl (by decide) rfl (Nat.le_of_ble_eq_true rfl) d_M_opens_2 (Nat.zero_le _) (Nat.zero_le _) ?_
  refine r_if_eqB hO d_M_opens_5 (fun c_5 => ?_) (fun c_5 => ?_)
  · refine r_ldc hO k_M_87 d_M_opens_16 ?_
    refine r_iret hO hE (Nat.zero_le _) (Nat.zero_le _) d_M_opens_18 ?_
    exact cd_cl0 (by unfold sp_opens; rw [if_neg c_5])
  · obtain ⟨i, hi, rfl⟩ := cd_isA_ex hV.1 hV.2.1 c_5
    have hmm := hV.2.1
    refine r_aload hO d_M_opens_8 rfl ?_
    refine r_iload hO d_M_opens_9 rfl ?_
    refine r_cV1fi hO hE (c_M_rises hM _ (by omega)) mf_M_rises lk_M_152 hM.2.1 rfl (by decide) rfl (Nat.le_of_ble_eq_true rfl) d_M_opens_10 (Nat.zero_le _) (Nat.zero_le _) ?_
    refine r_goto hO d_M_opens_13 ?_
    refine r_iret hO hE (Nat.zero_le _) (Nat.zero_le _) d_M_opens_18 ?_
    exact cd_clp (by unfold sp_opens; rw [if_pos c_5, cd_tn_nI (by omega)])
theorem d_M_seed_0 : cd_D_aload b_M_seed 0 0 1 := Or.inr ⟨0, ⟨by decide +kernel, rfl⟩, rfl⟩
theorem d_M_seed_1 : cd_Dk b_M_seed 1 (nI 0) 2 := Or.inl ⟨0, ⟨by decide +kernel, rfl⟩, by decide +kernel⟩
theorem d_M_seed_2 : cd_D_iload b_M_seed 2 1 3 := Or.inr ⟨1, ⟨by decide +kernel, rfl⟩, rfl⟩
theorem d_M_seed_3 : cd_D 3 b_M_seed 3 (.invokevirtual 134) 6 := ⟨by decide +kernel, rfl⟩
theorem d_M_seed_6 : cd_D 1 b_M_seed 6 .ireturn 7 := ⟨by decide +kernel, rfl⟩
theorem c_M_seed {l : Launch} {w : cd_WT} {S : cd_Sp} {I : cd_Mem} {m : Nat} (hM : cd_MO w S m) (v : Int32) : cd_C l w m_M_seed 1 0 0 [.ref m, .int v] S I (cd_Fi S (I (m + 1) 0) (cd_set I (m + 1) (upd (I (m + 1)) 0 v))) := by
  refine cd_intro (by decide) (by simp [Value.category]) (Nat.le_of_ble_eq_true rfl) ?_
  intro X hO hE
  show cd_J w X 0 0 S I 0 [some (.ref m), some (.int v)] []
  refine r_aload hO d_M_seed_0 rfl ?_
  refine r_k hO d_M_seed_1 ?_
  refine r_iload hO d_M_seed_2 rfl ?_
  refine r_cV2fi hO hE (c_M_becomes hM _ _ (by omega)) mf_M_becomes lk_M_134 hM.2.1 rfl (by decide) rfl (Nat.le_of_ble_eq_true rfl) d_M_seed_3 (Nat.zero_le _) (Nat.zero_le _) ?_
  refine r_iret hO hE (Nat.zero_le _) (Nat.zero_le _) d_M_seed_6 ?_
  exact ⟨rfl, rfl, rfl⟩
