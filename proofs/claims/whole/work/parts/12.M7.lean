def cd_d1 (N : Nat → Int32) (mm : Nat) : Nat → Int32 := cd_comes (cd_dr (cd_dr (cd_dr (cd_dr N)))) mm (cd_rem (cd_dv N) (nI 6)) (cd_rem (cd_dv (cd_dr N)) (nI 24)) (cd_rem (cd_dv (cd_dr (cd_dr N))) (nI 100)) (cd_rem (cd_dv (cd_dr (cd_dr (cd_dr N)))) (nI 101))
def cd_dl (N : Nat → Int32) (mm : Nat) : Nat → Nat → Int32
  | 0 => N
  | c + 1 => cd_d1 (cd_dl N mm c) (mm + c)
theorem cd_dl_1 {N : Nat → Int32} {mm : Nat} (h : N 1 = nI mm) : ∀ c, cd_dl N mm c 1 = nI (mm + c)
  | 0 => h
  | c + 1 => by
    show cd_d1 (cd_dl N mm c) (mm + c) 1 = _
    unfold cd_d1 cd_comes
    simp only [upd]
    simp
    rw [if_neg (by omega)]
    rfl
def sp_deal (N : Nat → Int32) (mm : Nat) (n : Int32) : Int32 × (Nat → Int32) := if nI 1 ≤ n ∧ n ≤ nI 12 then (nI (min (cd_tn n) (12 - mm)), cd_dl N mm (min (cd_tn n) (12 - mm))) else (cd_BAD, N)
theorem cd_wi_nI {a b : Nat} (ha : a < 2 ^ 31) (hb : b < 2 ^ 31) : cd_wi (nI a) (nI 0) (nI b) = nI (min a b) := by
  unfold cd_wi
  rw [if_neg (nI_nlt (by omega) ha)]
  by_cases h : b < a
  · rw [if_pos (nI_lt h ha)]
    congr 1
    omega
  · rw [if_neg (nI_nlt (by omega) hb)]
    congr 1
    omega
def sp_hours (N : Nat → Int32) (mm tc hh : Nat) (n : Int32) : Int32 × (Nat → Int32) := if nI 1 ≤ n ∧ n ≤ nI 100 then (cd_hs N mm tc (min (9999 - hh) (cd_tn n)) 10 - N 10, cd_hs N mm tc (min (9999 - hh) (cd_tn n))) else (cd_BAD, N)
def cd_nj (N : Nat → Int32) (t : Int32) : Nat → Int32
  | 0 => nI 0
  | a + 1 => cd_nj N t a ||| (if N (16 + 5 * a + 2) ≤ 0 then nI 0 else if N (16 + 5 * a + 1) = t then nI 1 <<< (nI a &&& 31) else nI 0)
def cd_nk (N : Nat → Int32) (mm : Nat) : Nat → Int32
  | 0 => nI 0
  | k + 1 => if cd_nk N mm k = 0 then cd_nj N (cd_rem (N 2 + nI k) (nI 24)) mm else cd_nk N mm k
theorem cd_nk_st {N : Nat → Int32} {mm k : Nat} (h : ¬ cd_nk N mm k = 0) : ∀ r, cd_nk N mm (k + r) = cd_nk N mm k
  | 0 => rfl
  | r + 1 => by
    show (if cd_nk N mm (k + r) = 0 then _ else cd_nk N mm (k + r)) = _
    rw [cd_nk_st h r, if_neg h]
def sp_house (N : Nat → Int32) (mm : Nat) (q : Int32) : Int32 := if nI 0 ≤ q ∧ q ≤ nI 7 then (if q = 0 then N 7 else if nI 6 ≤ q then (if q = nI 6 then cd_hb N mm else cd_nk N mm 24) else N (10 + cd_tn q - 1)) else cd_BAD
theorem d_M_deal_0 : cd_D_iload b_M_deal 0 1 1 := Or.inr ⟨1, ⟨by decide +kernel, rfl⟩, rfl⟩
theorem d_M_deal_1 : cd_Dk b_M_deal 1 (nI 1) 2 := Or.inl ⟨1, ⟨by decide +kernel, rfl⟩, by decide +kernel⟩
theorem d_M_deal_2 : cd_Dk b_M_deal 2 (nI 12) 4 := Or.inr (Or.inl ⟨12, ⟨by decide +kernel, rfl⟩, by decide +kernel⟩)
theorem d_M_deal_4 : cd_D 3 b_M_deal 4 (.invokestatic 75) 7 := ⟨by decide +kernel, rfl⟩
theorem d_M_deal_7 : cd_D_if_ne b_M_deal 7 13 10 := ⟨6, by decide +kernel, by decide, rfl⟩
theorem d_M_deal_10 : cd_D 2 b_M_deal 10 (.ldc 87) 12 := ⟨by decide +kernel, rfl⟩
theorem d_M_deal_12 : cd_D 1 b_M_deal 12 .ireturn 13 := ⟨by decide +kernel, rfl⟩
theorem d_M_deal_13 : cd_Dk b_M_deal 13 (nI 0) 14 := Or.inl ⟨0, ⟨by decide +kernel, rfl⟩, by decide +kernel⟩
theorem d_M_deal_14 : cd_D_istore b_M_deal 14 2 15 := Or.inr ⟨2, ⟨by decide +kernel, rfl⟩, rfl⟩
theorem d_M_deal_15 : cd_D_iload b_M_deal 15 2 16 := Or.inr ⟨2, ⟨by decide +kernel, rfl⟩, rfl⟩
theorem d_M_deal_16 : cd_D_iload b_M_deal 16 1 17 := Or.inr ⟨1, ⟨by decide +kernel, rfl⟩, rfl⟩
theorem d_M_deal_17 : cd_D_icmp_ge b_M_deal 17 81 20 := ⟨64, by decide +kernel, by decide, rfl⟩
theorem d_M_deal_20 : cd_D_aload b_M_deal 20 0 21 := Or.inr ⟨0, ⟨by decide +kernel, rfl⟩, rfl⟩
theorem d_M_deal_21 : cd_D 3 b_M_deal 21 (.getfield 9) 24 := ⟨by decide +kernel, rfl⟩
theorem d_M_deal_24 : cd_Dk b_M_deal 24 (nI 1) 25 := Or.inl ⟨1, ⟨by decide +kernel, rfl⟩, by decide +kernel⟩
theorem d_M_deal_25 : cd_D 1 b_M_deal 25 .iaload 26 := ⟨by decide +kernel, rfl⟩
theorem d_M_deal_26 : cd_Dk b_M_deal 26 (nI 12) 28 := Or.inr (Or.inl ⟨12, ⟨by decide +kernel, rfl⟩, by decide +kernel⟩)
theorem d_M_deal_28 : cd_D_icmp_ge b_M_deal 28 81 31 := ⟨53, by decide +kernel, by decide, rfl⟩
theorem d_M_deal_31 : cd_D_aload b_M_deal 31 0 32 := Or.inr ⟨0, ⟨by decide +kernel, rfl⟩, rfl⟩
theorem d_M_deal_32 : cd_D 3 b_M_deal 32 (.invokevirtual 138) 35 := ⟨by decide +kernel, rfl⟩
theorem d_M_deal_35 : cd_Dk b_M_deal 35 (nI 6) 37 := Or.inr (Or.inl ⟨6, ⟨by decide +kernel, rfl⟩, by decide +kernel⟩)
theorem d_M_deal_37 : cd_D 1 b_M_deal 37 .irem 38 := ⟨by decide +kernel, rfl⟩
theorem d_M_deal_38 : cd_D_istore b_M_deal 38 3 39 := Or.inr ⟨3, ⟨by decide +kernel, rfl⟩, rfl⟩
theorem d_M_deal_39 : cd_D_aload b_M_deal 39 0 40 := Or.inr ⟨0, ⟨by decide +kernel, rfl⟩, rfl⟩
theorem d_M_deal_40 : cd_D 3 b_M_deal 40 (.invokevirtual 138) 43 := ⟨by decide +kernel, rfl⟩
theorem d_M_deal_43 : cd_Dk b_M_deal 43 (nI 24) 45 := Or.inr (Or.inl ⟨24, ⟨by decide +kernel, rfl⟩, by decide +kernel⟩)
theorem d_M_deal_45 : cd_D 1 b_M_deal 45 .irem 46 := ⟨by decide +kernel, rfl⟩
theorem d_M_deal_46 : cd_D_istore b_M_deal 46 4 48 := Or.inl ⟨by decide +kernel, rfl⟩
theorem d_M_deal_48 : cd_D_aload b_M_deal 48 0 49 := Or.inr ⟨0, ⟨by decide +kernel, rfl⟩, rfl⟩
theorem d_M_deal_49 : cd_D 3 b_M_deal 49 (.invokevirtual 138) 52 := ⟨by decide +kernel, rfl⟩
theorem d_M_deal_52 : cd_Dk b_M_deal 52 (nI 100) 54 := Or.inr (Or.inl ⟨100, ⟨by decide +kernel, rfl⟩, by decide +kernel⟩)
theorem d_M_deal_54 : cd_D 1 b_M_deal 54 .irem 55 := ⟨by decide +kernel, rfl⟩
theorem d_M_deal_55 : cd_D_istore b_M_deal 55 5 57 := Or.inl ⟨by decide +kernel, rfl⟩
theorem d_M_deal_57 : cd_D_aload b_M_deal 57 0 58 := Or.inr ⟨0, ⟨by decide +kernel, rfl⟩, rfl⟩
theorem d_M_deal_58 : cd_D_iload b_M_deal 58 3 59 := Or.inr ⟨3, ⟨by decide +kernel, rfl⟩, rfl⟩
theorem d_M_deal_59 : cd_D_iload b_M_deal 59 4 61 := Or.inl ⟨by decide +kernel, rfl⟩
theorem d_M_deal_61 : cd_D_iload b_M_deal 61 5 63 := Or.inl ⟨by decide +kernel, rfl⟩
theorem d_M_deal_63 : cd_D_aload b_M_deal 63 0 64 := Or.inr ⟨0, ⟨by decide +kernel, rfl⟩, rfl⟩
theorem d_M_deal_64 : cd_D 3 b_M_deal 64 (.invokevirtual 138) 67 := ⟨by decide +kernel, rfl⟩
theorem d_M_deal_67 : cd_Dk b_M_deal 67 (nI 101) 69 := Or.inr (Or.inl ⟨101, ⟨by decide +kernel, rfl⟩, by decide +kernel⟩)
theorem d_M_deal_69 : cd_D 1 b_M_deal 69 .irem 70 := ⟨by decide +kernel, rfl⟩
theorem d_M_deal_70 : cd_D 3 b_M_deal 70 (.invokevirtual 89) 73 := ⟨by decide +kernel, rfl⟩
theorem d_M_deal_73 : cd_D_istore b_M_deal 73 6 75 := Or.inl ⟨by decide +kernel, rfl⟩
theorem d_M_deal_75 : cd_D 3 b_M_deal 75 (.iinc 2 (1)) 78 := ⟨by decide +kernel, rfl⟩
theorem d_M_deal_78 : cd_D_goto b_M_deal 78 15 := ⟨-63, by decide +kernel, by decide⟩
theorem d_M_deal_81 : cd_D_iload b_M_deal 81 2 82 := Or.inr ⟨2, ⟨by decide +kernel, rfl⟩, rfl⟩
theorem d_M_deal_82 : cd_D 1 b_M_deal 82 .ireturn 83 := ⟨by decide +kernel, rfl⟩
theorem c_M_deal {l : Launch} {w : cd_WT} {S : cd_Sp} {I : cd_Mem} {m : Nat} (hM : cd_MO w S m) (mm tc : Nat) (hV : cd_V (I (m + 1)) mm tc) (n : Int32) : cd_C l w m_M_deal 2 0 0 [.ref m, .int n] S I (cd_Fi S (sp_deal (I (m + 1)) mm n).1 (cd_set I (m + 1) (sp_deal (I (m + 1)) mm n).2)) := by
  refine cd_intro (by decide) (by simp [Value.category]) (Nat.le_of_ble_eq_true rfl) ?_
  intro X hO hE
  show cd_J w X 0 0 S I 0 [some (.ref m), some (.int n), none, none, none, none, none] []
  obtain ⟨hN1, hmm, hN15, htc, hTW⟩ := id hV
  have loop : ∀ (z : Nat) (hz : z ≤ 12) (hp : sp_deal (I (m + 1)) mm n = (nI (min z (12 - mm)), cd_dl (I (m + 1)) mm (min z (12 - mm)))) (r c : Nat) (x3 x4 x5 x6 : Option Value), c + r = min z (12 - mm) → cd_nl x3 = true → cd_nl x4 = true → cd_nl x5 = true → cd_J w X 0 0 S (cd_set I (m + 1) (cd_dl (I (m + 1)) mm c)) 15 [some (.ref m), some (.int (nI z)), some (.int (nI c)), x3, x4, x5, x6] [] := by
    intro z hz hp r
    induction r with
    | zero =>
      intro c x3 x4 x5 x6 hc hx3 hx4 hx5
      have h1 := cd_dl_1 hN1 c
      have hcz : c = min z (12 - mm) := by omega
      refine r_iload hO d_M_deal_15 rfl ?_
      refine r_iload hO d_M_deal_16 rfl ?_
      refine r_icmp_ge hO d_M_deal_17 (fun c_17 => ?_) (fun c_17 => ?_)
      · refine r_iload hO d_M_deal_81 rfl ?_
        refine r_iret hO hE (Nat.zero_le _) (Nat.zero_le _) d_M_deal_82 ?_
        exact cd_cl1 (by rw [hp, hcz])
      · have hcz2 : c < z := Nat.lt_of_not_le (fun q => c_17 (nI_le q (by omega)))
        refine r_aload hO d_M_deal_20 rfl ?_
        refine r_getR hO f_M_9 rfl hM.2.1 (mo_r1 hM) d_M_deal_21 ?_
        try simp only [cd_set_eq, cd_set_set]
        refine r_k hO d_M_deal_24 ?_
        refine r_iald hO (mo_s1 hM) (by omega) (by decide) d_M_deal_25 ?_
        try simp only [cd_set_eq, cd_set_set]
        refine r_tops h1 ?_
        refine r_k hO d_M_deal_26 ?_
        refine r_icmp_ge hO d_M_deal_28 (fun c_28 => ?_) (fun c_28 => ?_)
        · refine r_iload hO d_M_deal_81 rfl ?_
          refine r_iret hO hE (Nat.zero_le _) (Nat.zero_le _) d_M_deal_82 ?_
          exact cd_cl1 (by rw [hp, hcz])
        · exact absurd (nI_le (show 12 ≤ mm + c by omega) (by omega)) c_28
    | succ r ih =>
      intro c x3 x4 x5 x6 hc hx3 hx4 hx5
      have h1 := cd_dl_1 hN1 c
      refine r_iload hO d_M_deal_15 rfl ?_
      refine r_iload hO d_M_deal_16 rfl ?_
      refine r_icmp_ge hO d_M_deal_17 (fun c_17 => ?_) (fun c_17 => ?_)
      · exact absurd c_17 (nI_ge (by omega) (by omega))
      · refine r_aload hO d_M_deal_20 rfl ?_
        refine r_getR hO f_M_9 rfl hM.2.1 (mo_r1 hM) d_M_deal_21 ?_
        try simp only [cd_set_eq, cd_set_set]
        refine r_k hO d_M_deal_24 ?_
        refine r_iald hO (mo_s1 hM) (by omega) (by decide) d_M_deal_25 ?_
        try simp only [cd_set_eq, cd_set_set]
        refine r_tops h1 ?_
        refine r_k hO d_M_deal_26 ?_
        refine r_icmp_ge hO d_M_deal_28 (fun c_28 => ?_) (fun c_28 => ?_)
        · exact absurd c_28 (nI_ge (show mm + c < 12 by omega) (by decide))
        · refine r_aload hO d_M_deal_31 rfl ?_
          refine r_cV0fi hO hE (c_M_draw hM) mf_M_draw lk_M_138 hM.2.1 rfl (by decide) rfl (Nat.le_of_ble_eq_true rfl) d_M_deal_32 (Nat.zero_le _) (Nat.zero_le _) ?_
          try simp only [cd_set_eq, cd_set_set]
          refine r_k hO d_M_deal_35 ?_
          refine r_irem hO d_M_deal_37 (by decide) ?_
          refine r_sI3 hO d_M_deal_38 rfl ?_
          refine r_aload hO d_M_deal_39 rfl ?_
          refine r_cV0fi hO hE (c_M_draw hM) mf_M_draw lk_M_138 hM.2.1 rfl (by decide) rfl (Nat.le_of_ble_eq_true rfl) d_M_deal_40 (Nat.zero_le _) (Nat.zero_le _) ?_
          try simp only [cd_set_eq, cd_set_set]
          refine r_k hO d_M_deal_43 ?_
          refine r_irem hO d_M_deal_45 (by decide) ?_
          refine r_sI4 hO d_M_deal_46 rfl ?_
          refine r_aload hO d_M_deal_48 rfl ?_
          refine r_cV0fi hO hE (c_M_draw hM) mf_M_draw lk_M_138 hM.2.1 rfl (by decide) rfl (Nat.le_of_ble_eq_true rfl) d_M_deal_49 (Nat.zero_le _) (Nat.zero_le _) ?_
          try simp only [cd_set_eq, cd_set_set]
          refine r_k hO d_M_deal_52 ?_
          refine r_irem hO d_M_deal_54 (by decide) ?_
          refine r_sI5 hO d_M_deal_55 rfl ?_
          refine r_aload hO d_M_deal_57 rfl ?_
          refine r_iload hO d_M_deal_58 rfl ?_
          refine r_iload hO d_M_deal_59 rfl ?_
          refine r_iload hO d_M_deal_61 rfl ?_
          refine r_aload hO d_M_deal_63 rfl ?_
          refine r_cV0fi hO hE (c_M_draw hM) mf_M_draw lk_M_138 hM.2.1 rfl (by decide) rfl (Nat.le_of_ble_eq_true rfl) d_M_deal_64 (Nat.zero_le _) (Nat.zero_le _) ?_
          try simp only [cd_set_eq, cd_set_set]
          refine r_k hO d_M_deal_67 ?_
          refine r_irem hO d_M_deal_69 (by decide) ?_
          refine r_cV4fi hO hE (c_M_comes hM (mm + c) (by rw [cd_set_eq]; exact (kq_dr _ 1 (by omega)).trans ((kq_dr _ 1 (by omega)).trans ((kq_dr _ 1 (by omega)).trans ((kq_dr _ 1 (by omega)).trans h1)))) (by omega) _ _ _ _) mf_M_comes lk_M_89 hM.2.1 rfl (by decide) rfl (Nat.le_of_ble_eq_true rfl) d_M_deal_70 (Nat.zero_le _) (Nat.zero_le _) ?_
          try simp only [cd_set_eq, cd_set_set]
          refine r_sI6 hO d_M_deal_73 rfl ?_
          refine r_incN2 hO d_M_deal_75 rfl ?_
          refine r_goto hO d_M_deal_78 ?_
          refine r_mem (show _ = cd_set I (m + 1) (cd_dl (I (m + 1)) mm (c + 1)) from rfl) ?_
          exact ih (c + 1) _ _ _ _ (by omega) rfl rfl rfl
  refine r_iload hO d_M_deal_0 rfl ?_
  refine r_k hO d_M_deal_1 ?_
  refine r_k hO d_M_deal_2 ?_
  refine r_cS3fi hO hE (c_M_in _ _ _) mf_M_in lk_M_75 (by decide) rfl (Nat.le_of_ble_eq_true rfl) d_M_deal_4 (Nat.zero_le _) (Nat.zero_le _) ?_
  refine r_if_neB hO d_M_deal_7 (fun c_7 => ?_) (fun c_7 => ?_)
  · obtain ⟨z, hz1, hz2, rfl⟩ := cd_in_ex c_7 (by decide) (by decide)
    refine r_k hO d_M_deal_13 ?_
    refine r_sI2 hO d_M_deal_14 rfl ?_
    refine r_mem (show I = cd_set I (m + 1) (cd_dl (I (m + 1)) mm 0) from (cd_set_self _ _).symm) ?_
    exact loop z hz2 (by unfold sp_deal; rw [if_pos c_7, cd_tn_nI (by omega)]) _ 0 _ _ _ _ (Nat.zero_add _) rfl rfl rfl
  · refine r_ldc hO k_M_87 d_M_deal_10 ?_
    refine r_iret hO hE (Nat.zero_le _) (Nat.zero_le _) d_M_deal_12 ?_
    exact cd_cl0 (by unfold sp_deal; rw [if_neg c_7])
theorem d_M_hours_0 : cd_D_iload b_M_hours 0 1 1 := Or.inr ⟨1, ⟨by decide +kernel, rfl⟩, rfl⟩
theorem d_M_hours_1 : cd_Dk b_M_hours 1 (nI 1) 2 := Or.inl ⟨1, ⟨by decide +kernel, rfl⟩, by decide +kernel⟩
theorem d_M_hours_2 : cd_Dk b_M_hours 2 (nI 100) 4 := Or.inr (Or.inl ⟨100, ⟨by decide +kernel, rfl⟩, by decide +kernel⟩)
theorem d_M_hours_4 : cd_D 3 b_M_hours 4 (.invokestatic 75) 7 := ⟨by decide +kernel, rfl⟩
theorem d_M_hours_7 : cd_D_if_ne b_M_hours 7 13 10 := ⟨6, by decide +kernel, by decide, rfl⟩
theorem d_M_hours_10 : cd_D 2 b_M_hours 10 (.ldc 87) 12 := ⟨by decide +kernel, rfl⟩
theorem d_M_hours_12 : cd_D 1 b_M_hours 12 .ireturn 13 := ⟨by decide +kernel, rfl⟩
theorem d_M_hours_13 : cd_D_aload b_M_hours 13 0 14 := Or.inr ⟨0, ⟨by decide +kernel, rfl⟩, rfl⟩
theorem d_M_hours_14 : cd_D 3 b_M_hours 14 (.getfield 9) 17 := ⟨by decide +kernel, rfl⟩
theorem d_M_hours_17 : cd_Dk b_M_hours 17 (nI 10) 19 := Or.inr (Or.inl ⟨10, ⟨by decide +kernel, rfl⟩, by decide +kernel⟩)
theorem d_M_hours_19 : cd_D 1 b_M_hours 19 .iaload 20 := ⟨by decide +kernel, rfl⟩
theorem d_M_hours_20 : cd_D_istore b_M_hours 20 2 21 := Or.inr ⟨2, ⟨by decide +kernel, rfl⟩, rfl⟩
theorem d_M_hours_21 : cd_D_aload b_M_hours 21 0 22 := Or.inr ⟨0, ⟨by decide +kernel, rfl⟩, rfl⟩
theorem d_M_hours_22 : cd_Dk b_M_hours 22 (nI 9999) 25 := Or.inr (Or.inr ⟨9999, ⟨by decide +kernel, rfl⟩, by decide +kernel⟩)
theorem d_M_hours_25 : cd_D_aload b_M_hours 25 0 26 := Or.inr ⟨0, ⟨by decide +kernel, rfl⟩, rfl⟩
theorem d_M_hours_26 : cd_D 3 b_M_hours 26 (.getfield 9) 29 := ⟨by decide +kernel, rfl⟩
theorem d_M_hours_29 : cd_Dk b_M_hours 29 (nI 2) 30 := Or.inl ⟨2, ⟨by decide +kernel, rfl⟩, by decide +kernel⟩
theorem d_M_hours_30 : cd_D 1 b_M_hours 30 .iaload 31 := ⟨by decide +kernel, rfl⟩
theorem d_M_hours_31 : cd_D 1 b_M_hours 31 .isub 32 := ⟨by decide +kernel, rfl⟩
theorem d_M_hours_32 : cd_Dk b_M_hours 32 (nI 0) 33 := Or.inl ⟨0, ⟨by decide +kernel, rfl⟩, by decide +kernel⟩
theorem d_M_hours_33 : cd_D_iload b_M_hours 33 1 34 := Or.inr ⟨1, ⟨by decide +kernel, rfl⟩, rfl⟩
theorem d_M_hours_34 : cd_D 3 b_M_hours 34 (.invokestatic 104) 37 := ⟨by decide +kernel, rfl⟩
theorem d_M_hours_37 : cd_D 3 b_M_hours 37 (.invokevirtual 161) 40 := ⟨by decide +kernel, rfl⟩
theorem d_M_hours_40 : cd_D_aload b_M_hours 40 0 41 := Or.inr ⟨0, ⟨by decide +kernel, rfl⟩, rfl⟩
theorem d_M_hours_41 : cd_D 3 b_M_hours 41 (.getfield 9) 44 := ⟨by decide +kernel, rfl⟩
theorem d_M_hours_44 : cd_Dk b_M_hours 44 (nI 10) 46 := Or.inr (Or.inl ⟨10, ⟨by decide +kernel, rfl⟩, by decide +kernel⟩)
theorem d_M_hours_46 : cd_D 1 b_M_hours 46 .iaload 47 := ⟨by decide +kernel, rfl⟩
theorem d_M_hours_47 : cd_D_iload b_M_hours 47 2 48 := Or.inr ⟨2, ⟨by decide +kernel, rfl⟩, rfl⟩
theorem d_M_hours_48 : cd_D 1 b_M_hours 48 .isub 49 := ⟨by decide +kernel, rfl⟩
theorem d_M_hours_49 : cd_D 1 b_M_hours 49 .ireturn 50 := ⟨by decide +kernel, rfl⟩
theorem c_M_hours {l : Launch} {w : cd_WT} {S : cd_Sp} {I : cd_Mem} {m : Nat} (hM : cd_MO w S m) (mm tc : Nat) (hV : cd_V (I (m + 1)) mm tc) (hh : Nat) (hH : I (m + 1) 2 = nI hh) (h9 : hh ≤ 9999) (n : Int32) : cd_C l w m_M_hours 7 0 0 [.ref m, .int n] S I (cd_Pi S (fun x I' => x = (sp_hours (I (m + 1)) mm tc hh n).1 ∧ I' (m + 1) = (sp_hours (I (m + 1)) mm tc hh n).2 ∧ cd_off I I' [m + 1, m + 11, m + 12])) := by
  refine cd_intro (by decide) (by simp [Value.category]) (Nat.le_of_ble_eq_true rfl) ?_
  intro X hO hE
  show cd_J w X 0 0 S I 0 [some (.ref m), some (.int n), none] []
  refine r_iload hO d_M_hours_0 rfl ?_
  refine r_k hO d_M_hours_1 ?_
  refine r_k hO d_M_hours_2 ?_
  refine r_cS3fi hO hE (c_M_in _ _ _) mf_M_in lk_M_75 (by decide) rfl (Nat.le_of_ble_eq_true rfl) d_M_hours_4 (Nat.zero_le _) (Nat.zero_le _) ?_
  refine r_if_neB hO d_M_hours_7 (fun c_7 => ?_) (fun c_7 => ?_)
  · obtain ⟨z, hz1, hz2, rfl⟩ := cd_in_ex c_7 (by decide) (by decide)
    refine r_aload hO d_M_hours_13 rfl ?_
    refine r_getR hO f_M_9 rfl hM.2.1 (mo_r1 hM) d_M_hours_14 ?_
    refine r_k hO d_M_hours_17 ?_
    refine r_iald hO (mo_s1 hM) (by omega) (by decide) d_M_hours_19 ?_
    refine r_sI2 hO d_M_hours_20 rfl ?_
    refine r_aload hO d_M_hours_21 rfl ?_
    refine r_k hO d_M_hours_22 ?_
    refine r_aload hO d_M_hours_25 rfl ?_
    refine r_getR hO f_M_9 rfl hM.2.1 (mo_r1 hM) d_M_hours_26 ?_
    refine r_k hO d_M_hours_29 ?_
    refine r_iald hO (mo_s1 hM) (by omega) (by decide) d_M_hours_30 ?_
    refine r_tops hH ?_
    refine r_isubN hO d_M_hours_31 (by omega) ?_
    refine r_k hO d_M_hours_32 ?_
    refine r_iload hO d_M_hours_33 rfl ?_
    refine r_cS3fi hO hE (c_M_within _ _ _) mf_M_within lk_M_104 (by decide) rfl (Nat.le_of_ble_eq_true rfl) d_M_hours_34 (Nat.zero_le _) (Nat.zero_le _) ?_
    refine r_tops (cd_wi_nI (by omega) (by omega)) ?_
    refine r_cV1v hO hE (c_M_goesOn hM mm tc _ (by omega) hV) mf_M_goesOn lk_M_161 hM.2.1 rfl (by decide) rfl (Nat.le_of_ble_eq_true rfl) d_M_hours_37 (Nat.zero_le _) (Nat.zero_le _) ?_
    rintro I2 ⟨h2, ho2⟩
    refine r_aload hO d_M_hours_40 rfl ?_
    refine r_getR hO f_M_9 rfl hM.2.1 (mo_r1 hM) d_M_hours_41 ?_
    refine r_k hO d_M_hours_44 ?_
    refine r_iald hO (mo_s1 hM) (by omega) (by decide) d_M_hours_46 ?_
    rw [h2]
    refine r_iload hO d_M_hours_47 rfl ?_
    refine r_isub hO d_M_hours_48 ?_
    refine r_iret hO hE (Nat.zero_le _) (Nat.zero_le _) d_M_hours_49 ?_
    exact ⟨_, rfl, rfl, by unfold sp_hours; rw [if_pos c_7, cd_tn_nI (by omega)], by rw [h2]; unfold sp_hours; rw [if_pos c_7, cd_tn_nI (by omega)], ho2⟩
  · refine r_ldc hO k_M_87 d_M_hours_10 ?_
    refine r_iret hO hE (Nat.zero_le _) (Nat.zero_le _) d_M_hours_12 ?_
    exact ⟨_, rfl, rfl, by unfold sp_hours; rw [if_neg c_7], by unfold sp_hours; rw [if_neg c_7], cd_off.rf _ _⟩
theorem d_M_nextOnes_0 : cd_Dk b_M_nextOnes 0 (nI 0) 1 := Or.inl ⟨0, ⟨by decide +kernel, rfl⟩, by decide +kernel⟩
theorem d_M_nextOnes_1 : cd_D_istore b_M_nextOnes 1 1 2 := Or.inr ⟨1, ⟨by decide +kernel, rfl⟩, rfl⟩
theorem d_M_nextOnes_2 : cd_Dk b_M_nextOnes 2 (nI 0) 3 := Or.inl ⟨0, ⟨by decide +kernel, rfl⟩, by decide +kernel⟩
theorem d_M_nextOnes_3 : cd_D_istore b_M_nextOnes 3 2 4 := Or.inr ⟨2, ⟨by decide +kernel, rfl⟩, rfl⟩
theorem d_M_nextOnes_4 : cd_D_iload b_M_nextOnes 4 2 5 := Or.inr ⟨2, ⟨by decide +kernel, rfl⟩, rfl⟩
theorem d_M_nextOnes_5 : cd_Dk b_M_nextOnes 5 (nI 24) 7 := Or.inr (Or.inl ⟨24, ⟨by decide +kernel, rfl⟩, by decide +kernel⟩)
theorem d_M_nextOnes_7 : cd_D_icmp_ge b_M_nextOnes 7 77 10 := ⟨70, by decide +kernel, by decide, rfl⟩
theorem d_M_nextOnes_10 : cd_D_iload b_M_nextOnes 10 1 11 := Or.inr ⟨1, ⟨by decide +kernel, rfl⟩, rfl⟩
theorem d_M_nextOnes_11 : cd_D_if_ne b_M_nextOnes 11 77 14 := ⟨66, by decide +kernel, by decide, rfl⟩
theorem d_M_nextOnes_14 : cd_Dk b_M_nextOnes 14 (nI 0) 15 := Or.inl ⟨0, ⟨by decide +kernel, rfl⟩, by decide +kernel⟩
theorem d_M_nextOnes_15 : cd_D_istore b_M_nextOnes 15 3 16 := Or.inr ⟨3, ⟨by decide +kernel, rfl⟩, rfl⟩
theorem d_M_nextOnes_16 : cd_D_iload b_M_nextOnes 16 3 17 := Or.inr ⟨3, ⟨by decide +kernel, rfl⟩, rfl⟩
theorem d_M_nextOnes_17 : cd_D_aload b_M_nextOnes 17 0 18 := Or.inr ⟨0, ⟨by decide +kernel, rfl⟩, rfl⟩
theorem d_M_nextOnes_18 : cd_D 3 b_M_nextOnes 18 (.getfield 9) 21 := ⟨by decide +kernel, rfl⟩
theorem d_M_nextOnes_21 : cd_Dk b_M_nextOnes 21 (nI 1) 22 := Or.inl ⟨1, ⟨by decide +kernel, rfl⟩, by decide +kernel⟩
theorem d_M_nextOnes_22 : cd_D 1 b_M_nextOnes 22 .iaload 23 := ⟨by decide +kernel, rfl⟩
theorem d_M_nextOnes_23 : cd_D_icmp_ge b_M_nextOnes 23 71 26 := ⟨48, by decide +kernel, by decide, rfl⟩
theorem d_M_nextOnes_26 : cd_D_iload b_M_nextOnes 26 1 27 := Or.inr ⟨1, ⟨by decide +kernel, rfl⟩, rfl⟩
theorem d_M_nextOnes_27 : cd_D_aload b_M_nextOnes 27 0 28 := Or.inr ⟨0, ⟨by decide +kernel, rfl⟩, rfl⟩
theorem d_M_nextOnes_28 : cd_D_iload b_M_nextOnes 28 3 29 := Or.inr ⟨3, ⟨by decide +kernel, rfl⟩, rfl⟩
theorem d_M_nextOnes_29 : cd_Dk b_M_nextOnes 29 (nI 2) 30 := Or.inl ⟨2, ⟨by decide +kernel, rfl⟩, by decide +kernel⟩
theorem d_M_nextOnes_30 : cd_D 3 b_M_nextOnes 30 (.invokevirtual 97) 33 := ⟨by decide +kernel, rfl⟩
theorem d_M_nextOnes_33 : cd_D_if_le b_M_nextOnes 33 62 36 := ⟨29, by decide +kernel, by decide, rfl⟩
theorem d_M_nextOnes_36 : cd_D_aload b_M_nextOnes 36 0 37 := Or.inr ⟨0, ⟨by decide +kernel, rfl⟩, rfl⟩
theorem d_M_nextOnes_37 : cd_D_iload b_M_nextOnes 37 3 38 := Or.inr ⟨3, ⟨by decide +kernel, rfl⟩, rfl⟩
theorem d_M_nextOnes_38 : cd_Dk b_M_nextOnes 38 (nI 1) 39 := Or.inl ⟨1, ⟨by decide +kernel, rfl⟩, by decide +kernel⟩
theorem d_M_nextOnes_39 : cd_D 3 b_M_nextOnes 39 (.invokevirtual 97) 42 := ⟨by decide +kernel, rfl⟩
theorem d_M_nextOnes_42 : cd_D_aload b_M_nextOnes 42 0 43 := Or.inr ⟨0, ⟨by decide +kernel, rfl⟩, rfl⟩
theorem d_M_nextOnes_43 : cd_D 3 b_M_nextOnes 43 (.getfield 9) 46 := ⟨by decide +kernel, rfl⟩
theorem d_M_nextOnes_46 : cd_Dk b_M_nextOnes 46 (nI 2) 47 := Or.inl ⟨2, ⟨by decide +kernel, rfl⟩, by decide +kernel⟩
theorem d_M_nextOnes_47 : cd_D 1 b_M_nextOnes 47 .iaload 48 := ⟨by decide +kernel, rfl⟩
theorem d_M_nextOnes_48 : cd_D_iload b_M_nextOnes 48 2 49 := Or.inr ⟨2, ⟨by decide +kernel, rfl⟩, rfl⟩
theorem d_M_nextOnes_49 : cd_D 1 b_M_nextOnes 49 .iadd 50 := ⟨by decide +kernel, rfl⟩
theorem d_M_nextOnes_50 : cd_Dk b_M_nextOnes 50 (nI 24) 52 := Or.inr (Or.inl ⟨24, ⟨by decide +kernel, rfl⟩, by decide +kernel⟩)
theorem d_M_nextOnes_52 : cd_D 1 b_M_nextOnes 52 .irem 53 := ⟨by decide +kernel, rfl⟩
theorem d_M_nextOnes_53 : cd_D_icmp_ne b_M_nextOnes 53 62 56 := ⟨9, by decide +kernel, by decide, rfl⟩
theorem d_M_nextOnes_56 : cd_Dk b_M_nextOnes 56 (nI 1) 57 := Or.inl ⟨1, ⟨by decide +kernel, rfl⟩, by decide +kernel⟩
theorem d_M_nextOnes_57 : cd_D_iload b_M_nextOnes 57 3 58 := Or.inr ⟨3, ⟨by decide +kernel, rfl⟩, rfl⟩
theorem d_M_nextOnes_58 : cd_D 1 b_M_nextOnes 58 .ishl 59 := ⟨by decide +kernel, rfl⟩
theorem d_M_nextOnes_59 : cd_D_goto b_M_nextOnes 59 63 := ⟨4, by decide +kernel, by decide⟩
theorem d_M_nextOnes_62 : cd_Dk b_M_nextOnes 62 (nI 0) 63 := Or.inl ⟨0, ⟨by decide +kernel, rfl⟩, by decide +kernel⟩
theorem d_M_nextOnes_63 : cd_D 1 b_M_nextOnes 63 .ior 64 := ⟨by decide +kernel, rfl⟩
theorem d_M_nextOnes_64 : cd_D_istore b_M_nextOnes 64 1 65 := Or.inr ⟨1, ⟨by decide +kernel, rfl⟩, rfl⟩
theorem d_M_nextOnes_65 : cd_D 3 b_M_nextOnes 65 (.iinc 3 (1)) 68 := ⟨by decide +kernel, rfl⟩
theorem d_M_nextOnes_68 : cd_D_goto b_M_nextOnes 68 16 := ⟨-52, by decide +kernel, by decide⟩
theorem d_M_nextOnes_71 : cd_D 3 b_M_nextOnes 71 (.iinc 2 (1)) 74 := ⟨by decide +kernel, rfl⟩
theorem d_M_nextOnes_74 : cd_D_goto b_M_nextOnes 74 4 := ⟨-70, by decide +kernel, by decide⟩
theorem d_M_nextOnes_77 : cd_D_iload b_M_nextOnes 77 1 78 := Or.inr ⟨1, ⟨by decide +kernel, rfl⟩, rfl⟩
theorem d_M_nextOnes_78 : cd_D 1 b_M_nextOnes 78 .ireturn 79 := ⟨by decide +kernel, rfl⟩
theorem c_M_nextOnes {l : Launch} {w : cd_WT} {S : cd_Sp} {I : cd_Mem} {m : Nat} (hM : cd_MO w S m) (mm : Nat) (hN1 : I (m + 1) 1 = nI mm) (hmm : mm ≤ 12) : cd_C l w m_M_nextOnes 1 0 0 [.ref m] S I (cd_Fi S (cd_nk (I (m + 1)) mm 24) I) := by
  refine cd_intro (by decide) (by simp [Value.category]) (Nat.le_of_ble_eq_true rfl) ?_
  intro X hO hE
  show cd_J w X 0 0 S I 0 [some (.ref m), none, none, none] []
  have inner : ∀ (K : Int32) (r a : Nat), (∀ x3 : Option Value, cd_J w X 0 0 S I 71 [some (.ref m), some (.int (cd_nj (I (m + 1)) (cd_rem (I (m + 1) 2 + K) (nI 24)) mm)), some (.int K), x3] []) → a + r = mm → cd_J w X 0 0 S I 16 [some (.ref m), some (.int (cd_nj (I (m + 1)) (cd_rem (I (m + 1) 2 + K) (nI 24)) a)), some (.int K), some (.int (nI a))] [] := by
    intro K r
    induction r with
    | zero =>
      intro a hk ha
      have ham : a = mm := by omega
      subst ham
      refine r_iload hO d_M_nextOnes_16 rfl ?_
      refine r_aload hO d_M_nextOnes_17 rfl ?_
      refine r_getR hO f_M_9 rfl hM.2.1 (mo_r1 hM) d_M_nextOnes_18 ?_
      refine r_k hO d_M_nextOnes_21 ?_
      refine r_iald hO (mo_s1 hM) (by omega) (by decide) d_M_nextOnes_22 ?_
      refine r_tops hN1 ?_
      refine r_icmp_ge hO d_M_nextOnes_23 (fun c_23 => ?_) (fun c_23 => ?_)
      · exact hk _
      · exact absurd (nI_le (Nat.le_refl _) (by omega)) c_23
    | succ r ih =>
      intro a hk ha
      refine r_iload hO d_M_nextOnes_16 rfl ?_
      refine r_aload hO d_M_nextOnes_17 rfl ?_
      refine r_getR hO f_M_9 rfl hM.2.1 (mo_r1 hM) d_M_nextOnes_18 ?_
      refine r_k hO d_M_nextOnes_21 ?_
      refine r_iald hO (mo_s1 hM) (by omega) (by decide) d_M_nextOnes_22 ?_
      refine r_tops hN1 ?_
      refine r_icmp_ge hO d_M_nextOnes_23 (fun c_23 => ?_) (fun c_23 => ?_)
      · exact absurd c_23 (nI_ge (by omega) (by omega))
      · refine r_iload hO d_M_nextOnes_26 rfl ?_
        refine r_aload hO d_M_nextOnes_27 rfl ?_
        refine r_iload hO d_M_nextOnes_28 rfl ?_
        refine r_k hO d_M_nextOnes_29 ?_
        refine r_cV2fi hO hE (c_M_of hM _ _ (by omega)) mf_M_of lk_M_97 hM.2.1 rfl (by decide) rfl (Nat.le_of_ble_eq_true rfl) d_M_nextOnes_30 (Nat.zero_le _) (Nat.zero_le _) ?_
        refine r_jn1 (pcJ := 63) (fun v => v = if I (m + 1) (16 + 5 * a + 2) ≤ 0 then nI 0 else if I (m + 1) (16 + 5 * a + 1) = cd_rem (I (m + 1) 2 + K) (nI 24) then nI 1 <<< (nI a &&& 31) else nI 0) (fun v_33 hv_33 => ?_) (fun hj_33 => ?_)
        · subst hv_33
          refine r_ior hO d_M_nextOnes_63 ?_
          refine r_sI1 hO d_M_nextOnes_64 rfl ?_
          refine r_incN3 hO d_M_nextOnes_65 rfl ?_
          refine r_goto hO d_M_nextOnes_68 ?_
          exact ih (a + 1) hk (by omega)
        · refine r_if_le hO d_M_nextOnes_33 (fun c_33 => ?_) (fun c_33 => ?_)
          · refine r_k hO d_M_nextOnes_62 ?_
            exact hj_33 _ (by rw [if_pos c_33])
          · refine r_aload hO d_M_nextOnes_36 rfl ?_
            refine r_iload hO d_M_nextOnes_37 rfl ?_
            refine r_k hO d_M_nextOnes_38 ?_
            refine r_cV2fi hO hE (c_M_of hM _ _ (by omega)) mf_M_of lk_M_97 hM.2.1 rfl (by decide) rfl (Nat.le_of_ble_eq_true rfl) d_M_nextOnes_39 (Nat.zero_le _) (Nat.zero_le _) ?_
            refine r_aload hO d_M_nextOnes_42 rfl ?_
            refine r_getR hO f_M_9 rfl hM.2.1 (mo_r1 hM) d_M_nextOnes_43 ?_
            refine r_k hO d_M_nextOnes_46 ?_
            refine r_iald hO (mo_s1 hM) (by omega) (by decide) d_M_nextOnes_47 ?_
            refine r_iload hO d_M_nextOnes_48 rfl ?_
            refine r_iadd hO d_M_nextOnes_49 ?_
            refine r_k hO d_M_nextOnes_50 ?_
            refine r_irem hO d_M_nextOnes_52 (by decide) ?_
            refine r_icmp_ne hO d_M_nextOnes_53 (fun c_53 => ?_) (fun c_53 => ?_)
            · refine r_k hO d_M_nextOnes_62 ?_
              exact hj_33 _ (by rw [if_neg c_33, if_neg c_53])
            · refine r_k hO d_M_nextOnes_56 ?_
              refine r_iload hO d_M_nextOnes_57 rfl ?_
              refine r_ishl hO d_M_nextOnes_58 ?_
              refine r_goto hO d_M_nextOnes_59 ?_
              exact hj_33 _ (by rw [if_neg c_33, if_pos c_53])
  have outer : ∀ (r k : Nat) (x3 : Option Value), k + r = 24 → cd_J w X 0 0 S I 4 [some (.ref m), some (.int (cd_nk (I (m + 1)) mm k)), some (.int (nI k)), x3] [] := by
    intro r
    induction r with
    | zero =>
      intro k x3 hk
      have hk4 : k = 24 := by omega
      subst hk4
      refine r_iload hO d_M_nextOnes_4 rfl ?_
      refine r_k hO d_M_nextOnes_5 ?_
      refine r_icmp_ge hO d_M_nextOnes_7 (fun c_7 => ?_) (fun c_7 => ?_)
      · refine r_iload hO d_M_nextOnes_77 rfl ?_
        refine r_iret hO hE (Nat.zero_le _) (Nat.zero_le _) d_M_nextOnes_78 ?_
        exact ⟨rfl, rfl, rfl⟩
      · exact absurd (nI_le (Nat.le_refl _) (by omega)) c_7
    | succ r ih =>
      intro k x3 hk
      refine r_iload hO d_M_nextOnes_4 rfl ?_
      refine r_k hO d_M_nextOnes_5 ?_
      refine r_icmp_ge hO d_M_nextOnes_7 (fun c_7 => ?_) (fun c_7 => ?_)
      · exact absurd c_7 (nI_ge (by omega) (by omega))
      · refine r_iload hO d_M_nextOnes_10 rfl ?_
        refine r_if_ne hO d_M_nextOnes_11 (fun c_11 => ?_) (fun c_11 => ?_)
        · refine r_iload hO d_M_nextOnes_77 rfl ?_
          refine r_iret hO hE (Nat.zero_le _) (Nat.zero_le _) d_M_nextOnes_78 ?_
          exact ⟨by rw [← hk, cd_nk_st c_11], rfl, rfl⟩
        · refine r_k hO d_M_nextOnes_14 ?_
          refine r_sI3 hO d_M_nextOnes_15 rfl ?_
          have h0 : cd_nk (I (m + 1)) mm k = nI 0 := c_11
          rw [h0]
          refine inner (nI k) mm 0 (fun x4 => ?_) (by omega)
          refine r_incN2 hO d_M_nextOnes_71 rfl ?_
          refine r_goto hO d_M_nextOnes_74 ?_
          rw [show cd_nj (I (m + 1)) (cd_rem (I (m + 1) 2 + nI k) (nI 24)) mm = cd_nk (I (m + 1)) mm (k + 1) from (if_pos c_11).symm]
          exact ih (k + 1) _ (by omega)
  refine r_k hO d_M_nextOnes_0 ?_
  refine r_sI1 hO d_M_nextOnes_1 rfl ?_
  refine r_k hO d_M_nextOnes_2 ?_
  refine r_sI2 hO d_M_nextOnes_3 rfl ?_
  exact outer 24 0 _ (by omega)
theorem d_M_house_0 : cd_D_iload b_M_house 0 1 1 := Or.inr ⟨1, ⟨by decide +kernel, rfl⟩, rfl⟩
theorem d_M_house_1 : cd_Dk b_M_house 1 (nI 0) 2 := Or.inl ⟨0, ⟨by decide +kernel, rfl⟩, by decide +kernel⟩
theorem d_M_house_2 : cd_Dk b_M_house 2 (nI 7) 4 := Or.inr (Or.inl ⟨7, ⟨by decide +kernel, rfl⟩, by decide +kernel⟩)
theorem d_M_house_4 : cd_D 3 b_M_house 4 (.invokestatic 75) 7 := ⟨by decide +kernel, rfl⟩
theorem d_M_house_7 : cd_D_if_ne b_M_house 7 13 10 := ⟨6, by decide +kernel, by decide, rfl⟩
theorem d_M_house_10 : cd_D 2 b_M_house 10 (.ldc 87) 12 := ⟨by decide +kernel, rfl⟩
theorem d_M_house_12 : cd_D 1 b_M_house 12 .ireturn 13 := ⟨by decide +kernel, rfl⟩
theorem d_M_house_13 : cd_D_iload b_M_house 13 1 14 := Or.inr ⟨1, ⟨by decide +kernel, rfl⟩, rfl⟩
theorem d_M_house_14 : cd_D_if_ne b_M_house 14 27 17 := ⟨13, by decide +kernel, by decide, rfl⟩
theorem d_M_house_17 : cd_D_aload b_M_house 17 0 18 := Or.inr ⟨0, ⟨by decide +kernel, rfl⟩, rfl⟩
theorem d_M_house_18 : cd_D 3 b_M_house 18 (.getfield 9) 21 := ⟨by decide +kernel, rfl⟩
theorem d_M_house_21 : cd_Dk b_M_house 21 (nI 7) 23 := Or.inr (Or.inl ⟨7, ⟨by decide +kernel, rfl⟩, by decide +kernel⟩)
theorem d_M_house_23 : cd_D 1 b_M_house 23 .iaload 24 := ⟨by decide +kernel, rfl⟩
theorem d_M_house_24 : cd_D_goto b_M_house 24 64 := ⟨40, by decide +kernel, by decide⟩
theorem d_M_house_27 : cd_D_iload b_M_house 27 1 28 := Or.inr ⟨1, ⟨by decide +kernel, rfl⟩, rfl⟩
theorem d_M_house_28 : cd_Dk b_M_house 28 (nI 6) 30 := Or.inr (Or.inl ⟨6, ⟨by decide +kernel, rfl⟩, by decide +kernel⟩)
theorem d_M_house_30 : cd_D_icmp_ge b_M_house 30 47 33 := ⟨17, by decide +kernel, by decide, rfl⟩
theorem d_M_house_33 : cd_D_aload b_M_house 33 0 34 := Or.inr ⟨0, ⟨by decide +kernel, rfl⟩, rfl⟩
theorem d_M_house_34 : cd_D 3 b_M_house 34 (.getfield 9) 37 := ⟨by decide +kernel, rfl⟩
theorem d_M_house_37 : cd_Dk b_M_house 37 (nI 10) 39 := Or.inr (Or.inl ⟨10, ⟨by decide +kernel, rfl⟩, by decide +kernel⟩)
theorem d_M_house_39 : cd_D_iload b_M_house 39 1 40 := Or.inr ⟨1, ⟨by decide +kernel, rfl⟩, rfl⟩
theorem d_M_house_40 : cd_D 1 b_M_house 40 .iadd 41 := ⟨by decide +kernel, rfl⟩
theorem d_M_house_41 : cd_Dk b_M_house 41 (nI 1) 42 := Or.inl ⟨1, ⟨by decide +kernel, rfl⟩, by decide +kernel⟩
theorem d_M_house_42 : cd_D 1 b_M_house 42 .isub 43 := ⟨by decide +kernel, rfl⟩
theorem d_M_house_43 : cd_D 1 b_M_house 43 .iaload 44 := ⟨by decide +kernel, rfl⟩
theorem d_M_house_44 : cd_D_goto b_M_house 44 64 := ⟨20, by decide +kernel, by decide⟩
theorem d_M_house_47 : cd_D_iload b_M_house 47 1 48 := Or.inr ⟨1, ⟨by decide +kernel, rfl⟩, rfl⟩
theorem d_M_house_48 : cd_Dk b_M_house 48 (nI 6) 50 := Or.inr (Or.inl ⟨6, ⟨by decide +kernel, rfl⟩, by decide +kernel⟩)
theorem d_M_house_50 : cd_D_icmp_ne b_M_house 50 60 53 := ⟨10, by decide +kernel, by decide, rfl⟩
theorem d_M_house_53 : cd_D_aload b_M_house 53 0 54 := Or.inr ⟨0, ⟨by decide +kernel, rfl⟩, rfl⟩
theorem d_M_house_54 : cd_D 3 b_M_house 54 (.invokevirtual 164) 57 := ⟨by decide +kernel, rfl⟩
theorem d_M_house_57 : cd_D_goto b_M_house 57 64 := ⟨7, by decide +kernel, by decide⟩
theorem d_M_house_60 : cd_D_aload b_M_house 60 0 61 := Or.inr ⟨0, ⟨by decide +kernel, rfl⟩, rfl⟩
theorem d_M_house_61 : cd_D 3 b_M_house 61 (.invokevirtual 167) 64 := ⟨by decide +kernel, rfl⟩
theorem d_M_house_64 : cd_D 1 b_M_house 64 .ireturn 65 := ⟨by decide +kernel, rfl⟩
theorem c_M_house {l : Launch} {w : cd_WT} {S : cd_Sp} {I : cd_Mem} {m : Nat} (hM : cd_MO w S m) (mm tc : Nat) (hV : cd_V (I (m + 1)) mm tc) (q : Int32) : cd_C l w m_M_house 2 0 0 [.ref m, .int q] S I (cd_Fi S (sp_house (I (m + 1)) mm q) I) := by
  refine cd_intro (by decide) (by simp [Value.category]) (Nat.le_of_ble_eq_true rfl) ?_
  intro X hO hE
  show cd_J w X 0 0 S I 0 [some (.ref m), some (.int q)] []
  refine r_iload hO d_M_house_0 rfl ?_
  refine r_k hO d_M_house_1 ?_
  refine r_k hO d_M_house_2 ?_
  refine r_cS3fi hO hE (c_M_in _ _ _) mf_M_in lk_M_75 (by decide) rfl (Nat.le_of_ble_eq_true rfl) d_M_house_4 (Nat.zero_le _) (Nat.zero_le _) ?_
  refine r_if_neB hO d_M_house_7 (fun c_7 => ?_) (fun c_7 => ?_)
  · obtain ⟨z, hz1, hz2, rfl⟩ := cd_in_ex c_7 (by decide) (by decide)
    refine r_iload hO d_M_house_13 rfl ?_
    refine r_if_ne hO d_M_house_14 (fun c_14 => ?_) (fun c_14 => ?_)
    · refine r_iload hO d_M_house_27 rfl ?_
      refine r_k hO d_M_house_28 ?_
      refine r_icmp_ge hO d_M_house_30 (fun c_30 => ?_) (fun c_30 => ?_)
      · refine r_iload hO d_M_house_47 rfl ?_
        refine r_k hO d_M_house_48 ?_
        refine r_icmp_ne hO d_M_house_50 (fun c_50 => ?_) (fun c_50 => ?_)
        · refine r_aload hO d_M_house_60 rfl ?_
          refine r_cV0fi hO hE (c_M_nextOnes hM mm hV.1 hV.2.1) mf_M_nextOnes lk_M_167 hM.2.1 rfl (by decide) rfl (Nat.le_of_ble_eq_true rfl) d_M_house_61 (Nat.zero_le _) (Nat.zero_le _) ?_
          refine r_iret hO hE (Nat.zero_le _) (Nat.zero_le _) d_M_house_64 ?_
          exact ⟨by unfold sp_house; rw [if_pos c_7, if_neg c_14, if_pos c_30, if_neg c_50], rfl, rfl⟩
        · refine r_aload hO d_M_house_53 rfl ?_
          refine r_cV0fi hO hE (c_M_habits hM mm hV.1 hV.2.1) mf_M_habits lk_M_164 hM.2.1 rfl (by decide) rfl (Nat.le_of_ble_eq_true rfl) d_M_house_54 (Nat.zero_le _) (Nat.zero_le _) ?_
          refine r_goto hO d_M_house_57 ?_
          refine r_iret hO hE (Nat.zero_le _) (Nat.zero_le _) d_M_house_64 ?_
          exact ⟨by unfold sp_house; rw [if_pos c_7, if_neg c_14, if_pos c_30, if_pos c_50], rfl, rfl⟩
      · have hz6 : z < 6 := Nat.lt_of_not_le (fun q => c_30 (nI_le q (by omega)))
        refine r_aload hO d_M_house_33 rfl ?_
        refine r_getR hO f_M_9 rfl hM.2.1 (mo_r1 hM) d_M_house_34 ?_
        refine r_k hO d_M_house_37 ?_
        refine r_iload hO d_M_house_39 rfl ?_
        refine r_iaddN hO d_M_house_40 ?_
        refine r_k hO d_M_house_41 ?_
        refine r_isubN hO d_M_house_42 (by omega) ?_
        refine r_iald hO (mo_s1 hM) (by omega) (by decide) d_M_house_43 ?_
        refine r_goto hO d_M_house_44 ?_
        refine r_iret hO hE (Nat.zero_le _) (Nat.zero_le _) d_M_house_64 ?_
        exact ⟨by unfold sp_house; rw [if_pos c_7, if_neg c_14, if_neg c_30, cd_tn_nI (by omega)], rfl, rfl⟩
    · refine r_aload hO d_M_house_17 rfl ?_
      refine r_getR hO f_M_9 rfl hM.2.1 (mo_r1 hM) d_M_house_18 ?_
      refine r_k hO d_M_house_21 ?_
      refine r_iald hO (mo_s1 hM) (by omega) (by decide) d_M_house_23 ?_
      refine r_goto hO d_M_house_24 ?_
      refine r_iret hO hE (Nat.zero_le _) (Nat.zero_le _) d_M_house_64 ?_
      exact ⟨by unfold sp_house; rw [if_pos c_7, if_pos c_14], rfl, rfl⟩
  · refine r_ldc hO k_M_87 d_M_house_10 ?_
    refine r_iret hO hE (Nat.zero_le _) (Nat.zero_le _) d_M_house_12 ?_
    exact ⟨by unfold sp_house; rw [if_neg c_7], rfl, rfl⟩
