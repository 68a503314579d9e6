def cd_kq (N N' : Nat → Int32) : Prop := ∀ j, (j = 1 ∨ (3 ≤ j ∧ j ≤ 6) ∨ j = 15 ∨ 76 ≤ j) → N' j = N j
theorem kq_rf (N : Nat → Int32) : cd_kq N N := fun _ _ => rfl
theorem kq_upd {N N' : Nat → Int32} (h : cd_kq N N') {k : Nat} {v : Int32} (hk : ¬ (k = 1 ∨ (3 ≤ k ∧ k ≤ 6) ∨ k = 15 ∨ 76 ≤ k)) : cd_kq N (upd N' k v) := fun j hj => by
  rw [← h j hj]
  exact if_neg (fun e : j = k => hk (e ▸ hj))
theorem kq_tr {N N1 N2 : Nat → Int32} (h : cd_kq N N1) (h2 : cd_kq N1 N2) : cd_kq N N2 := fun j hj => (h2 j hj).trans (h j hj)
theorem cd_V.kq {N N' : Nat → Int32} {mm tc : Nat} (h : cd_V N mm tc) (hk : cd_kq N N') : cd_V N' mm tc := by
  obtain ⟨h1, h2, h3, h4, h5⟩ := h
  refine ⟨by rw [hk 1 (by omega)]; exact h1, h2, by rw [hk 15 (by omega)]; exact h3, h4, fun t ht => ?_⟩
  obtain ⟨ky, n, a1, a2, a3, a4, a5, a6⟩ := h5 t ht
  have e : (fun k => N' (104 + 96 * t + k)) = fun k => N (104 + 96 * t + k) := by
    funext k
    exact hk _ (by omega)
  exact ⟨ky, n, by rw [hk _ (by omega)]; exact a1, a2, a3, a4, by rw [e]; exact a5, by rw [e]; exact a6⟩
def cd_ak (N : Nat → Int32) (i tc : Nat) : Nat → Int32 := if N 6 = nI 1 then (cd_gm N i).2 else if cd_pr N i tc ≤ N 3 then upd (upd N 11 (N 11 + cd_scr (N (16 + 5 * i + 0)))) (16 + 5 * i + 2) (cd_wi (upd N 11 (N 11 + cd_scr (N (16 + 5 * i + 0))) (16 + 5 * i + 2) - cd_fog (upd N 11 (N 11 + cd_scr (N (16 + 5 * i + 0))) (16 + 5 * i + 0))) (nI 0) (nI 99)) else (cd_ri N i).2
def cd_w1 (N : Nat → Int32) : Nat → Int32 := upd (cd_dr N) 8 (if cd_dr N 4 ≤ cd_rem (cd_dv N) (nI 100) then nI 0 else nI 1)
def cd_w2 (N : Nat → Int32) : Nat → Int32 := upd (cd_dr N) 9 (if cd_dr N 5 ≤ cd_rem (cd_dv N) (nI 100) then nI 0 else nI 1)
def cd_one (N : Nat → Int32) (i tc : Nat) : Nat → Int32 := if N (16 + 5 * i + 1) = cd_rem (N 2) (nI 24) then (if cd_dr N (16 + 5 * i + 2) ≤ cd_rem (cd_dv N) (nI 100) then cd_dr N else cd_ak (cd_dr N) i tc) else N
def cd_lp (N : Nat → Int32) (tc : Nat) : Nat → Nat → Int32
  | 0 => N
  | i + 1 => cd_one (cd_lp N tc i) i tc
def cd_ed (N : Nat → Int32) : Nat → Int32 := upd (upd N 14 (N 14 + N 6 * N 9)) 2 (upd N 14 (N 14 + N 6 * N 9) 2 + nI 1)
def cd_hr (N : Nat → Int32) (mm tc : Nat) : Nat → Int32 := cd_ed (cd_lp (cd_w2 (cd_w1 N)) tc mm)
def cd_hs (N : Nat → Int32) (mm tc : Nat) : Nat → Nat → Int32
  | 0 => N
  | n + 1 => cd_hr (cd_hs N mm tc n) mm tc
def cd_hb (N : Nat → Int32) : Nat → Int32
  | 0 => nI 0
  | i + 1 => cd_hb N i + N (16 + 5 * i + 2)
theorem kq_dr (N : Nat → Int32) : cd_kq N (cd_dr N) := kq_upd (kq_rf N) (by omega)
theorem kq_go (N : Nat → Int32) : cd_kq N (cd_go N) := by
  unfold cd_go
  split
  · exact kq_upd (kq_upd (kq_rf N) (by omega)) (by omega)
  · exact kq_upd (kq_upd (kq_rf N) (by omega)) (by omega)
theorem kq_gm (N : Nat → Int32) (i : Nat) : cd_kq N (cd_gm N i).2 := by
  unfold cd_gm
  split
  · exact kq_dr N
  · exact kq_tr (kq_dr N) (kq_go _)
theorem kq_le (N : Nat → Int32) {i : Nat} (hi : i < 12) : cd_kq N (cd_le N i) := kq_upd (kq_upd (kq_rf N) (by omega)) (by omega)
theorem kq_ri (N : Nat → Int32) {i : Nat} (hi : i < 12) : cd_kq N (cd_ri N i).2 := kq_tr (kq_tr (kq_upd (kq_rf N) (by omega)) (kq_le _ hi)) (kq_gm _ i)
theorem kq_ak (N : Nat → Int32) {i : Nat} (hi : i < 12) (tc : Nat) : cd_kq N (cd_ak N i tc) := by
  unfold cd_ak
  split
  · exact kq_gm N i
  · split
    · exact kq_upd (kq_upd (kq_rf N) (by omega)) (by omega)
    · exact kq_ri N hi
theorem kq_w1 (N : Nat → Int32) : cd_kq N (cd_w1 N) := kq_upd (kq_dr N) (by omega)
theorem kq_w2 (N : Nat → Int32) : cd_kq N (cd_w2 N) := kq_upd (kq_dr N) (by omega)
theorem kq_one (N : Nat → Int32) {i : Nat} (hi : i < 12) (tc : Nat) : cd_kq N (cd_one N i tc) := by
  unfold cd_one
  split
  · split
    · exact kq_dr N
    · exact kq_tr (kq_dr N) (kq_ak _ hi tc)
  · exact kq_rf N
theorem kq_lp (N : Nat → Int32) (tc : Nat) : ∀ i, i ≤ 12 → cd_kq N (cd_lp N tc i)
  | 0, _ => kq_rf N
  | i + 1, h => kq_tr (kq_lp N tc i (by omega)) (kq_one _ (by omega) tc)
theorem kq_ed (N : Nat → Int32) : cd_kq N (cd_ed N) := kq_upd (kq_upd (kq_rf N) (by omega)) (by omega)
theorem kq_hr (N : Nat → Int32) {mm : Nat} (hm : mm ≤ 12) (tc : Nat) : cd_kq N (cd_hr N mm tc) := kq_tr (kq_tr (kq_tr (kq_w1 N) (kq_w2 _)) (kq_lp _ tc mm hm)) (kq_ed _)
theorem kq_hs (N : Nat → Int32) {mm : Nat} (hm : mm ≤ 12) (tc : Nat) : ∀ n, cd_kq N (cd_hs N mm tc n)
  | 0 => kq_rf N
  | n + 1 => kq_tr (kq_hs N hm tc n) (kq_hr _ hm tc)
def cd_cp (n : Nat) (r r' : Nat → Int32) : Nat → Int32 := fun k => if k < n then r k else r' k
theorem cd_cp_s (n : Nat) (r r' : Nat → Int32) : upd (cd_cp n r r') n (r n) = cd_cp (n + 1) r r' := by
  funext k
  simp only [upd, cd_cp]
  by_cases h : k = n
  · subst h; simp
  · by_cases h2 : k < n
    · simp [h, h2, show k < n + 1 by omega]
    · simp [h, h2, show ¬ k < n + 1 by omega]
theorem cd_cp_0 (r r' : Nat → Int32) : cd_cp 0 r r' = r' := by
  funext k
  simp [cd_cp]
theorem d_M_asks_0 : cd_Dk b_M_asks 0 (nI 0) 1 := Or.inl ⟨0, ⟨by decide +kernel, rfl⟩, by decide +kernel⟩
theorem d_M_asks_1 : cd_D_istore b_M_asks 1 2 2 := Or.inr ⟨2, ⟨by decide +kernel, rfl⟩, rfl⟩
theorem d_M_asks_2 : cd_D_aload b_M_asks 2 0 3 := Or.inr ⟨0, ⟨by decide +kernel, rfl⟩, rfl⟩
theorem d_M_asks_3 : cd_D 3 b_M_asks 3 (.getfield 9) 6 := ⟨by decide +kernel, rfl⟩
theorem d_M_asks_6 : cd_Dk b_M_asks 6 (nI 6) 8 := Or.inr (Or.inl ⟨6, ⟨by decide +kernel, rfl⟩, by decide +kernel⟩)
theorem d_M_asks_8 : cd_D 1 b_M_asks 8 .iaload 9 := ⟨by decide +kernel, rfl⟩
theorem d_M_asks_9 : cd_Dk b_M_asks 9 (nI 1) 10 := Or.inl ⟨1, ⟨by decide +kernel, rfl⟩, by decide +kernel⟩
theorem d_M_asks_10 : cd_D_icmp_ne b_M_asks 10 22 13 := ⟨12, by decide +kernel, by decide, rfl⟩
theorem d_M_asks_13 : cd_D_aload b_M_asks 13 0 14 := Or.inr ⟨0, ⟨by decide +kernel, rfl⟩, rfl⟩
theorem d_M_asks_14 : cd_D_iload b_M_asks 14 1 15 := Or.inr ⟨1, ⟨by decide +kernel, rfl⟩, rfl⟩
theorem d_M_asks_15 : cd_D 3 b_M_asks 15 (.invokevirtual 149) 18 := ⟨by decide +kernel, rfl⟩
theorem d_M_asks_18 : cd_D_istore b_M_asks 18 2 19 := Or.inr ⟨2, ⟨by decide +kernel, rfl⟩, rfl⟩
theorem d_M_asks_19 : cd_D_goto b_M_asks 19 84 := ⟨65, by decide +kernel, by decide⟩
theorem d_M_asks_22 : cd_D_aload b_M_asks 22 0 23 := Or.inr ⟨0, ⟨by decide +kernel, rfl⟩, rfl⟩
theorem d_M_asks_23 : cd_D_iload b_M_asks 23 1 24 := Or.inr ⟨1, ⟨by decide +kernel, rfl⟩, rfl⟩
theorem d_M_asks_24 : cd_D 3 b_M_asks 24 (.invokevirtual 112) 27 := ⟨by decide +kernel, rfl⟩
theorem d_M_asks_27 : cd_D_aload b_M_asks 27 0 28 := Or.inr ⟨0, ⟨by decide +kernel, rfl⟩, rfl⟩
theorem d_M_asks_28 : cd_D 3 b_M_asks 28 (.getfield 9) 31 := ⟨by decide +kernel, rfl⟩
theorem d_M_asks_31 : cd_Dk b_M_asks 31 (nI 3) 32 := Or.inl ⟨3, ⟨by decide +kernel, rfl⟩, by decide +kernel⟩
theorem d_M_asks_32 : cd_D 1 b_M_asks 32 .iaload 33 := ⟨by decide +kernel, rfl⟩
theorem d_M_asks_33 : cd_D_icmp_le b_M_asks 33 45 36 := ⟨12, by decide +kernel, by decide, rfl⟩
theorem d_M_asks_36 : cd_D_aload b_M_asks 36 0 37 := Or.inr ⟨0, ⟨by decide +kernel, rfl⟩, rfl⟩
theorem d_M_asks_37 : cd_D_iload b_M_asks 37 1 38 := Or.inr ⟨1, ⟨by decide +kernel, rfl⟩, rfl⟩
theorem d_M_asks_38 : cd_D 3 b_M_asks 38 (.invokevirtual 152) 41 := ⟨by decide +kernel, rfl⟩
theorem d_M_asks_41 : cd_D_istore b_M_asks 41 2 42 := Or.inr ⟨2, ⟨by decide +kernel, rfl⟩, rfl⟩
theorem d_M_asks_42 : cd_D_goto b_M_asks 42 84 := ⟨42, by decide +kernel, by decide⟩
theorem d_M_asks_45 : cd_D_aload b_M_asks 45 0 46 := Or.inr ⟨0, ⟨by decide +kernel, rfl⟩, rfl⟩
theorem d_M_asks_46 : cd_D 3 b_M_asks 46 (.getfield 9) 49 := ⟨by decide +kernel, rfl⟩
theorem d_M_asks_49 : cd_Dk b_M_asks 49 (nI 11) 51 := Or.inr (Or.inl ⟨11, ⟨by decide +kernel, rfl⟩, by decide +kernel⟩)
theorem d_M_asks_51 : cd_D 1 b_M_asks 51 .dup2 52 := ⟨by decide +kernel, rfl⟩
theorem d_M_asks_52 : cd_D 1 b_M_asks 52 .iaload 53 := ⟨by decide +kernel, rfl⟩
theorem d_M_asks_53 : cd_D_aload b_M_asks 53 0 54 := Or.inr ⟨0, ⟨by decide +kernel, rfl⟩, rfl⟩
theorem d_M_asks_54 : cd_D_iload b_M_asks 54 1 55 := Or.inr ⟨1, ⟨by decide +kernel, rfl⟩, rfl⟩
theorem d_M_asks_55 : cd_D 3 b_M_asks 55 (.invokevirtual 121) 58 := ⟨by decide +kernel, rfl⟩
theorem d_M_asks_58 : cd_D 1 b_M_asks 58 .iadd 59 := ⟨by decide +kernel, rfl⟩
theorem d_M_asks_59 : cd_D 1 b_M_asks 59 .iastore 60 := ⟨by decide +kernel, rfl⟩
theorem d_M_asks_60 : cd_D_aload b_M_asks 60 0 61 := Or.inr ⟨0, ⟨by decide +kernel, rfl⟩, rfl⟩
theorem d_M_asks_61 : cd_D_iload b_M_asks 61 1 62 := Or.inr ⟨1, ⟨by decide +kernel, rfl⟩, rfl⟩
theorem d_M_asks_62 : cd_Dk b_M_asks 62 (nI 2) 63 := Or.inl ⟨2, ⟨by decide +kernel, rfl⟩, by decide +kernel⟩
theorem d_M_asks_63 : cd_D_aload b_M_asks 63 0 64 := Or.inr ⟨0, ⟨by decide +kernel, rfl⟩, rfl⟩
theorem d_M_asks_64 : cd_D_iload b_M_asks 64 1 65 := Or.inr ⟨1, ⟨by decide +kernel, rfl⟩, rfl⟩
theorem d_M_asks_65 : cd_Dk b_M_asks 65 (nI 2) 66 := Or.inl ⟨2, ⟨by decide +kernel, rfl⟩, by decide +kernel⟩
theorem d_M_asks_66 : cd_D 3 b_M_asks 66 (.invokevirtual 97) 69 := ⟨by decide +kernel, rfl⟩
theorem d_M_asks_69 : cd_D_aload b_M_asks 69 0 70 := Or.inr ⟨0, ⟨by decide +kernel, rfl⟩, rfl⟩
theorem d_M_asks_70 : cd_D_iload b_M_asks 70 1 71 := Or.inr ⟨1, ⟨by decide +kernel, rfl⟩, rfl⟩
theorem d_M_asks_71 : cd_D 3 b_M_asks 71 (.invokevirtual 118) 74 := ⟨by decide +kernel, rfl⟩
theorem d_M_asks_74 : cd_D 1 b_M_asks 74 .isub 75 := ⟨by decide +kernel, rfl⟩
theorem d_M_asks_75 : cd_Dk b_M_asks 75 (nI 0) 76 := Or.inl ⟨0, ⟨by decide +kernel, rfl⟩, by decide +kernel⟩
theorem d_M_asks_76 : cd_Dk b_M_asks 76 (nI 99) 78 := Or.inr (Or.inl ⟨99, ⟨by decide +kernel, rfl⟩, by decide +kernel⟩)
theorem d_M_asks_78 : cd_D 3 b_M_asks 78 (.invokestatic 104) 81 := ⟨by decide +kernel, rfl⟩
theorem d_M_asks_81 : cd_D 3 b_M_asks 81 (.invokevirtual 79) 84 := ⟨by decide +kernel, rfl⟩
theorem d_M_asks_84 : cd_D 1 b_M_asks 84 .return_ 85 := ⟨by decide +kernel, rfl⟩
theorem c_M_asks {l : Launch} {w : cd_WT} {S : cd_Sp} {I : cd_Mem} {m : Nat} (hM : cd_MO w S m) (mm tc i : Nat) (hV : cd_V (I (m + 1)) mm tc) (hi : i < 12) : cd_C l w m_M_asks 4 0 0 [.ref m, .int (nI i)] S I (cd_Pv S (fun I' => I' (m + 1) = cd_ak (I (m + 1)) i tc ∧ cd_off I I' [m + 1, m + 11, m + 12])) := by
  refine cd_intro (by decide) (by simp [Value.category]) (Nat.le_of_ble_eq_true rfl) ?_
  intro X hO hE
  show cd_J w X 0 0 S I 0 [some (.ref m), some (.int (nI i)), none] []
  refine r_k hO d_M_asks_0 ?_
  refine r_sI2 hO d_M_asks_1 rfl ?_
  refine r_aload hO d_M_asks_2 rfl ?_
  refine r_getR hO f_M_9 rfl hM.2.1 (mo_r1 hM) d_M_asks_3 ?_
  refine r_k hO d_M_asks_6 ?_
  refine r_iald hO (mo_s1 hM) (by omega) (by decide) d_M_asks_8 ?_
  refine r_k hO d_M_asks_9 ?_
  refine r_icmp_ne hO d_M_asks_10 (fun c_10 => ?_) (fun c_10 => ?_)
  · refine r_aload hO d_M_asks_22 rfl ?_
    refine r_iload hO d_M_asks_23 rfl ?_
    refine r_cV1i hO hE (c_M_pressesOf hM mm tc _ hV hi) mf_M_pressesOf lk_M_112 hM.2.1 rfl (by decide) rfl (Nat.le_of_ble_eq_true rfl) d_M_asks_24 (Nat.zero_le _) (Nat.zero_le _) ?_
    rintro x I2 ⟨hx, ho2⟩
    have h2 : I2 (m + 1) = I (m + 1) := ho2 _ (by simp)
    try simp only [cd_set_eq, cd_set_set, h2]
    refine r_aload hO d_M_asks_27 rfl ?_
    refine r_getR hO f_M_9 rfl hM.2.1 (mo_r1 hM) d_M_asks_28 ?_
    try simp only [cd_set_eq, cd_set_set, h2]
    refine r_k hO d_M_asks_31 ?_
    refine r_iald hO (mo_s1 hM) (by omega) (by decide) d_M_asks_32 ?_
    try simp only [cd_set_eq, cd_set_set, h2]
    refine r_icmp_le hO d_M_asks_33 (fun c_33 => ?_) (fun c_33 => ?_)
    · refine r_aload hO d_M_asks_45 rfl ?_
      refine r_getR hO f_M_9 rfl hM.2.1 (mo_r1 hM) d_M_asks_46 ?_
      try simp only [cd_set_eq, cd_set_set, h2]
      refine r_k hO d_M_asks_49 ?_
      refine r_dup2 hO d_M_asks_51 rfl rfl ?_
      refine r_iald hO (mo_s1 hM) (by omega) (by decide) d_M_asks_52 ?_
      try simp only [cd_set_eq, cd_set_set, h2]
      refine r_aload hO d_M_asks_53 rfl ?_
      refine r_iload hO d_M_asks_54 rfl ?_
      refine r_cV1fi hO hE (c_M_scratchesOf hM _ hi) mf_M_scratchesOf lk_M_121 hM.2.1 rfl (by decide) rfl (Nat.le_of_ble_eq_true rfl) d_M_asks_55 (Nat.zero_le _) (Nat.zero_le _) ?_
      try simp only [cd_set_eq, cd_set_set, h2]
      refine r_iadd hO d_M_asks_58 ?_
      refine r_iast hO (mo_s1 hM) (mo_l1 hM) (by omega) (by decide) d_M_asks_59 ?_
      try simp only [cd_set_eq, cd_set_set, h2]
      refine r_aload hO d_M_asks_60 rfl ?_
      refine r_iload hO d_M_asks_61 rfl ?_
      refine r_k hO d_M_asks_62 ?_
      refine r_aload hO d_M_asks_63 rfl ?_
      refine r_iload hO d_M_asks_64 rfl ?_
      refine r_k hO d_M_asks_65 ?_
      refine r_cV2fi hO hE (c_M_of hM _ _ (by omega)) mf_M_of lk_M_97 hM.2.1 rfl (by decide) rfl (Nat.le_of_ble_eq_true rfl) d_M_asks_66 (Nat.zero_le _) (Nat.zero_le _) ?_
      try simp only [cd_set_eq, cd_set_set, h2]
      refine r_aload hO d_M_asks_69 rfl ?_
      refine r_iload hO d_M_asks_70 rfl ?_
      refine r_cV1fi hO hE (c_M_forgetsOf hM _ hi) mf_M_forgetsOf lk_M_118 hM.2.1 rfl (by decide) rfl (Nat.le_of_ble_eq_true rfl) d_M_asks_71 (Nat.zero_le _) (Nat.zero_le _) ?_
      try simp only [cd_set_eq, cd_set_set, h2]
      refine r_isub hO d_M_asks_74 ?_
      refine r_k hO d_M_asks_75 ?_
      refine r_k hO d_M_asks_76 ?_
      refine r_cS3fi hO hE (c_M_within _ _ _) mf_M_within lk_M_104 (by decide) rfl (Nat.le_of_ble_eq_true rfl) d_M_asks_78 (Nat.zero_le _) (Nat.zero_le _) ?_
      try simp only [cd_set_eq, cd_set_set, h2]
      refine r_cV3fv hO hE (c_M_put hM _ _ _ (by omega)) mf_M_put lk_M_79 hM.2.1 rfl (by decide) rfl (Nat.le_of_ble_eq_true rfl) d_M_asks_81 (Nat.zero_le _) (Nat.zero_le _) ?_
      try simp only [cd_set_eq, cd_set_set, h2]
      refine r_vret hO hE (Nat.zero_le _) (Nat.zero_le _) d_M_asks_84 ?_
      exact ⟨rfl, rfl, by rw [cd_set_eq]; unfold cd_ak; rw [if_neg c_10, if_pos (by rw [← hx]; exact c_33)], (ho2.mono (by simp)).tr (cd_off.set _ _ (by simp))⟩
    · refine r_aload hO d_M_asks_36 rfl ?_
      refine r_iload hO d_M_asks_37 rfl ?_
      refine r_cV1fi hO hE (c_M_rises hM _ hi) mf_M_rises lk_M_152 hM.2.1 rfl (by decide) rfl (Nat.le_of_ble_eq_true rfl) d_M_asks_38 (Nat.zero_le _) (Nat.zero_le _) ?_
      try simp only [cd_set_eq, cd_set_set, h2]
      refine r_sI2 hO d_M_asks_41 rfl ?_
      refine r_goto hO d_M_asks_42 ?_
      refine r_vret hO hE (Nat.zero_le _) (Nat.zero_le _) d_M_asks_84 ?_
      exact ⟨rfl, rfl, by rw [cd_set_eq]; unfold cd_ak; rw [if_neg c_10, if_neg (by rw [← hx]; exact c_33)], (ho2.mono (by simp)).tr (cd_off.set _ _ (by simp))⟩
  · refine r_aload hO d_M_asks_13 rfl ?_
    refine r_iload hO d_M_asks_14 rfl ?_
    refine r_cV1fi hO hE (c_M_goesAsMeant hM _ hi) mf_M_goesAsMeant lk_M_149 hM.2.1 rfl (by decide) rfl (Nat.le_of_ble_eq_true rfl) d_M_asks_15 (Nat.zero_le _) (Nat.zero_le _) ?_
    try simp only [cd_set_eq, cd_set_set, h2]
    refine r_sI2 hO d_M_asks_18 rfl ?_
    refine r_goto hO d_M_asks_19 ?_
    refine r_vret hO hE (Nat.zero_le _) (Nat.zero_le _) d_M_asks_84 ?_
    exact ⟨rfl, rfl, by rw [cd_set_eq]; unfold cd_ak; rw [if_pos c_10], cd_off.set _ _ (by simp)⟩
theorem d_M_hour_0 : cd_D_aload b_M_hour 0 0 1 := Or.inr ⟨0, ⟨by decide +kernel, rfl⟩, rfl⟩
theorem d_M_hour_1 : cd_D 3 b_M_hour 1 (.getfield 9) 4 := ⟨by decide +kernel, rfl⟩
theorem d_M_hour_4 : cd_Dk b_M_hour 4 (nI 8) 6 := Or.inr (Or.inl ⟨8, ⟨by decide +kernel, rfl⟩, by decide +kernel⟩)
theorem d_M_hour_6 : cd_D_aload b_M_hour 6 0 7 := Or.inr ⟨0, ⟨by decide +kernel, rfl⟩, rfl⟩
theorem d_M_hour_7 : cd_D 3 b_M_hour 7 (.invokevirtual 138) 10 := ⟨by decide +kernel, rfl⟩
theorem d_M_hour_10 : cd_Dk b_M_hour 10 (nI 100) 12 := Or.inr (Or.inl ⟨100, ⟨by decide +kernel, rfl⟩, by decide +kernel⟩)
theorem d_M_hour_12 : cd_D 1 b_M_hour 12 .irem 13 := ⟨by decide +kernel, rfl⟩
theorem d_M_hour_13 : cd_D_aload b_M_hour 13 0 14 := Or.inr ⟨0, ⟨by decide +kernel, rfl⟩, rfl⟩
theorem d_M_hour_14 : cd_D 3 b_M_hour 14 (.getfield 9) 17 := ⟨by decide +kernel, rfl⟩
theorem d_M_hour_17 : cd_Dk b_M_hour 17 (nI 4) 18 := Or.inl ⟨4, ⟨by decide +kernel, rfl⟩, by decide +kernel⟩
theorem d_M_hour_18 : cd_D 1 b_M_hour 18 .iaload 19 := ⟨by decide +kernel, rfl⟩
theorem d_M_hour_19 : cd_D_icmp_ge b_M_hour 19 26 22 := ⟨7, by decide +kernel, by decide, rfl⟩
theorem d_M_hour_22 : cd_Dk b_M_hour 22 (nI 1) 23 := Or.inl ⟨1, ⟨by decide +kernel, rfl⟩, by decide +kernel⟩
theorem d_M_hour_23 : cd_D_goto b_M_hour 23 27 := ⟨4, by decide +kernel, by decide⟩
theorem d_M_hour_26 : cd_Dk b_M_hour 26 (nI 0) 27 := Or.inl ⟨0, ⟨by decide +kernel, rfl⟩, by decide +kernel⟩
theorem d_M_hour_27 : cd_D 1 b_M_hour 27 .iastore 28 := ⟨by decide +kernel, rfl⟩
theorem d_M_hour_28 : cd_D_aload b_M_hour 28 0 29 := Or.inr ⟨0, ⟨by decide +kernel, rfl⟩, rfl⟩
theorem d_M_hour_29 : cd_D 3 b_M_hour 29 (.getfield 9) 32 := ⟨by decide +kernel, rfl⟩
theorem d_M_hour_32 : cd_Dk b_M_hour 32 (nI 9) 34 := Or.inr (Or.inl ⟨9, ⟨by decide +kernel, rfl⟩, by decide +kernel⟩)
theorem d_M_hour_34 : cd_D_aload b_M_hour 34 0 35 := Or.inr ⟨0, ⟨by decide +kernel, rfl⟩, rfl⟩
theorem d_M_hour_35 : cd_D 3 b_M_hour 35 (.invokevirtual 138) 38 := ⟨by decide +kernel, rfl⟩
theorem d_M_hour_38 : cd_Dk b_M_hour 38 (nI 100) 40 := Or.inr (Or.inl ⟨100, ⟨by decide +kernel, rfl⟩, by decide +kernel⟩)
theorem d_M_hour_40 : cd_D 1 b_M_hour 40 .irem 41 := ⟨by decide +kernel, rfl⟩
theorem d_M_hour_41 : cd_D_aload b_M_hour 41 0 42 := Or.inr ⟨0, ⟨by decide +kernel, rfl⟩, rfl⟩
theorem d_M_hour_42 : cd_D 3 b_M_hour 42 (.getfield 9) 45 := ⟨by decide +kernel, rfl⟩
theorem d_M_hour_45 : cd_Dk b_M_hour 45 (nI 5) 46 := Or.inl ⟨5, ⟨by decide +kernel, rfl⟩, by decide +kernel⟩
theorem d_M_hour_46 : cd_D 1 b_M_hour 46 .iaload 47 := ⟨by decide +kernel, rfl⟩
theorem d_M_hour_47 : cd_D_icmp_ge b_M_hour 47 54 50 := ⟨7, by decide +kernel, by decide, rfl⟩
theorem d_M_hour_50 : cd_Dk b_M_hour 50 (nI 1) 51 := Or.inl ⟨1, ⟨by decide +kernel, rfl⟩, by decide +kernel⟩
theorem d_M_hour_51 : cd_D_goto b_M_hour 51 55 := ⟨4, by decide +kernel, by decide⟩
theorem d_M_hour_54 : cd_Dk b_M_hour 54 (nI 0) 55 := Or.inl ⟨0, ⟨by decide +kernel, rfl⟩, by decide +kernel⟩
theorem d_M_hour_55 : cd_D 1 b_M_hour 55 .iastore 56 := ⟨by decide +kernel, rfl⟩
theorem d_M_hour_56 : cd_Dk b_M_hour 56 (nI 0) 57 := Or.inl ⟨0, ⟨by decide +kernel, rfl⟩, by decide +kernel⟩
theorem d_M_hour_57 : cd_D_istore b_M_hour 57 1 58 := Or.inr ⟨1, ⟨by decide +kernel, rfl⟩, rfl⟩
theorem d_M_hour_58 : cd_D_iload b_M_hour 58 1 59 := Or.inr ⟨1, ⟨by decide +kernel, rfl⟩, rfl⟩
theorem d_M_hour_59 : cd_D_aload b_M_hour 59 0 60 := Or.inr ⟨0, ⟨by decide +kernel, rfl⟩, rfl⟩
theorem d_M_hour_60 : cd_D 3 b_M_hour 60 (.getfield 9) 63 := ⟨by decide +kernel, rfl⟩
theorem d_M_hour_63 : cd_Dk b_M_hour 63 (nI 1) 64 := Or.inl ⟨1, ⟨by decide +kernel, rfl⟩, by decide +kernel⟩
theorem d_M_hour_64 : cd_D 1 b_M_hour 64 .iaload 65 := ⟨by decide +kernel, rfl⟩
theorem d_M_hour_65 : cd_D_icmp_ge b_M_hour 65 113 68 := ⟨48, by decide +kernel, by decide, rfl⟩
theorem d_M_hour_68 : cd_D_aload b_M_hour 68 0 69 := Or.inr ⟨0, ⟨by decide +kernel, rfl⟩, rfl⟩
theorem d_M_hour_69 : cd_D_iload b_M_hour 69 1 70 := Or.inr ⟨1, ⟨by decide +kernel, rfl⟩, rfl⟩
theorem d_M_hour_70 : cd_Dk b_M_hour 70 (nI 1) 71 := Or.inl ⟨1, ⟨by decide +kernel, rfl⟩, by decide +kernel⟩
theorem d_M_hour_71 : cd_D 3 b_M_hour 71 (.invokevirtual 97) 74 := ⟨by decide +kernel, rfl⟩
theorem d_M_hour_74 : cd_D_aload b_M_hour 74 0 75 := Or.inr ⟨0, ⟨by decide +kernel, rfl⟩, rfl⟩
theorem d_M_hour_75 : cd_D 3 b_M_hour 75 (.getfield 9) 78 := ⟨by decide +kernel, rfl⟩
theorem d_M_hour_78 : cd_Dk b_M_hour 78 (nI 2) 79 := Or.inl ⟨2, ⟨by decide +kernel, rfl⟩, by decide +kernel⟩
theorem d_M_hour_79 : cd_D 1 b_M_hour 79 .iaload 80 := ⟨by decide +kernel, rfl⟩
theorem d_M_hour_80 : cd_Dk b_M_hour 80 (nI 24) 82 := Or.inr (Or.inl ⟨24, ⟨by decide +kernel, rfl⟩, by decide +kernel⟩)
theorem d_M_hour_82 : cd_D 1 b_M_hour 82 .irem 83 := ⟨by decide +kernel, rfl⟩
theorem d_M_hour_83 : cd_D_icmp_ne b_M_hour 83 107 86 := ⟨24, by decide +kernel, by decide, rfl⟩
theorem d_M_hour_86 : cd_D_aload b_M_hour 86 0 87 := Or.inr ⟨0, ⟨by decide +kernel, rfl⟩, rfl⟩
theorem d_M_hour_87 : cd_D 3 b_M_hour 87 (.invokevirtual 138) 90 := ⟨by decide +kernel, rfl⟩
theorem d_M_hour_90 : cd_Dk b_M_hour 90 (nI 100) 92 := Or.inr (Or.inl ⟨100, ⟨by decide +kernel, rfl⟩, by decide +kernel⟩)
theorem d_M_hour_92 : cd_D 1 b_M_hour 92 .irem 93 := ⟨by decide +kernel, rfl⟩
theorem d_M_hour_93 : cd_D_aload b_M_hour 93 0 94 := Or.inr ⟨0, ⟨by decide +kernel, rfl⟩, rfl⟩
theorem d_M_hour_94 : cd_D_iload b_M_hour 94 1 95 := Or.inr ⟨1, ⟨by decide +kernel, rfl⟩, rfl⟩
theorem d_M_hour_95 : cd_Dk b_M_hour 95 (nI 2) 96 := Or.inl ⟨2, ⟨by decide +kernel, rfl⟩, by decide +kernel⟩
theorem d_M_hour_96 : cd_D 3 b_M_hour 96 (.invokevirtual 97) 99 := ⟨by decide +kernel, rfl⟩
theorem d_M_hour_99 : cd_D_icmp_ge b_M_hour 99 107 102 := ⟨8, by decide +kernel, by decide, rfl⟩
theorem d_M_hour_102 : cd_D_aload b_M_hour 102 0 103 := Or.inr ⟨0, ⟨by decide +kernel, rfl⟩, rfl⟩
theorem d_M_hour_103 : cd_D_iload b_M_hour 103 1 104 := Or.inr ⟨1, ⟨by decide +kernel, rfl⟩, rfl⟩
theorem d_M_hour_104 : cd_D 3 b_M_hour 104 (.invokevirtual 155) 107 := ⟨by decide +kernel, rfl⟩
theorem d_M_hour_107 : cd_D 3 b_M_hour 107 (.iinc 1 (1)) 110 := ⟨by decide +kernel, rfl⟩
theorem d_M_hour_110 : cd_D_goto b_M_hour 110 58 := ⟨-52, by decide +kernel, by decide⟩
theorem d_M_hour_113 : cd_D_aload b_M_hour 113 0 114 := Or.inr ⟨0, ⟨by decide +kernel, rfl⟩, rfl⟩
theorem d_M_hour_114 : cd_D 3 b_M_hour 114 (.getfield 9) 117 := ⟨by decide +kernel, rfl⟩
theorem d_M_hour_117 : cd_Dk b_M_hour 117 (nI 14) 119 := Or.inr (Or.inl ⟨14, ⟨by decide +kernel, rfl⟩, by decide +kernel⟩)
theorem d_M_hour_119 : cd_D 1 b_M_hour 119 .dup2 120 := ⟨by decide +kernel, rfl⟩
theorem d_M_hour_120 : cd_D 1 b_M_hour 120 .iaload 121 := ⟨by decide +kernel, rfl⟩
theorem d_M_hour_121 : cd_D_aload b_M_hour 121 0 122 := Or.inr ⟨0, ⟨by decide +kernel, rfl⟩, rfl⟩
theorem d_M_hour_122 : cd_D 3 b_M_hour 122 (.getfield 9) 125 := ⟨by decide +kernel, rfl⟩
theorem d_M_hour_125 : cd_Dk b_M_hour 125 (nI 6) 127 := Or.inr (Or.inl ⟨6, ⟨by decide +kernel, rfl⟩, by decide +kernel⟩)
theorem d_M_hour_127 : cd_D 1 b_M_hour 127 .iaload 128 := ⟨by decide +kernel, rfl⟩
theorem d_M_hour_128 : cd_D_aload b_M_hour 128 0 129 := Or.inr ⟨0, ⟨by decide +kernel, rfl⟩, rfl⟩
theorem d_M_hour_129 : cd_D 3 b_M_hour 129 (.getfield 9) 132 := ⟨by decide +kernel, rfl⟩
theorem d_M_hour_132 : cd_Dk b_M_hour 132 (nI 9) 134 := Or.inr (Or.inl ⟨9, ⟨by decide +kernel, rfl⟩, by decide +kernel⟩)
theorem d_M_hour_134 : cd_D 1 b_M_hour 134 .iaload 135 := ⟨by decide +kernel, rfl⟩
theorem d_M_hour_135 : cd_D 1 b_M_hour 135 .imul 136 := ⟨by decide +kernel, rfl⟩
theorem d_M_hour_136 : cd_D 1 b_M_hour 136 .iadd 137 := ⟨by decide +kernel, rfl⟩
theorem d_M_hour_137 : cd_D 1 b_M_hour 137 .iastore 138 := ⟨by decide +kernel, rfl⟩
theorem d_M_hour_138 : cd_D_aload b_M_hour 138 0 139 := Or.inr ⟨0, ⟨by decide +kernel, rfl⟩, rfl⟩
theorem d_M_hour_139 : cd_D 3 b_M_hour 139 (.getfield 9) 142 := ⟨by decide +kernel, rfl⟩
theorem d_M_hour_142 : cd_Dk b_M_hour 142 (nI 2) 143 := Or.inl ⟨2, ⟨by decide +kernel, rfl⟩, by decide +kernel⟩
theorem d_M_hour_143 : cd_D 1 b_M_hour 143 .dup2 144 := ⟨by decide +kernel, rfl⟩
theorem d_M_hour_144 : cd_D 1 b_M_hour 144 .iaload 145 := ⟨by decide +kernel, rfl⟩
theorem d_M_hour_145 : cd_Dk b_M_hour 145 (nI 1) 146 := Or.inl ⟨1, ⟨by decide +kernel, rfl⟩, by decide +kernel⟩
theorem d_M_hour_146 : cd_D 1 b_M_hour 146 .iadd 147 := ⟨by decide +kernel, rfl⟩
theorem d_M_hour_147 : cd_D 1 b_M_hour 147 .iastore 148 := ⟨by decide +kernel, rfl⟩
theorem d_M_hour_148 : cd_D 1 b_M_hour 148 .return_ 149 := ⟨by decide +kernel, rfl⟩
theorem c_M_hour {l : Launch} {w : cd_WT} {S : cd_Sp} {I : cd_Mem} {m : Nat} (hM : cd_MO w S m) (mm tc : Nat) (hV : cd_V (I (m + 1)) mm tc) : cd_C l w m_M_hour 5 0 0 [.ref m] S I (cd_Pv S (fun I' => I' (m + 1) = cd_hr (I (m + 1)) mm tc ∧ cd_off I I' [m + 1, m + 11, m + 12])) := by
  refine cd_intro (by decide) (by simp [Value.category]) (Nat.le_of_ble_eq_true rfl) ?_
  intro X hO hE
  show cd_J w X 0 0 S I 0 [some (.ref m), none] []
  obtain ⟨hN1, hmm, hN15, htc, hTW⟩ := id hV
  have hVL : ∀ i, i ≤ 12 → cd_V (cd_lp (cd_w2 (cd_w1 (I (m + 1)))) tc i) mm tc := fun i hi => hV.kq (kq_tr (kq_tr (kq_w1 _) (kq_w2 _)) (kq_lp _ tc i hi))
  have loop : ∀ (r i : Nat) (L : Nat → Int32) (I1 : cd_Mem), i + r = mm → L = cd_lp (cd_w2 (cd_w1 (I (m + 1)))) tc i → I1 (m + 1) = L → cd_off I I1 [m + 1, m + 11, m + 12] → cd_J w X 0 0 S I1 58 [some (.ref m), some (.int (nI i))] [] := by
    intro r
    induction r with
    | zero =>
      intro i L I1 hi hL hI1 ho
      have him : i = mm := by omega
      subst him
      have hL1 : L 1 = nI i := by rw [hL]; exact (hVL i hmm).1
      refine r_iload hO d_M_hour_58 rfl ?_
      refine r_aload hO d_M_hour_59 rfl ?_
      refine r_getR hO f_M_9 rfl hM.2.1 (mo_r1 hM) d_M_hour_60 ?_
      try simp only [hI1, cd_set_eq, cd_set_set]
      refine r_k hO d_M_hour_63 ?_
      refine r_iald hO (mo_s1 hM) (by omega) (by decide) d_M_hour_64 ?_
      try simp only [hI1, cd_set_eq, cd_set_set]
      refine r_tops hL1 ?_
      refine r_icmp_ge hO d_M_hour_65 (fun c_65 => ?_) (fun c_65 => ?_)
      · refine r_aload hO d_M_hour_113 rfl ?_
        refine r_getR hO f_M_9 rfl hM.2.1 (mo_r1 hM) d_M_hour_114 ?_
        try simp only [hI1, cd_set_eq, cd_set_set]
        refine r_k hO d_M_hour_117 ?_
        refine r_dup2 hO d_M_hour_119 rfl rfl ?_
        refine r_iald hO (mo_s1 hM) (by omega) (by decide) d_M_hour_120 ?_
        try simp only [hI1, cd_set_eq, cd_set_set]
        refine r_aload hO d_M_hour_121 rfl ?_
        refine r_getR hO f_M_9 rfl hM.2.1 (mo_r1 hM) d_M_hour_122 ?_
        try simp only [hI1, cd_set_eq, cd_set_set]
        refine r_k hO d_M_hour_125 ?_
        refine r_iald hO (mo_s1 hM) (by omega) (by decide) d_M_hour_127 ?_
        try simp only [hI1, cd_set_eq, cd_set_set]
        refine r_aload hO d_M_hour_128 rfl ?_
        refine r_getR hO f_M_9 rfl hM.2.1 (mo_r1 hM) d_M_hour_129 ?_
        try simp only [hI1, cd_set_eq, cd_set_set]
        refine r_k hO d_M_hour_132 ?_
        refine r_iald hO (mo_s1 hM) (by omega) (by decide) d_M_hour_134 ?_
        try simp only [hI1, cd_set_eq, cd_set_set]
        refine r_imul hO d_M_hour_135 ?_
        refine r_iadd hO d_M_hour_136 ?_
        refine r_iast hO (mo_s1 hM) (mo_l1 hM) (by omega) (by decide) d_M_hour_137 ?_
        try simp only [hI1, cd_set_eq, cd_set_set]
        refine r_aload hO d_M_hour_138 rfl ?_
        refine r_getR hO f_M_9 rfl hM.2.1 (mo_r1 hM) d_M_hour_139 ?_
        try simp only [hI1, cd_set_eq, cd_set_set]
        refine r_k hO d_M_hour_142 ?_
        refine r_dup2 hO d_M_hour_143 rfl rfl ?_
        refine r_iald hO (mo_s1 hM) (by omega) (by decide) d_M_hour_144 ?_
        try simp only [hI1, cd_set_eq, cd_set_set]
        refine r_k hO d_M_hour_145 ?_
        refine r_iadd hO d_M_hour_146 ?_
        refine r_iast hO (mo_s1 hM) (mo_l1 hM) (by omega) (by decide) d_M_hour_147 ?_
        try simp only [hI1, cd_set_eq, cd_set_set]
        refine r_vret hO hE (Nat.zero_le _) (Nat.zero_le _) d_M_hour_148 ?_
        exact ⟨rfl, rfl, by rw [cd_set_eq, hL]; rfl, ho.tr (cd_off.set _ _ (by simp))⟩
      · exact absurd (nI_le (Nat.le_refl _) (by omega)) c_65
    | succ r ih =>
      intro i L I1 hi hL hI1 ho
      have hVi := hVL i (by omega)
      rw [← hL] at hVi
      have hL1 : L 1 = nI mm := hVi.1
      refine r_iload hO d_M_hour_58 rfl ?_
      refine r_aload hO d_M_hour_59 rfl ?_
      refine r_getR hO f_M_9 rfl hM.2.1 (mo_r1 hM) d_M_hour_60 ?_
      try simp only [hI1, cd_set_eq, cd_set_set]
      refine r_k hO d_M_hour_63 ?_
      refine r_iald hO (mo_s1 hM) (by omega) (by decide) d_M_hour_64 ?_
      try simp only [hI1, cd_set_eq, cd_set_set]
      refine r_tops hL1 ?_
      refine r_icmp_ge hO d_M_hour_65 (fun c_65 => ?_) (fun c_65 => ?_)
      · exact absurd c_65 (nI_ge (by omega) (by omega))
      · refine r_aload hO d_M_hour_68 rfl ?_
        refine r_iload hO d_M_hour_69 rfl ?_
        refine r_k hO d_M_hour_70 ?_
        refine r_cV2fi hO hE (c_M_of hM _ _ (by omega)) mf_M_of lk_M_97 hM.2.1 rfl (by decide) rfl (Nat.le_of_ble_eq_true rfl) d_M_hour_71 (Nat.zero_le _) (Nat.zero_le _) ?_
        try simp only [hI1, cd_set_eq, cd_set_set]
        refine r_aload hO d_M_hour_74 rfl ?_
        refine r_getR hO f_M_9 rfl hM.2.1 (mo_r1 hM) d_M_hour_75 ?_
        try simp only [hI1, cd_set_eq, cd_set_set]
        refine r_k hO d_M_hour_78 ?_
        refine r_iald hO (mo_s1 hM) (by omega) (by decide) d_M_hour_79 ?_
        try simp only [hI1, cd_set_eq, cd_set_set]
        refine r_k hO d_M_hour_80 ?_
        refine r_irem hO d_M_hour_82 (by decide) ?_
        refine r_icmp_ne hO d_M_hour_83 (fun c_83 => ?_) (fun c_83 => ?_)
        · refine r_incN1 hO d_M_hour_107 rfl ?_
          refine r_goto hO d_M_hour_110 ?_
          exact ih (i + 1) _ _ (by omega) rfl (by rw [hI1, hL]; show _ = cd_one (cd_lp _ _ _) i tc; rw [← hL]; unfold cd_one; rw [if_neg c_83]) ho
        · refine r_aload hO d_M_hour_86 rfl ?_
          refine r_cV0fi hO hE (c_M_draw hM) mf_M_draw lk_M_138 hM.2.1 rfl (by decide) rfl (Nat.le_of_ble_eq_true rfl) d_M_hour_87 (Nat.zero_le _) (Nat.zero_le _) ?_
          try simp only [hI1, cd_set_eq, cd_set_set]
          refine r_k hO d_M_hour_90 ?_
          refine r_irem hO d_M_hour_92 (by decide) ?_
          refine r_aload hO d_M_hour_93 rfl ?_
          refine r_iload hO d_M_hour_94 rfl ?_
          refine r_k hO d_M_hour_95 ?_
          refine r_cV2fi hO hE (c_M_of hM _ _ (by omega)) mf_M_of lk_M_97 hM.2.1 rfl (by decide) rfl (Nat.le_of_ble_eq_true rfl) d_M_hour_96 (Nat.zero_le _) (Nat.zero_le _) ?_
          try simp only [hI1, cd_set_eq, cd_set_set]
          refine r_icmp_ge hO d_M_hour_99 (fun c_99 => ?_) (fun c_99 => ?_)
          · refine r_incN1 hO d_M_hour_107 rfl ?_
            refine r_goto hO d_M_hour_110 ?_
            exact ih (i + 1) _ _ (by omega) rfl (by rw [cd_set_eq, hL]; show _ = cd_one (cd_lp _ _ _) i tc; rw [← hL]; unfold cd_one; rw [if_pos c_83, if_pos c_99]) (ho.tr (cd_off.set _ _ (by simp)))
          · refine r_aload hO d_M_hour_102 rfl ?_
            refine r_iload hO d_M_hour_103 rfl ?_
            refine r_cV1v hO hE (c_M_asks hM mm tc _ (by rw [cd_set_eq]; exact hVi.kq (kq_dr _)) (by omega)) mf_M_asks lk_M_155 hM.2.1 rfl (by decide) rfl (Nat.le_of_ble_eq_true rfl) d_M_hour_104 (Nat.zero_le _) (Nat.zero_le _) ?_
            rintro I2 ⟨h2, ho2⟩
            rw [cd_set_eq] at h2
            try simp only [hI1, cd_set_eq, cd_set_set]
            refine r_incN1 hO d_M_hour_107 rfl ?_
            refine r_goto hO d_M_hour_110 ?_
            exact ih (i + 1) _ I2 (by omega) rfl (h2.trans (by rw [hL]; show _ = cd_one (cd_lp _ _ _) i tc; rw [← hL]; unfold cd_one; rw [if_pos c_83, if_neg c_99])) (ho.tr ((cd_off.set _ _ (by simp)).tr ho2))
  refine r_aload hO d_M_hour_0 rfl ?_
  refine r_getR hO f_M_9 rfl hM.2.1 (mo_r1 hM) d_M_hour_1 ?_
  refine r_k hO d_M_hour_4 ?_
  refine r_aload hO d_M_hour_6 rfl ?_
  refine r_cV0fi hO hE (c_M_draw hM) mf_M_draw lk_M_138 hM.2.1 rfl (by decide) rfl (Nat.le_of_ble_eq_true rfl) d_M_hour_7 (Nat.zero_le _) (Nat.zero_le _) ?_
  try simp only [cd_set_eq, cd_set_set]
  refine r_k hO d_M_hour_10 ?_
  refine r_irem hO d_M_hour_12 (by decide) ?_
  refine r_aload hO d_M_hour_13 rfl ?_
  refine r_getR hO f_M_9 rfl hM.2.1 (mo_r1 hM) d_M_hour_14 ?_
  try simp only [cd_set_eq, cd_set_set]
  refine r_k hO d_M_hour_17 ?_
  refine r_iald hO (mo_s1 hM) (by omega) (by decide) d_M_hour_18 ?_
  try simp only [cd_set_eq, cd_set_set]
  refine r_jn2 (pcJ := 27) (fun v => v = if cd_dr (I (m + 1)) 4 ≤ cd_rem (cd_dv (I (m + 1))) (nI 100) then nI 0 else nI 1) (fun v_19 hv_19 => ?_) (fun hj_19 => ?_)
  · subst hv_19
    refine r_iast hO (mo_s1 hM) (mo_l1 hM) (by omega) (by decide) d_M_hour_27 ?_
    try simp only [cd_set_eq, cd_set_set]
    refine r_mem (show _ = cd_set I (m + 1) (cd_w1 (I (m + 1))) from rfl) ?_
    refine r_aload hO d_M_hour_28 rfl ?_
    refine r_getR hO f_M_9 rfl hM.2.1 (mo_r1 hM) d_M_hour_29 ?_
    try simp only [cd_set_eq, cd_set_set]
    refine r_k hO d_M_hour_32 ?_
    refine r_aload hO d_M_hour_34 rfl ?_
    refine r_cV0fi hO hE (c_M_draw hM) mf_M_draw lk_M_138 hM.2.1 rfl (by decide) rfl (Nat.le_of_ble_eq_true rfl) d_M_hour_35 (Nat.zero_le _) (Nat.zero_le _) ?_
    try simp only [cd_set_eq, cd_set_set]
    refine r_k hO d_M_hour_38 ?_
    refine r_irem hO d_M_hour_40 (by decide) ?_
    refine r_aload hO d_M_hour_41 rfl ?_
    refine r_getR hO f_M_9 rfl hM.2.1 (mo_r1 hM) d_M_hour_42 ?_
    try simp only [cd_set_eq, cd_set_set]
    refine r_k hO d_M_hour_45 ?_
    refine r_iald hO (mo_s1 hM) (by omega) (by decide) d_M_hour_46 ?_
    try simp only [cd_set_eq, cd_set_set]
    refine r_jn2 (pcJ := 55) (fun v => v = if cd_dr (cd_w1 (I (m + 1))) 5 ≤ cd_rem (cd_dv (cd_w1 (I (m + 1)))) (nI 100) then nI 0 else nI 1) (fun v_47 hv_47 => ?_) (fun hj_47 => ?_)
    · subst hv_47
      refine r_iast hO (mo_s1 hM) (mo_l1 hM) (by omega) (by decide) d_M_hour_55 ?_
      try simp only [cd_set_eq, cd_set_set]
      refine r_mem (show _ = cd_set I (m + 1) (cd_w2 (cd_w1 (I (m + 1)))) from rfl) ?_
      refine r_k hO d_M_hour_56 ?_
      refine r_sI1 hO d_M_hour_57 rfl ?_
      exact loop mm 0 _ _ (by omega) rfl (by rw [cd_set_eq]; rfl) (cd_off.set _ _ (by simp))
    · refine r_icmp_ge hO d_M_hour_47 (fun c_47 => ?_) (fun c_47 => ?_)
      · refine r_k hO d_M_hour_54 ?_
        exact hj_47 _ (by simp only [c_47, if_true, if_false])
      · refine r_k hO d_M_hour_50 ?_
        refine r_goto hO d_M_hour_51 ?_
        exact hj_47 _ (by simp only [c_47, if_true, if_false])
  · refine r_icmp_ge hO d_M_hour_19 (fun c_19 => ?_) (fun c_19 => ?_)
    · refine r_k hO d_M_hour_26 ?_
      exact hj_19 _ (by simp only [c_19, if_true, if_false])
    · refine r_k hO d_M_hour_22 ?_
      refine r_goto hO d_M_hour_23 ?_
      exact hj_19 _ (by simp only [c_19, if_true, if_false])
theorem d_M_goesOn_0 : cd_Dk b_M_goesOn 0 (nI 0) 1 := Or.inl ⟨0, ⟨by decide +kernel, rfl⟩, by decide +kernel⟩
theorem d_M_goesOn_1 : cd_D_istore b_M_goesOn 1 2 2 := Or.inr ⟨2, ⟨by decide +kernel, rfl⟩, rfl⟩
theorem d_M_goesOn_2 : cd_D_iload b_M_goesOn 2 2 3 := Or.inr ⟨2, ⟨by decide +kernel, rfl⟩, rfl⟩
theorem d_M_goesOn_3 : cd_D_iload b_M_goesOn 3 1 4 := Or.inr ⟨1, ⟨by decide +kernel, rfl⟩, rfl⟩
theorem d_M_goesOn_4 : cd_D_icmp_ge b_M_goesOn 4 17 7 := ⟨13, by decide +kernel, by decide, rfl⟩
theorem d_M_goesOn_7 : cd_D_aload b_M_goesOn 7 0 8 := Or.inr ⟨0, ⟨by decide +kernel, rfl⟩, rfl⟩
theorem d_M_goesOn_8 : cd_D 3 b_M_goesOn 8 (.invokevirtual 158) 11 := ⟨by decide +kernel, rfl⟩
theorem d_M_goesOn_11 : cd_D 3 b_M_goesOn 11 (.iinc 2 (1)) 14 := ⟨by decide +kernel, rfl⟩
theorem d_M_goesOn_14 : cd_D_goto b_M_goesOn 14 2 := ⟨-12, by decide +kernel, by decide⟩
theorem d_M_goesOn_17 : cd_D 1 b_M_goesOn 17 .return_ 18 := ⟨by decide +kernel, rfl⟩
theorem c_M_goesOn {l : Launch} {w : cd_WT} {S : cd_Sp} {I : cd_Mem} {m : Nat} (hM : cd_MO w S m) (mm tc n : Nat) (hn : n < 2 ^ 31) (hV : cd_V (I (m + 1)) mm tc) : cd_C l w m_M_goesOn 6 0 0 [.ref m, .int (nI n)] S I (cd_Pv S (fun I' => I' (m + 1) = cd_hs (I (m + 1)) mm tc n ∧ cd_off I I' [m + 1, m + 11, m + 12])) := by
  refine cd_intro (by decide) (by simp [Value.category]) (Nat.le_of_ble_eq_true rfl) ?_
  intro X hO hE
  show cd_J w X 0 0 S I 0 [some (.ref m), some (.int (nI n)), none] []
  have hmm := hV.2.1
  have loop : ∀ (r k : Nat) (I1 : cd_Mem), k + r = n → I1 (m + 1) = cd_hs (I (m + 1)) mm tc k → cd_off I I1 [m + 1, m + 11, m + 12] → cd_J w X 0 0 S I1 2 [some (.ref m), some (.int (nI n)), some (.int (nI k))] [] := by
    intro r
    induction r with
    | zero =>
      intro k I1 hk hI1 ho
      have hkn : k = n := by omega
      subst hkn
      refine r_iload hO d_M_goesOn_2 rfl ?_
      refine r_iload hO d_M_goesOn_3 rfl ?_
      refine r_icmp_ge hO d_M_goesOn_4 (fun c_4 => ?_) (fun c_4 => ?_)
      · refine r_vret hO hE (Nat.zero_le _) (Nat.zero_le _) d_M_goesOn_17 ?_
        exact ⟨rfl, rfl, hI1, ho⟩
      · exact absurd (nI_le (Nat.le_refl _) (by omega)) c_4
    | succ r ih =>
      intro k I1 hk hI1 ho
      refine r_iload hO d_M_goesOn_2 rfl ?_
      refine r_iload hO d_M_goesOn_3 rfl ?_
      refine r_icmp_ge hO d_M_goesOn_4 (fun c_4 => ?_) (fun c_4 => ?_)
      · exact absurd c_4 (nI_ge (by omega) (by omega))
      · refine r_aload hO d_M_goesOn_7 rfl ?_
        refine r_cV0v hO hE (c_M_hour hM mm tc (by rw [hI1]; exact hV.kq (kq_hs _ hmm tc k))) mf_M_hour lk_M_158 hM.2.1 rfl (by decide) rfl (Nat.le_of_ble_eq_true rfl) d_M_goesOn_8 (Nat.zero_le _) (Nat.zero_le _) ?_
        rintro I2 ⟨h2, ho2⟩
        rw [hI1] at h2
        refine r_incN2 hO d_M_goesOn_11 rfl ?_
        refine r_goto hO d_M_goesOn_14 ?_
        exact ih (k + 1) I2 (by omega) h2 (ho.tr ho2)
  refine r_k hO d_M_goesOn_0 ?_
  refine r_sI2 hO d_M_goesOn_1 rfl ?_
  exact loop n 0 I (by omega) rfl (cd_off.rf _ _)
theorem d_M_habits_0 : cd_Dk b_M_habits 0 (nI 0) 1 := Or.inl ⟨0, ⟨by decide +kernel, rfl⟩, by decide +kernel⟩
theorem d_M_habits_1 : cd_D_istore b_M_habits 1 1 2 := Or.inr ⟨1, ⟨by decide +kernel, rfl⟩, rfl⟩
theorem d_M_habits_2 : cd_Dk b_M_habits 2 (nI 0) 3 := Or.inl ⟨0, ⟨by decide +kernel, rfl⟩, by decide +kernel⟩
theorem d_M_habits_3 : cd_D_istore b_M_habits 3 2 4 := Or.inr ⟨2, ⟨by decide +kernel, rfl⟩, rfl⟩
theorem d_M_habits_4 : cd_D_iload b_M_habits 4 2 5 := Or.inr ⟨2, ⟨by decide +kernel, rfl⟩, rfl⟩
theorem d_M_habits_5 : cd_D_aload b_M_habits 5 0 6 := Or.inr ⟨0, ⟨by decide +kernel, rfl⟩, rfl⟩
theorem d_M_habits_6 : cd_D 3 b_M_habits 6 (.getfield 9) 9 := ⟨by decide +kernel, rfl⟩
theorem d_M_habits_9 : cd_Dk b_M_habits 9 (nI 1) 10 := Or.inl ⟨1, ⟨by decide +kernel, rfl⟩, by decide +kernel⟩
theorem d_M_habits_10 : cd_D 1 b_M_habits 10 .iaload 11 := ⟨by decide +kernel, rfl⟩
theorem d_M_habits_11 : cd_D_icmp_ge b_M_habits 11 29 14 := ⟨18, by decide +kernel, by decide, rfl⟩
theorem d_M_habits_14 : cd_D_iload b_M_habits 14 1 15 := Or.inr ⟨1, ⟨by decide +kernel, rfl⟩, rfl⟩
theorem d_M_habits_15 : cd_D_aload b_M_habits 15 0 16 := Or.inr ⟨0, ⟨by decide +kernel, rfl⟩, rfl⟩
theorem d_M_habits_16 : cd_D_iload b_M_habits 16 2 17 := Or.inr ⟨2, ⟨by decide +kernel, rfl⟩, rfl⟩
theorem d_M_habits_17 : cd_Dk b_M_habits 17 (nI 2) 18 := Or.inl ⟨2, ⟨by decide +kernel, rfl⟩, by decide +kernel⟩
theorem d_M_habits_18 : cd_D 3 b_M_habits 18 (.invokevirtual 97) 21 := ⟨by decide +kernel, rfl⟩
theorem d_M_habits_21 : cd_D 1 b_M_habits 21 .iadd 22 := ⟨by decide +kernel, rfl⟩
theorem d_M_habits_22 : cd_D_istore b_M_habits 22 1 23 := Or.inr ⟨1, ⟨by decide +kernel, rfl⟩, rfl⟩
theorem d_M_habits_23 : cd_D 3 b_M_habits 23 (.iinc 2 (1)) 26 := ⟨by decide +kernel, rfl⟩
theorem d_M_habits_26 : cd_D_goto b_M_habits 26 4 := ⟨-22, by decide +kernel, by decide⟩
theorem d_M_habits_29 : cd_D_iload b_M_habits 29 1 30 := Or.inr ⟨1, ⟨by decide +kernel, rfl⟩, rfl⟩
theorem d_M_habits_30 : cd_D 1 b_M_habits 30 .ireturn 31 := ⟨by decide +kernel, rfl⟩
theorem c_M_habits {l : Launch} {w : cd_WT} {S : cd_Sp} {I : cd_Mem} {m : Nat} (hM : cd_MO w S m) (mm : Nat) (hN1 : I (m + 1) 1 = nI mm) (hmm : mm ≤ 12) : cd_C l w m_M_habits 1 0 0 [.ref m] S I (cd_Fi S (cd_hb (I (m + 1)) mm) I) := by
  refine cd_intro (by decide) (by simp [Value.category]) (Nat.le_of_ble_eq_true rfl) ?_
  intro X hO hE
  show cd_J w X 0 0 S I 0 [some (.ref m), none, none] []
  have loop : ∀ (r i : Nat), i + r = mm → cd_J w X 0 0 S I 4 [some (.ref m), some (.int (cd_hb (I (m + 1)) i)), some (.int (nI i))] [] := by
    intro r
    induction r with
    | zero =>
      intro i hi
      have him : i = mm := by omega
      subst him
      refine r_iload hO d_M_habits_4 rfl ?_
      refine r_aload hO d_M_habits_5 rfl ?_
      refine r_getR hO f_M_9 rfl hM.2.1 (mo_r1 hM) d_M_habits_6 ?_
      refine r_k hO d_M_habits_9 ?_
      refine r_iald hO (mo_s1 hM) (by omega) (by decide) d_M_habits_10 ?_
      refine r_tops hN1 ?_
      refine r_icmp_ge hO d_M_habits_11 (fun c_11 => ?_) (fun c_11 => ?_)
      · refine r_iload hO d_M_habits_29 rfl ?_
        refine r_iret hO hE (Nat.zero_le _) (Nat.zero_le _) d_M_habits_30 ?_
        exact ⟨rfl, rfl, rfl⟩
      · exact absurd (nI_le (Nat.le_refl _) (by omega)) c_11
    | succ r ih =>
      intro i hi
      refine r_iload hO d_M_habits_4 rfl ?_
      refine r_aload hO d_M_habits_5 rfl ?_
      refine r_getR hO f_M_9 rfl hM.2.1 (mo_r1 hM) d_M_habits_6 ?_
      refine r_k hO d_M_habits_9 ?_
      refine r_iald hO (mo_s1 hM) (by omega) (by decide) d_M_habits_10 ?_
      refine r_tops hN1 ?_
      refine r_icmp_ge hO d_M_habits_11 (fun c_11 => ?_) (fun c_11 => ?_)
      · exact absurd c_11 (nI_ge (by omega) (by omega))
      · refine r_iload hO d_M_habits_14 rfl ?_
        refine r_aload hO d_M_habits_15 rfl ?_
        refine r_iload hO d_M_habits_16 rfl ?_
        refine r_k hO d_M_habits_17 ?_
        refine r_cV2fi hO hE (c_M_of hM _ _ (by omega)) mf_M_of lk_M_97 hM.2.1 rfl (by decide) rfl (Nat.le_of_ble_eq_true rfl) d_M_habits_18 (Nat.zero_le _) (Nat.zero_le _) ?_
        refine r_iadd hO d_M_habits_21 ?_
        refine r_sI1 hO d_M_habits_22 rfl ?_
        refine r_incN2 hO d_M_habits_23 rfl ?_
        refine r_goto hO d_M_habits_26 ?_
        exact ih (i + 1) (by omega)
  refine r_k hO d_M_habits_0 ?_
  refine r_sI1 hO d_M_habits_1 rfl ?_
  refine r_k hO d_M_habits_2 ?_
  refine r_sI2 hO d_M_habits_3 rfl ?_
  exact loop mm 0 (by omega)
theorem d_M_thinks_0 : cd_Dk b_M_thinks 0 (nI 0) 1 := Or.inl ⟨0, ⟨by decide +kernel, rfl⟩, by decide +kernel⟩
theorem d_M_thinks_1 : cd_D_istore b_M_thinks 1 1 2 := Or.inr ⟨1, ⟨by decide +kernel, rfl⟩, rfl⟩
theorem d_M_thinks_2 : cd_D_iload b_M_thinks 2 1 3 := Or.inr ⟨1, ⟨by decide +kernel, rfl⟩, rfl⟩
theorem d_M_thinks_3 : cd_Dk b_M_thinks 3 (nI 76) 5 := Or.inr (Or.inl ⟨76, ⟨by decide +kernel, rfl⟩, by decide +kernel⟩)
theorem d_M_thinks_5 : cd_D_icmp_ge b_M_thinks 5 26 8 := ⟨21, by decide +kernel, by decide, rfl⟩
theorem d_M_thinks_8 : cd_D_aload b_M_thinks 8 0 9 := Or.inr ⟨0, ⟨by decide +kernel, rfl⟩, rfl⟩
theorem d_M_thinks_9 : cd_D 3 b_M_thinks 9 (.getfield 19) 12 := ⟨by decide +kernel, rfl⟩
theorem d_M_thinks_12 : cd_D_iload b_M_thinks 12 1 13 := Or.inr ⟨1, ⟨by decide +kernel, rfl⟩, rfl⟩
theorem d_M_thinks_13 : cd_D_aload b_M_thinks 13 0 14 := Or.inr ⟨0, ⟨by decide +kernel, rfl⟩, rfl⟩
theorem d_M_thinks_14 : cd_D 3 b_M_thinks 14 (.getfield 9) 17 := ⟨by decide +kernel, rfl⟩
theorem d_M_thinks_17 : cd_D_iload b_M_thinks 17 1 18 := Or.inr ⟨1, ⟨by decide +kernel, rfl⟩, rfl⟩
theorem d_M_thinks_18 : cd_D 1 b_M_thinks 18 .iaload 19 := ⟨by decide +kernel, rfl⟩
theorem d_M_thinks_19 : cd_D 1 b_M_thinks 19 .iastore 20 := ⟨by decide +kernel, rfl⟩
theorem d_M_thinks_20 : cd_D 3 b_M_thinks 20 (.iinc 1 (1)) 23 := ⟨by decide +kernel, rfl⟩
theorem d_M_thinks_23 : cd_D_goto b_M_thinks 23 2 := ⟨-21, by decide +kernel, by decide⟩
theorem d_M_thinks_26 : cd_D 1 b_M_thinks 26 .return_ 27 := ⟨by decide +kernel, rfl⟩
theorem c_M_thinks {l : Launch} {w : cd_WT} {S : cd_Sp} {I : cd_Mem} {m : Nat} (hM : cd_MO w S m)  : cd_C l w m_M_thinks 0 0 0 [.ref m] S I (cd_Fv S (cd_set I (m + 4) (cd_cp 76 (I (m + 1)) (I (m + 4))))) := by
  refine cd_intro (by decide) (by simp [Value.category]) (Nat.le_of_ble_eq_true rfl) ?_
  intro X hO hE
  show cd_J w X 0 0 S I 0 [some (.ref m), none] []
  have loop : ∀ (r k : Nat), k + r = 76 → cd_J w X 0 0 S (cd_set I (m + 4) (cd_cp k (I (m + 1)) (I (m + 4)))) 2 [some (.ref m), some (.int (nI k))] [] := by
    intro r
    induction r with
    | zero =>
      intro k hk
      have hk6 : k = 76 := by omega
      subst hk6
      refine r_iload hO d_M_thinks_2 rfl ?_
      refine r_k hO d_M_thinks_3 ?_
      refine r_icmp_ge hO d_M_thinks_5 (fun c_5 => ?_) (fun c_5 => ?_)
      · refine r_vret hO hE (Nat.zero_le _) (Nat.zero_le _) d_M_thinks_26 ?_
        exact ⟨rfl, rfl, rfl⟩
      · exact absurd (nI_le (Nat.le_refl _) (by omega)) c_5
    | succ r ih =>
      intro k hk
      refine r_iload hO d_M_thinks_2 rfl ?_
      refine r_k hO d_M_thinks_3 ?_
      refine r_icmp_ge hO d_M_thinks_5 (fun c_5 => ?_) (fun c_5 => ?_)
      · exact absurd c_5 (nI_ge (by omega) (by omega))
      · refine r_aload hO d_M_thinks_8 rfl ?_
        refine r_getR hO f_M_19 rfl hM.2.1 (mo_r4 hM) d_M_thinks_9 ?_
        refine r_iload hO d_M_thinks_12 rfl ?_
        refine r_aload hO d_M_thinks_13 rfl ?_
        refine r_getR hO f_M_9 rfl hM.2.1 (mo_r1 hM) d_M_thinks_14 ?_
        refine r_iload hO d_M_thinks_17 rfl ?_
        refine r_iald hO (mo_s1 hM) (by omega) (by decide) d_M_thinks_18 ?_
        refine r_iast hO (mo_s4 hM) (mo_l4 hM) (by omega) (by decide) d_M_thinks_19 ?_
        simp (disch := omega) only [cd_set_eq, cd_set_ne, cd_set_set]
        rw [cd_cp_s]
        refine r_incN1 hO d_M_thinks_20 rfl ?_
        refine r_goto hO d_M_thinks_23 ?_
        exact ih (k + 1) (by omega)
  refine r_k hO d_M_thinks_0 ?_
  refine r_sI1 hO d_M_thinks_1 rfl ?_
  refine r_mem (show I = cd_set I (m + 4) (cd_cp 0 (I (m + 1)) (I (m + 4))) by rw [cd_cp_0, cd_set_self]) ?_
  exact loop 76 0 (by omega)
theorem d_M_putsBack_0 : cd_Dk b_M_putsBack 0 (nI 0) 1 := Or.inl ⟨0, ⟨by decide +kernel, rfl⟩, by decide +kernel⟩
theorem d_M_putsBack_1 : cd_D_istore b_M_putsBack 1 1 2 := Or.inr ⟨1, ⟨by decide +kernel, rfl⟩, rfl⟩
theorem d_M_putsBack_2 : cd_D_iload b_M_putsBack 2 1 3 := Or.inr ⟨1, ⟨by decide +kernel, rfl⟩, rfl⟩
theorem d_M_putsBack_3 : cd_Dk b_M_putsBack 3 (nI 76) 5 := Or.inr (Or.inl ⟨76, ⟨by decide +kernel, rfl⟩, by decide +kernel⟩)
theorem d_M_putsBack_5 : cd_D_icmp_ge b_M_putsBack 5 26 8 := ⟨21, by decide +kernel, by decide, rfl⟩
theorem d_M_putsBack_8 : cd_D_aload b_M_putsBack 8 0 9 := Or.inr ⟨0, ⟨by decide +kernel, rfl⟩, rfl⟩
theorem d_M_putsBack_9 : cd_D 3 b_M_putsBack 9 (.getfield 9) 12 := ⟨by decide +kernel, rfl⟩
theorem d_M_putsBack_12 : cd_D_iload b_M_putsBack 12 1 13 := Or.inr ⟨1, ⟨by decide +kernel, rfl⟩, rfl⟩
theorem d_M_putsBack_13 : cd_D_aload b_M_putsBack 13 0 14 := Or.inr ⟨0, ⟨by decide +kernel, rfl⟩, rfl⟩
theorem d_M_putsBack_14 : cd_D 3 b_M_putsBack 14 (.getfield 19) 17 := ⟨by decide +kernel, rfl⟩
theorem d_M_putsBack_17 : cd_D_iload b_M_putsBack 17 1 18 := Or.inr ⟨1, ⟨by decide +kernel, rfl⟩, rfl⟩
theorem d_M_putsBack_18 : cd_D 1 b_M_putsBack 18 .iaload 19 := ⟨by decide +kernel, rfl⟩
theorem d_M_putsBack_19 : cd_D 1 b_M_putsBack 19 .iastore 20 := ⟨by decide +kernel, rfl⟩
theorem d_M_putsBack_20 : cd_D 3 b_M_putsBack 20 (.iinc 1 (1)) 23 := ⟨by decide +kernel, rfl⟩
theorem d_M_putsBack_23 : cd_D_goto b_M_putsBack 23 2 := ⟨-21, by decide +kernel, by decide⟩
theorem d_M_putsBack_26 : cd_D 1 b_M_putsBack 26 .return_ 27 := ⟨by decide +kernel, rfl⟩
theorem c_M_putsBack {l : Launch} {w : cd_WT} {S : cd_Sp} {I : cd_Mem} {m : Nat} (hM : cd_MO w S m)  : cd_C l w m_M_putsBack 0 0 0 [.ref m] S I (cd_Fv S (cd_set I (m + 1) (cd_cp 76 (I (m + 4)) (I (m + 1))))) := by
  refine cd_intro (by decide) (by simp [Value.category]) (Nat.le_of_ble_eq_true rfl) ?_
  intro X hO hE
  show cd_J w X 0 0 S I 0 [some (.ref m), none] []
  have loop : ∀ (r k : Nat), k + r = 76 → cd_J w X 0 0 S (cd_set I (m + 1) (cd_cp k (I (m + 4)) (I (m + 1)))) 2 [some (.ref m), some (.int (nI k))] [] := by
    intro r
    induction r with
    | zero =>
      intro k hk
      have hk6 : k = 76 := by omega
      subst hk6
      refine r_iload hO d_M_putsBack_2 rfl ?_
      refine r_k hO d_M_putsBack_3 ?_
      refine r_icmp_ge hO d_M_putsBack_5 (fun c_5 => ?_) (fun c_5 => ?_)
      · refine r_vret hO hE (Nat.zero_le _) (Nat.zero_le _) d_M_putsBack_26 ?_
        exact ⟨rfl, rfl, rfl⟩
      · exact absurd (nI_le (Nat.le_refl _) (by omega)) c_5
    | succ r ih =>
      intro k hk
      refine r_iload hO d_M_putsBack_2 rfl ?_
      refine r_k hO d_M_putsBack_3 ?_
      refine r_icmp_ge hO d_M_putsBack_5 (fun c_5 => ?_) (fun c_5 => ?_)
      · exact absurd c_5 (nI_ge (by omega) (by omega))
      · refine r_aload hO d_M_putsBack_8 rfl ?_
        refine r_getR hO f_M_9 rfl hM.2.1 (mo_r1 hM) d_M_putsBack_9 ?_
        refine r_iload hO d_M_putsBack_12 rfl ?_
        refine r_aload hO d_M_putsBack_13 rfl ?_
        refine r_getR hO f_M_19 rfl hM.2.1 (mo_r4 hM) d_M_putsBack_14 ?_
        refine r_iload hO d_M_putsBack_17 rfl ?_
        refine r_iald hO (mo_s4 hM) (by omega) (by decide) d_M_putsBack_18 ?_
        refine r_iast hO (mo_s1 hM) (mo_l1 hM) (by omega) (by decide) d_M_putsBack_19 ?_
        simp (disch := omega) only [cd_set_eq, cd_set_ne, cd_set_set]
        rw [cd_cp_s]
        refine r_incN1 hO d_M_putsBack_20 rfl ?_
        refine r_goto hO d_M_putsBack_23 ?_
        exact ih (k + 1) (by omega)
  refine r_k hO d_M_putsBack_0 ?_
  refine r_sI1 hO d_M_putsBack_1 rfl ?_
  refine r_mem (show I = cd_set I (m + 1) (cd_cp 0 (I (m + 4)) (I (m + 1))) by rw [cd_cp_0, cd_set_self]) ?_
  exact loop 76 0 (by omega)
theorem d_M_copyAll_0 : cd_Dk b_M_copyAll 0 (nI 0) 1 := Or.inl ⟨0, ⟨by decide +kernel, rfl⟩, by decide +kernel⟩
theorem d_M_copyAll_1 : cd_D_istore b_M_copyAll 1 2 2 := Or.inr ⟨2, ⟨by decide +kernel, rfl⟩, rfl⟩
theorem d_M_copyAll_2 : cd_D_iload b_M_copyAll 2 2 3 := Or.inr ⟨2, ⟨by decide +kernel, rfl⟩, rfl⟩
theorem d_M_copyAll_3 : cd_Dk b_M_copyAll 3 (nI 1448) 6 := Or.inr (Or.inr ⟨1448, ⟨by decide +kernel, rfl⟩, by decide +kernel⟩)
theorem d_M_copyAll_6 : cd_D_icmp_ge b_M_copyAll 6 21 9 := ⟨15, by decide +kernel, by decide, rfl⟩
theorem d_M_copyAll_9 : cd_D_aload b_M_copyAll 9 1 10 := Or.inr ⟨1, ⟨by decide +kernel, rfl⟩, rfl⟩
theorem d_M_copyAll_10 : cd_D_iload b_M_copyAll 10 2 11 := Or.inr ⟨2, ⟨by decide +kernel, rfl⟩, rfl⟩
theorem d_M_copyAll_11 : cd_D_aload b_M_copyAll 11 0 12 := Or.inr ⟨0, ⟨by decide +kernel, rfl⟩, rfl⟩
theorem d_M_copyAll_12 : cd_D_iload b_M_copyAll 12 2 13 := Or.inr ⟨2, ⟨by decide +kernel, rfl⟩, rfl⟩
theorem d_M_copyAll_13 : cd_D 1 b_M_copyAll 13 .iaload 14 := ⟨by decide +kernel, rfl⟩
theorem d_M_copyAll_14 : cd_D 1 b_M_copyAll 14 .iastore 15 := ⟨by decide +kernel, rfl⟩
theorem d_M_copyAll_15 : cd_D 3 b_M_copyAll 15 (.iinc 2 (1)) 18 := ⟨by decide +kernel, rfl⟩
theorem d_M_copyAll_18 : cd_D_goto b_M_copyAll 18 2 := ⟨-16, by decide +kernel, by decide⟩
theorem d_M_copyAll_21 : cd_D 1 b_M_copyAll 21 .return_ 22 := ⟨by decide +kernel, rfl⟩
theorem c_M_copyAll {l : Launch} {w : cd_WT} {S : cd_Sp} {I : cd_Mem} {a b : Nat} (hsa : S.2.1 a = (2, 1448)) (hsb : S.2.1 b = (2, 1448)) (hlb : w.1 ≤ b) (hab : a ≠ b) : cd_C l w m_M_copyAll 0 0 0 [.ref a, .ref b] S I (cd_Fv S (cd_set I b (cd_cp 1448 (I a) (I b)))) := by
  refine cd_intro (by decide) (by simp [Value.category]) (Nat.le_of_ble_eq_true rfl) ?_
  intro X hO hE
  show cd_J w X 0 0 S I 0 [some (.ref a), some (.ref b), none] []
  have loop : ∀ (r k : Nat), k + r = 1448 → cd_J w X 0 0 S (cd_set I b (cd_cp k (I a) (I b))) 2 [some (.ref a), some (.ref b), some (.int (nI k))] [] := by
    intro r
    induction r with
    | zero =>
      intro k hk
      have hk6 : k = 1448 := by omega
      subst hk6
      refine r_iload hO d_M_copyAll_2 rfl ?_
      refine r_k hO d_M_copyAll_3 ?_
      refine r_icmp_ge hO d_M_copyAll_6 (fun c_6 => ?_) (fun c_6 => ?_)
      · refine r_vret hO hE (Nat.zero_le _) (Nat.zero_le _) d_M_copyAll_21 ?_
        exact ⟨rfl, rfl, rfl⟩
      · exact absurd (nI_le (Nat.le_refl _) (by omega)) c_6
    | succ r ih =>
      intro k hk
      refine r_iload hO d_M_copyAll_2 rfl ?_
      refine r_k hO d_M_copyAll_3 ?_
      refine r_icmp_ge hO d_M_copyAll_6 (fun c_6 => ?_) (fun c_6 => ?_)
      · exact absurd c_6 (nI_ge (by omega) (by omega))
      · refine r_aload hO d_M_copyAll_9 rfl ?_
        refine r_iload hO d_M_copyAll_10 rfl ?_
        refine r_aload hO d_M_copyAll_11 rfl ?_
        refine r_iload hO d_M_copyAll_12 rfl ?_
        refine r_iald hO hsa (by omega) (by decide) d_M_copyAll_13 ?_
        refine r_iast hO hsb hlb (by omega) (by decide) d_M_copyAll_14 ?_
        simp only [cd_set_eq, cd_set_set, cd_set_ne _ _ hab]
        rw [cd_cp_s]
        refine r_incN2 hO d_M_copyAll_15 rfl ?_
        refine r_goto hO d_M_copyAll_18 ?_
        exact ih (k + 1) (by omega)
  refine r_k hO d_M_copyAll_0 ?_
  refine r_sI2 hO d_M_copyAll_1 rfl ?_
  refine r_mem (show I = cd_set I b (cd_cp 0 (I a) (I b)) by rw [cd_cp_0, cd_set_self]) ?_
  exact loop 1448 0 (by omega)
