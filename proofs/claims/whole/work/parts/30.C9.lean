theorem cd_vw_comes (I : cd_Mem) {h mm : Nat} (hm : mm < 12) (k hr b e : Int32) {j : Nat} (hj : j < 76) : cd_vw (cd_set (cd_set I (h + 6 + mm) (upd (upd (upd (upd (upd (I (h + 6 + mm)) 0 k) 1 hr) 2 b) 3 e) 4 (nI 0))) h (upd (I h) 3 (nI (mm + 1)))) h j = cd_comes (cd_vw I h) mm k hr b e j := by
  by_cases h16 : 16 + 5 * mm ≤ j ∧ j < 16 + 5 * mm + 5
  · obtain ⟨q, hq, rfl⟩ : ∃ q, q < 5 ∧ j = 16 + 5 * mm + q := ⟨j - (16 + 5 * mm), by omega, by omega⟩
    unfold cd_vw
    rw [cd_lx_a hq, cd_lk_a hq, cd_set_ne _ _ (by omega), cd_set_eq]
    rcases (show q = 0 ∨ q = 1 ∨ q = 2 ∨ q = 3 ∨ q = 4 by omega) with rfl | rfl | rfl | rfl | rfl <;> simp [cd_comes, upd]
  · have hne : cd_lx h j ≠ h + 6 + mm := by
      unfold cd_lx
      repeat' split
      all_goals omega
    by_cases h1 : j = 1
    · subst h1
      unfold cd_vw
      rw [show cd_lx h 1 = h from rfl, show cd_lk 1 = 3 from rfl, cd_set_eq]
      unfold cd_comes
      simp only [upd]
      simp
      omega
    · have e2 : cd_comes (cd_vw I h) mm k hr b e j = cd_vw I h j := by
        unfold cd_comes
        simp only [upd]
        rw [if_neg (by omega), if_neg (by omega), if_neg (by omega), if_neg (by omega), if_neg (by omega), if_neg (by omega)]
      rw [e2]
      unfold cd_vw
      by_cases hh : cd_lx h j = h
      · have h3 : cd_lk j ≠ 3 := by
          unfold cd_lx at hh
          unfold cd_lk
          repeat' split at hh
          all_goals repeat' split
          all_goals omega
        rw [hh, cd_set_eq]
        unfold upd
        rw [if_neg h3]
      · rw [cd_set_ne _ _ hh, cd_set_ne _ _ hne]
theorem cd_comes_kp (N : Nat → Int32) {mm : Nat} (k hr b e : Int32) {j : Nat} (h1 : j ≠ 1) (h2 : j < 16 + 5 * mm ∨ 16 + 5 * mm + 5 ≤ j) : cd_comes N mm k hr b e j = N j := by
  unfold cd_comes
  simp only [upd]
  rw [if_neg (by omega), if_neg (by omega), if_neg (by omega), if_neg (by omega), if_neg (by omega), if_neg (by omega)]
theorem cd_comes_1 (N : Nat → Int32) {mm : Nat} (k hr b e : Int32) : cd_comes N mm k hr b e 1 = nI (mm + 1) := by
  unfold cd_comes
  simp only [upd]
  rw [if_neg (by omega), if_neg (by omega), if_neg (by omega), if_neg (by omega), if_neg (by omega), if_pos trivial]
theorem cd_comes_q (N : Nat → Int32) {mm : Nat} (k hr b e : Int32) : cd_comes N mm k hr b e (16 + 5 * mm + 0) = k ∧ cd_comes N mm k hr b e (16 + 5 * mm + 1) = hr ∧ cd_comes N mm k hr b e (16 + 5 * mm + 2) = b ∧ cd_comes N mm k hr b e (16 + 5 * mm + 3) = e ∧ cd_comes N mm k hr b e (16 + 5 * mm + 4) = nI 0 := by
  refine ⟨?_, ?_, ?_, ?_, ?_⟩ <;> simp [cd_comes, upd]
theorem cd_comes_cg {N N' : Nat → Int32} {mm : Nat} (k hr b e : Int32) (h : ∀ j, j < 16 + 5 * mm → N' j = N j) {j : Nat} (hj : j < 16 + 5 * (mm + 1)) : cd_comes N' mm k hr b e j = cd_comes N mm k hr b e j := by
  unfold cd_comes
  simp only [upd]
  repeat' split
  all_goals first | rfl | exact h j (by omega)
theorem cd_TW.kq {N N' : Nat → Int32} {tc : Nat} (h : cd_TW N tc) (hN : ∀ j, 76 ≤ j → N' j = N j) : cd_TW N' tc := by
  intro t ht
  obtain ⟨ky, n, h1, h2, h3, h4, h5, h6⟩ := h t ht
  have e : (fun k => N' (104 + 96 * t + k)) = fun k => N (104 + 96 * t + k) := by
    funext k
    exact hN _ (by omega)
  exact ⟨ky, n, by rw [hN _ (by omega)]; exact h1, h2, h3, h4, by rw [e]; exact h5, by rw [e]; exact h6⟩
theorem cd_HG_comes {w : cd_WT} {S : cd_Sp} {I : cd_Mem} {h mm tc : Nat} {N : Nat → Int32} (hG : cd_HG w S I h N mm tc) (hm : mm < 12) {k hr b e : Int32} (hk : ∃ q, q ≤ 5 ∧ k = nI q) (hhr : ∃ q, q ≤ 23 ∧ hr = nI q) (hb : ∃ q, q ≤ 99 ∧ b = nI q) (he : ∃ q, q ≤ 100 ∧ e = nI q) : cd_HG w S (cd_set (cd_set I (h + 6 + mm) (upd (upd (upd (upd (upd (I (h + 6 + mm)) 0 k) 1 hr) 2 b) 3 e) 4 (nI 0))) h (upd (I h) 3 (nI (mm + 1)))) h (cd_comes N mm k hr b e) (mm + 1) tc := by
  obtain ⟨hH, hhd, ⟨v1, v2, v3, v4, v5⟩, ⟨i1, i2, i3, i4, i5, i6⟩, hR1, hR2, hR3⟩ := hG
  have kp := fun {j : Nat} => cd_comes_kp N (mm := mm) k hr b e (j := j)
  refine ⟨hH, hhd, ⟨cd_comes_1 N k hr b e, by omega, by rw [kp (by omega) (by omega)]; exact v3, v4, v5.kq (fun j hj => kp (by omega) (by omega))⟩, ⟨fun i hi => ?_, ?_, ?_, ?_, ?_, ?_⟩, fun j hj => ?_, fun t ht => ?_, fun q hq => ?_⟩
  · by_cases him : i = mm
    · subst him
      obtain ⟨c0, c1, c2, c3, -⟩ := cd_comes_q N (mm := i) k hr b e
      rw [c0, c1, c2, c3]
      exact ⟨hk, hhr, hb, he⟩
    · rw [kp (by omega) (by omega), kp (by omega) (by omega), kp (by omega) (by omega), kp (by omega) (by omega)]
      exact i1 i (by omega)
  · rw [kp (by omega) (by omega)]; exact i2
  · rw [kp (by omega) (by omega)]; exact i3
  · rw [kp (by omega) (by omega)]; exact i4
  · rw [kp (by omega) (by omega)]; exact i5
  · rw [kp (by omega) (by omega)]; exact i6
  · rw [cd_vw_comes I hm k hr b e (by omega)]
    exact cd_comes_cg k hr b e hR1 hj
  · obtain ⟨z, z1, z2⟩ := hR2 t ht
    exact ⟨z, z1, (z2.cg (by rw [cd_set_ne _ _ (by omega), cd_set_ne _ _ (by omega)]) (by rw [cd_set_ne _ _ (by omega), cd_set_ne _ _ (by omega)])).kq (fun j hj => kp (by omega) (by omega))⟩
  · rw [cd_set_ne _ _ (by omega), cd_set_ne _ _ (by omega), hR3 q hq]
    unfold cd_cn
    rw [cd_cnt_cg (N := N) (N' := cd_comes N mm k hr b e) (fun t ht => kp (by omega) (by omega))]
theorem d_H_adds_0 : cd_D_aload b_H_adds 0 0 1 := Or.inr ⟨0, ⟨by decide +kernel, rfl⟩, rfl⟩
theorem d_H_adds_1 : cd_D 3 b_H_adds 1 (.getfield 20) 4 := ⟨by decide +kernel, rfl⟩
theorem d_H_adds_4 : cd_D_aload b_H_adds 4 0 5 := Or.inr ⟨0, ⟨by decide +kernel, rfl⟩, rfl⟩
theorem d_H_adds_5 : cd_D 3 b_H_adds 5 (.getfield 24) 8 := ⟨by decide +kernel, rfl⟩
theorem d_H_adds_8 : cd_D 1 b_H_adds 8 .aaload 9 := ⟨by decide +kernel, rfl⟩
theorem d_H_adds_9 : cd_D_astore b_H_adds 9 5 11 := Or.inl ⟨by decide +kernel, rfl⟩
theorem d_H_adds_11 : cd_D_aload b_H_adds 11 5 13 := Or.inl ⟨by decide +kernel, rfl⟩
theorem d_H_adds_13 : cd_D_iload b_H_adds 13 1 14 := Or.inr ⟨1, ⟨by decide +kernel, rfl⟩, rfl⟩
theorem d_H_adds_14 : cd_D 3 b_H_adds 14 (.putfield 58) 17 := ⟨by decide +kernel, rfl⟩
theorem d_H_adds_17 : cd_D_aload b_H_adds 17 5 19 := Or.inl ⟨by decide +kernel, rfl⟩
theorem d_H_adds_19 : cd_D_iload b_H_adds 19 2 20 := Or.inr ⟨2, ⟨by decide +kernel, rfl⟩, rfl⟩
theorem d_H_adds_20 : cd_D 3 b_H_adds 20 (.putfield 61) 23 := ⟨by decide +kernel, rfl⟩
theorem d_H_adds_23 : cd_D_aload b_H_adds 23 5 25 := Or.inl ⟨by decide +kernel, rfl⟩
theorem d_H_adds_25 : cd_D_iload b_H_adds 25 3 26 := Or.inr ⟨3, ⟨by decide +kernel, rfl⟩, rfl⟩
theorem d_H_adds_26 : cd_D 3 b_H_adds 26 (.putfield 62) 29 := ⟨by decide +kernel, rfl⟩
theorem d_H_adds_29 : cd_D_aload b_H_adds 29 5 31 := Or.inl ⟨by decide +kernel, rfl⟩
theorem d_H_adds_31 : cd_D_iload b_H_adds 31 4 33 := Or.inl ⟨by decide +kernel, rfl⟩
theorem d_H_adds_33 : cd_D 3 b_H_adds 33 (.putfield 65) 36 := ⟨by decide +kernel, rfl⟩
theorem d_H_adds_36 : cd_D_aload b_H_adds 36 5 38 := Or.inl ⟨by decide +kernel, rfl⟩
theorem d_H_adds_38 : cd_Dk b_H_adds 38 (nI 0) 39 := Or.inl ⟨0, ⟨by decide +kernel, rfl⟩, by decide +kernel⟩
theorem d_H_adds_39 : cd_D 3 b_H_adds 39 (.putfield 68) 42 := ⟨by decide +kernel, rfl⟩
theorem d_H_adds_42 : cd_D_aload b_H_adds 42 0 43 := Or.inr ⟨0, ⟨by decide +kernel, rfl⟩, rfl⟩
theorem d_H_adds_43 : cd_D 1 b_H_adds 43 .dup 44 := ⟨by decide +kernel, rfl⟩
theorem d_H_adds_44 : cd_D 3 b_H_adds 44 (.getfield 24) 47 := ⟨by decide +kernel, rfl⟩
theorem d_H_adds_47 : cd_Dk b_H_adds 47 (nI 1) 48 := Or.inl ⟨1, ⟨by decide +kernel, rfl⟩, by decide +kernel⟩
theorem d_H_adds_48 : cd_D 1 b_H_adds 48 .iadd 49 := ⟨by decide +kernel, rfl⟩
theorem d_H_adds_49 : cd_D 3 b_H_adds 49 (.putfield 24) 52 := ⟨by decide +kernel, rfl⟩
theorem d_H_adds_52 : cd_D_aload b_H_adds 52 0 53 := Or.inr ⟨0, ⟨by decide +kernel, rfl⟩, rfl⟩
theorem d_H_adds_53 : cd_D 3 b_H_adds 53 (.getfield 24) 56 := ⟨by decide +kernel, rfl⟩
theorem d_H_adds_56 : cd_Dk b_H_adds 56 (nI 1) 57 := Or.inl ⟨1, ⟨by decide +kernel, rfl⟩, by decide +kernel⟩
theorem d_H_adds_57 : cd_D 1 b_H_adds 57 .isub 58 := ⟨by decide +kernel, rfl⟩
theorem d_H_adds_58 : cd_D 1 b_H_adds 58 .ireturn 59 := ⟨by decide +kernel, rfl⟩
theorem c_H_adds {l : Launch} {w : cd_WT} {S : cd_Sp} {I : cd_Mem} {h mm tc : Nat} {N : Nat → Int32} (hG : cd_HG w S I h N mm tc) (hm : mm < 12) {k hr b e : Int32} (hk : ∃ q, q ≤ 5 ∧ k = nI q) (hhr : ∃ q, q ≤ 23 ∧ hr = nI q) (hb : ∃ q, q ≤ 99 ∧ b = nI q) (he : ∃ q, q ≤ 100 ∧ e = nI q) : cd_C l w m_H_adds 0 0 0 [.ref h, .int k, .int hr, .int b, .int e] S I (cd_Pi S (fun x I' => x = nI mm ∧ cd_HG w S I' h (cd_comes N mm k hr b e) (mm + 1) tc ∧ cd_ofh w h I I')) := by
  refine cd_intro (by decide) (by simp [Value.category]) (Nat.le_of_ble_eq_true rfl) ?_
  intro X hO hE
  show cd_J w X 0 0 S I 0 [some (.ref h), some (.int k), some (.int hr), some (.int b), some (.int e), none] []
  obtain ⟨hH, hhd, hV, hIV, hR⟩ := id hG
  have hmm := hV.2.1
  have hm1 : I h 3 = nI mm := (hR.at 1 (by omega) rfl rfl).trans hV.1
  refine r_aload hO d_H_adds_0 rfl ?_
  refine r_getR hO f_H_20 rfl hH.2.1 hH.2.2.2.2.1.1 d_H_adds_1 ?_
  refine r_aload hO d_H_adds_4 rfl ?_
  refine r_getI hO f_H_24 rfl hH.2.1 d_H_adds_5 ?_
  refine r_tops hm1 ?_
  refine r_aald (t := 4) hO hH.2.2.2.2.1.2 (by decide) (by decide) (by omega) (by decide) (hH.2.2.2.2.2.2.2 _ (by omega)).1 d_H_adds_8 ?_
  refine r_sA5 hO d_H_adds_9 rfl ?_
  refine r_aload hO d_H_adds_11 rfl ?_
  refine r_iload hO d_H_adds_13 rfl ?_
  refine r_putI hO f_H_58 rfl (hH.2.2.2.2.2.2.2 _ (by omega)).2 (Nat.le_trans hH.1 (Nat.le_trans (Nat.le_add_right _ 6) (Nat.le_add_right _ _))) d_H_adds_14 ?_
  refine r_aload hO d_H_adds_17 rfl ?_
  refine r_iload hO d_H_adds_19 rfl ?_
  refine r_putI hO f_H_61 rfl (hH.2.2.2.2.2.2.2 _ (by omega)).2 (Nat.le_trans hH.1 (Nat.le_trans (Nat.le_add_right _ 6) (Nat.le_add_right _ _))) d_H_adds_20 ?_
  try simp (disch := omega) only [cd_set_eq, cd_set_ne, cd_set_set]
  refine r_aload hO d_H_adds_23 rfl ?_
  refine r_iload hO d_H_adds_25 rfl ?_
  refine r_putI hO f_H_62 rfl (hH.2.2.2.2.2.2.2 _ (by omega)).2 (Nat.le_trans hH.1 (Nat.le_trans (Nat.le_add_right _ 6) (Nat.le_add_right _ _))) d_H_adds_26 ?_
  try simp (disch := omega) only [cd_set_eq, cd_set_ne, cd_set_set]
  refine r_aload hO d_H_adds_29 rfl ?_
  refine r_iload hO d_H_adds_31 rfl ?_
  refine r_putI hO f_H_65 rfl (hH.2.2.2.2.2.2.2 _ (by omega)).2 (Nat.le_trans hH.1 (Nat.le_trans (Nat.le_add_right _ 6) (Nat.le_add_right _ _))) d_H_adds_33 ?_
  try simp (disch := omega) only [cd_set_eq, cd_set_ne, cd_set_set]
  refine r_aload hO d_H_adds_36 rfl ?_
  refine r_k hO d_H_adds_38 ?_
  refine r_putI hO f_H_68 rfl (hH.2.2.2.2.2.2.2 _ (by omega)).2 (Nat.le_trans hH.1 (Nat.le_trans (Nat.le_add_right _ 6) (Nat.le_add_right _ _))) d_H_adds_39 ?_
  try simp (disch := omega) only [cd_set_eq, cd_set_ne, cd_set_set]
  refine r_aload hO d_H_adds_42 rfl ?_
  refine r_dup hO d_H_adds_43 rfl ?_
  refine r_getI hO f_H_24 rfl hH.2.1 d_H_adds_44 ?_
  try simp (disch := omega) only [cd_set_eq, cd_set_ne, cd_set_set]
  refine r_tops hm1 ?_
  refine r_k hO d_H_adds_47 ?_
  refine r_iaddN hO d_H_adds_48 ?_
  refine r_putI hO f_H_24 rfl hH.2.1 hH.1 d_H_adds_49 ?_
  try simp (disch := omega) only [cd_set_eq, cd_set_ne, cd_set_set]
  refine r_aload hO d_H_adds_52 rfl ?_
  refine r_getI hO f_H_24 rfl hH.2.1 d_H_adds_53 ?_
  try simp (disch := omega) only [cd_set_eq, cd_set_ne, cd_set_set]
  refine r_tops (show _ = nI (mm + 1) from rfl) ?_
  refine r_k hO d_H_adds_56 ?_
  refine r_isubN hO d_H_adds_57 (by omega) ?_
  refine r_iret hO hE (Nat.zero_le _) (Nat.zero_le _) d_H_adds_58 ?_
  exact ⟨_, rfl, rfl, by rw [Nat.add_sub_cancel], cd_HG_comes hG hm hk hhr hb he, (cd_ofh.set _ _ (cd_wr_in (by omega) (by omega))).tr (cd_ofh.set _ _ (cd_wr_in (by omega) (by omega)))⟩
