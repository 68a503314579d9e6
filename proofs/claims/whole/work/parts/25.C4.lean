theorem cd_IV_upd {N : Nat → Int32} {mm : Nat} (h : cd_IV N mm) {j : Nat} {v : Int32} (hj : j < 3 ∨ j = 4 ∨ j = 5 ∨ (10 ≤ j ∧ j < 16) ∨ (16 ≤ j ∧ (j - 16) % 5 = 4)) : cd_IV (upd N j v) mm := by
  have e : ∀ k, (k = 3 ∨ k = 6 ∨ k = 7 ∨ k = 8 ∨ k = 9 ∨ (16 ≤ k ∧ (k - 16) % 5 < 4)) → upd N j v k = N k := fun k hk => if_neg (by omega)
  obtain ⟨h1, h2, h3, h4, h5, h6⟩ := h
  refine ⟨fun i hi => ?_, by rw [e 3 (by omega)]; exact h2, by rw [e 6 (by omega)]; exact h3, by rw [e 7 (by omega)]; exact h4, by rw [e 8 (by omega)]; exact h5, by rw [e 9 (by omega)]; exact h6⟩
  obtain ⟨a1, a2, a3, a4⟩ := h1 i hi
  exact ⟨by rw [e _ (by omega)]; exact a1, by rw [e _ (by omega)]; exact a2, by rw [e _ (by omega)]; exact a3, by rw [e _ (by omega)]; exact a4⟩
theorem cd_IV_hab {N : Nat → Int32} {mm : Nat} (h : cd_IV N mm) (i : Nat) {v : Int32} (hv : ∃ k, k ≤ 99 ∧ v = nI k) : cd_IV (upd N (16 + 5 * i + 2) v) mm := by
  have e : ∀ k, k ≠ 16 + 5 * i + 2 → upd N (16 + 5 * i + 2) v k = N k := fun k hk => if_neg hk
  obtain ⟨h1, h2, h3, h4, h5, h6⟩ := h
  refine ⟨fun i' hi => ?_, by rw [e 3 (by omega)]; exact h2, by rw [e 6 (by omega)]; exact h3, by rw [e 7 (by omega)]; exact h4, by rw [e 8 (by omega)]; exact h5, by rw [e 9 (by omega)]; exact h6⟩
  obtain ⟨a1, a2, a3, a4⟩ := h1 i' hi
  refine ⟨by rw [e _ (by omega)]; exact a1, by rw [e _ (by omega)]; exact a2, ?_, by rw [e _ (by omega)]; exact a4⟩
  by_cases hii : i' = i
  · subst hii
    rw [show upd N (16 + 5 * i' + 2) v (16 + 5 * i' + 2) = v from if_pos rfl]
    exact hv
  · rw [e _ (by omega)]
    exact a3
theorem cd_IV_bit {N : Nat → Int32} {mm : Nat} (h : cd_IV N mm) {j : Nat} (hj : 6 ≤ j ∧ j ≤ 9) {v : Int32} (hv : v = 0 ∨ v = nI 1) : cd_IV (upd N j v) mm := by
  have e : ∀ k, (k < 6 ∨ 9 < k) → upd N j v k = N k := fun k hk => if_neg (by omega)
  have e2 : ∀ k, (N k = 0 ∨ N k = nI 1) → (upd N j v k = 0 ∨ upd N j v k = nI 1) := fun k hk => by
    unfold upd
    split
    · exact hv
    · exact hk
  obtain ⟨h1, h2, h3, h4, h5, h6⟩ := h
  refine ⟨fun i hi => ?_, by rw [e 3 (by omega)]; exact h2, e2 6 h3, e2 7 h4, e2 8 h5, e2 9 h6⟩
  obtain ⟨a1, a2, a3, a4⟩ := h1 i hi
  exact ⟨by rw [e _ (by omega)]; exact a1, by rw [e _ (by omega)]; exact a2, by rw [e _ (by omega)]; exact a3, by rw [e _ (by omega)]; exact a4⟩
theorem cd_wi_ex (v : Int32) {n : Nat} (hn : n < 2 ^ 31) : ∃ k, k ≤ n ∧ cd_wi v (nI 0) (nI n) = nI k := by
  unfold cd_wi
  split
  · exact ⟨0, by omega, rfl⟩
  · split
    · exact ⟨n, by omega, rfl⟩
    · rename_i h1 h2
      have h3 : nI 0 ≤ v := by
        rw [Int32.lt_iff_toInt_lt] at h1
        rw [Int32.le_iff_toInt_le]
        omega
      have h4 : v ≤ nI n := by
        rw [Int32.lt_iff_toInt_lt] at h2
        rw [Int32.le_iff_toInt_le]
        omega
      obtain ⟨q, -, hq, rfl⟩ := cd_in_ex ⟨h3, h4⟩ (by decide) hn
      exact ⟨q, hq, rfl⟩
theorem cd_hw_wi (v : Int32) {n : Nat} (hn : n < 2 ^ 31) : cd_mx (nI 0) (cd_mn v (nI n)) = cd_wi v (nI 0) (nI n) := by
  have e0 : (nI 0).toInt = 0 := rfl
  have en : (nI n).toInt = n := nI_toInt hn
  unfold cd_mx cd_mn cd_wi
  simp only [Int32.lt_iff_toInt_lt]
  (repeat' split) <;> first | rfl | (exfalso; omega) | (apply Int32.toInt_inj.mp; omega)
theorem cd_lea_sv {k : Nat} (h : k ≤ 5) : (cd_sv 1).getD k 0 = cd_lea (nI k) ∧ (cd_sv 2).getD k 0 = cd_fog (nI k) ∧ (cd_sv 3).getD k 0 = cd_scr (nI k) := by
  rcases (show k = 0 ∨ k = 1 ∨ k = 2 ∨ k = 3 ∨ k = 4 ∨ k = 5 by omega) with rfl | rfl | rfl | rfl | rfl | rfl <;> exact ⟨rfl, rfl, rfl⟩
theorem cd_lea_n {k : Nat} (h : k ≤ 5) : ∃ z, z ≤ 16 ∧ cd_lea (nI k) = nI z := by
  rcases (show k = 0 ∨ k = 1 ∨ k = 2 ∨ k = 3 ∨ k = 4 ∨ k = 5 by omega) with rfl | rfl | rfl | rfl | rfl | rfl
  · exact ⟨8, by decide, rfl⟩
  · exact ⟨3, by decide, rfl⟩
  · exact ⟨8, by decide, rfl⟩
  · exact ⟨12, by decide, rfl⟩
  · exact ⟨16, by decide, rfl⟩
  · exact ⟨15, by decide, rfl⟩
theorem cd_fog_n {k : Nat} (h : k ≤ 5) : ∃ z, z ≤ 9 ∧ cd_fog (nI k) = nI z := by
  rcases (show k = 0 ∨ k = 1 ∨ k = 2 ∨ k = 3 ∨ k = 4 ∨ k = 5 by omega) with rfl | rfl | rfl | rfl | rfl | rfl
  · exact ⟨4, by decide, rfl⟩
  · exact ⟨6, by decide, rfl⟩
  · exact ⟨4, by decide, rfl⟩
  · exact ⟨6, by decide, rfl⟩
  · exact ⟨1, by decide, rfl⟩
  · exact ⟨9, by decide, rfl⟩
theorem cd_mn_wi {a : Nat} (h : a < 2 ^ 30) : cd_mn (nI 99) (nI a) = cd_wi (nI a) (nI 0) (nI 99) := by
  rw [cd_wi_nI (by omega) (by decide)]
  unfold cd_mn
  by_cases q : a < 99
  · rw [if_pos (nI_lt q (by decide))]
    congr 1
    omega
  · rw [if_neg (nI_nlt (by omega) (by omega))]
    congr 1
    omega
theorem cd_mx_wi {a b : Nat} (ha : a ≤ 99) (hb : b ≤ 99) : cd_mx (nI 0) (nI a - nI b) = cd_wi (nI a - nI b) (nI 0) (nI 99) := by
  have e0 : (nI 0).toInt = 0 := rfl
  have e9 : (nI 99).toInt = 99 := rfl
  have e : (nI a - nI b).toInt = (a : Int) - b := pk_sub_toInt (by omega) (by omega)
  unfold cd_mx cd_wi
  simp only [Int32.lt_iff_toInt_lt, e0, e9, e]
  (repeat' split) <;> first | rfl | (exfalso; omega) | (apply Int32.toInt_inj.mp; omega)
/-- a draw -/
theorem cd_HG_dr {w : cd_WT} {S : cd_Sp} {I : cd_Mem} {h mm tc : Nat} {N : Nat → Int32} (hG : cd_HG w S I h N mm tc) : cd_HG w S (cd_set I h (upd (I h) 5 (cd_z (I h 5)))) h (cd_dr N) mm tc := by
  obtain ⟨hH, hhd, hV, hIV, hR⟩ := hG
  have e : I h 5 = N 0 := hR.at 0 (by omega) rfl rfl
  refine ⟨hH, hhd, hV.kq (kq_dr N), cd_IV_upd hIV (by omega), ?_⟩
  rw [e]
  exact cd_HR_upd hR hV.2.1 hhd 0 (by decide) rfl rfl _
theorem cd_HG_w {w : cd_WT} {S : cd_Sp} {I : cd_Mem} {h mm tc : Nat} {N : Nat → Int32} (hG : cd_HG w S I h N mm tc) (j : Nat) (hj : j < 76) (h1 : j ≠ 1) (h15 : j ≠ 15) {a k : Nat} (ha : a = cd_lx h j) (hk : k = cd_lk j) (v : Int32) (hIV : cd_IV (upd N j v) mm) : cd_HG w S (cd_set I a (upd (I a) k v)) h (upd N j v) mm tc :=
  ⟨hG.1, hG.2.1, cd_V_upd hG.2.2.1 hj h1 h15, hIV, cd_HR_upd hG.2.2.2.2 hG.2.2.1.2.1 hG.2.1 j hj ha hk v⟩
/-- an asking works -/
theorem cd_HG_le {w : cd_WT} {S : cd_Sp} {I : cd_Mem} {h mm tc : Nat} {N : Nat → Int32} (hG : cd_HG w S I h N mm tc) {i : Nat} (hi : i < mm) {kd : Nat} (hk : N (16 + 5 * i + 0) = nI kd) (hk5 : kd ≤ 5) : cd_HG w S (cd_set I (h + 6 + i) (upd (upd (I (h + 6 + i)) 4 (I (h + 6 + i) 4 + nI 1)) 2 (cd_mn (nI 99) (I (h + 6 + i) 2 + (cd_sv 1).getD kd 0)))) h (cd_le N i) mm tc := by
  have hmm := hG.2.2.1.2.1
  have hR := hG.2.2.2.2
  obtain ⟨hb, hb9, hbe⟩ := (hG.2.2.2.1.1 i hi).2.2.1
  have e4 := hR.ask hi 4 (by decide)
  have e2 := hR.ask hi 2 (by decide)
  have h1 := cd_HG_w hG (16 + 5 * i + 4) (by omega) (by omega) (by omega) (a := h + 6 + i) (k := 4) (cd_lx_a (by decide)).symm (cd_lk_a (by decide)).symm (N (16 + 5 * i + 4) + nI 1) (cd_IV_upd hG.2.2.2.1 (by omega))
  obtain ⟨z, hz, hze⟩ := cd_lea_n hk5
  have hv : cd_mn (nI 99) (I (h + 6 + i) 2 + (cd_sv 1).getD kd 0) = cd_wi (cd_le1 N i (16 + 5 * i + 2) + cd_lea (cd_le1 N i (16 + 5 * i + 0))) (nI 0) (nI 99) := by
    have q1 : cd_le1 N i (16 + 5 * i + 2) = nI hb := (if_neg (by omega)).trans hbe
    have q2 : cd_le1 N i (16 + 5 * i + 0) = nI kd := (if_neg (by omega)).trans hk
    rw [e2, (cd_lea_sv hk5).1, q1, q2, hbe, hze, nI_add, cd_mn_wi (by omega)]
  have h2 := cd_HG_w h1 (16 + 5 * i + 2) (by omega) (by omega) (by omega) (a := h + 6 + i) (k := 2) (cd_lx_a (by decide)).symm (cd_lk_a (by decide)).symm (cd_mn (nI 99) (I (h + 6 + i) 2 + (cd_sv 1).getD kd 0)) (cd_IV_hab h1.2.2.2.1 i (by rw [hv]; exact cd_wi_ex _ (by decide)))
  rw [cd_set_eq, cd_set_set, ← e4] at h2
  rw [hv, e4] at h2
  rw [hv, e4]
  exact h2
theorem cd_HG_fa {w : cd_WT} {S : cd_Sp} {I : cd_Mem} {h mm tc : Nat} {N : Nat → Int32} (hG : cd_HG w S I h N mm tc) {i : Nat} (hi : i < mm) {kd : Nat} (hk : N (16 + 5 * i + 0) = nI kd) (hk5 : kd ≤ 5) : cd_HG w S (cd_set I (h + 6 + i) (upd (I (h + 6 + i)) 2 (cd_mx (nI 0) (I (h + 6 + i) 2 - (cd_sv 2).getD kd 0)))) h (upd N (16 + 5 * i + 2) (cd_wi (N (16 + 5 * i + 2) - cd_fog (N (16 + 5 * i + 0))) (nI 0) (nI 99))) mm tc := by
  have hmm := hG.2.2.1.2.1
  obtain ⟨hb, hb9, hbe⟩ := (hG.2.2.2.1.1 i hi).2.2.1
  have e2 := hG.2.2.2.2.ask hi 2 (by decide)
  obtain ⟨z, hz, hze⟩ := cd_fog_n hk5
  have hv : cd_mx (nI 0) (I (h + 6 + i) 2 - (cd_sv 2).getD kd 0) = cd_wi (N (16 + 5 * i + 2) - cd_fog (N (16 + 5 * i + 0))) (nI 0) (nI 99) := by
    rw [e2, (cd_lea_sv hk5).2.1, hk, hbe, hze, cd_mx_wi hb9 (by omega)]
  rw [hv]
  exact cd_HG_w hG (16 + 5 * i + 2) (by omega) (by omega) (by omega) (cd_lx_a (by decide)).symm (cd_lk_a (by decide)).symm _ (cd_IV_hab hG.2.2.2.1 i (cd_wi_ex _ (by decide)))
theorem cd_mea_dr {N : Nat → Int32} (i : Nat) : cd_mea (cd_dr N) i = cd_me (N (16 + 5 * i + 0)) (N (16 + 5 * i + 3)) (N 7) (N 8) := by
  have e : ∀ j, 0 < j → cd_dr N j = N j := fun j hj => if_neg (by omega)
  unfold cd_mea cd_me
  rw [e _ (by omega), e _ (by omega), e 7 (by omega), e 8 (by omega)]
theorem cd_HG_go {w : cd_WT} {S : cd_Sp} {I : cd_Mem} {h mm tc : Nat} {N : Nat → Int32} (hG : cd_HG w S I h N mm tc) : (N 7 = 0 → cd_HG w S (cd_set (cd_set I (h + 1) (upd (I (h + 1)) 4 (nI 1))) (h + 2) (upd (I (h + 2)) 2 (I (h + 2) 2 + nI 1))) h (cd_go N) mm tc) ∧ (¬ N 7 = 0 → cd_HG w S (cd_set (cd_set I (h + 1) (upd (I (h + 1)) 4 (nI 0))) (h + 2) (upd (I (h + 2)) 3 (I (h + 2) 3 + nI 1))) h (cd_go N) mm tc) := by
  have h7 := hG.2.2.2.1.2.2.2.1
  have e2 : I (h + 2) 2 = N 12 := hG.2.2.2.2.at 12 (by omega) rfl rfl
  have e3 : I (h + 2) 3 = N 13 := hG.2.2.2.2.at 13 (by omega) rfl rfl
  refine ⟨fun q => ?_, fun q => ?_⟩
  · have a := cd_HG_w hG 7 (by decide) (by decide) (by decide) (a := h + 1) (k := 4) rfl rfl (nI 1) (cd_IV_bit hG.2.2.2.1 (by omega) (Or.inr rfl))
    have b := cd_HG_w a 12 (by decide) (by decide) (by decide) (a := h + 2) (k := 2) rfl rfl (N 12 + nI 1) (cd_IV_upd a.2.2.2.1 (by omega))
    rw [cd_set_ne _ _ (show h + 2 ≠ h + 1 by omega)] at b
    rw [e2]
    unfold cd_go
    rw [q, if_pos (by decide)]
    exact b
  · have q1 : N 7 = nI 1 := h7.resolve_left q
    have a := cd_HG_w hG 7 (by decide) (by decide) (by decide) (a := h + 1) (k := 4) rfl rfl (nI 0) (cd_IV_bit hG.2.2.2.1 (by omega) (Or.inl rfl))
    have b := cd_HG_w a 13 (by decide) (by decide) (by decide) (a := h + 2) (k := 3) rfl rfl (N 13 + nI 1) (cd_IV_upd a.2.2.2.1 (by omega))
    rw [cd_set_ne _ _ (show h + 2 ≠ h + 1 by omega)] at b
    rw [e3]
    unfold cd_go
    rw [q1, if_neg (by decide)]
    exact b
theorem cd_wr_in {w : cd_WT} {h a : Nat} (h1 : h ≤ a) (h2 : a < h + 18) : cd_wr w h a := Or.inl ⟨h1, h2⟩
theorem d_H_goesIfMeant_0 : cd_D_aload b_H_goesIfMeant 0 0 1 := Or.inr ⟨0, ⟨by decide +kernel, rfl⟩, rfl⟩
theorem d_H_goesIfMeant_1 : cd_D_aload b_H_goesIfMeant 1 1 2 := Or.inr ⟨1, ⟨by decide +kernel, rfl⟩, rfl⟩
theorem d_H_goesIfMeant_2 : cd_D_aload b_H_goesIfMeant 2 0 3 := Or.inr ⟨0, ⟨by decide +kernel, rfl⟩, rfl⟩
theorem d_H_goesIfMeant_3 : cd_D 3 b_H_goesIfMeant 3 (.invokevirtual 124) 6 := ⟨by decide +kernel, rfl⟩
theorem d_H_goesIfMeant_6 : cd_D 3 b_H_goesIfMeant 6 (.invokevirtual 101) 9 := ⟨by decide +kernel, rfl⟩
theorem d_H_goesIfMeant_9 : cd_D_if_ne b_H_goesIfMeant 9 14 12 := ⟨5, by decide +kernel, by decide, rfl⟩
theorem d_H_goesIfMeant_12 : cd_Dk b_H_goesIfMeant 12 (nI 0) 13 := Or.inl ⟨0, ⟨by decide +kernel, rfl⟩, by decide +kernel⟩
theorem d_H_goesIfMeant_13 : cd_D 1 b_H_goesIfMeant 13 .ireturn 14 := ⟨by decide +kernel, rfl⟩
theorem d_H_goesIfMeant_14 : cd_D_aload b_H_goesIfMeant 14 0 15 := Or.inr ⟨0, ⟨by decide +kernel, rfl⟩, rfl⟩
theorem d_H_goesIfMeant_15 : cd_D 3 b_H_goesIfMeant 15 (.getfield 9) 18 := ⟨by decide +kernel, rfl⟩
theorem d_H_goesIfMeant_18 : cd_Dk b_H_goesIfMeant 18 (nI 4) 19 := Or.inl ⟨4, ⟨by decide +kernel, rfl⟩, by decide +kernel⟩
theorem d_H_goesIfMeant_19 : cd_D 1 b_H_goesIfMeant 19 .iaload 20 := ⟨by decide +kernel, rfl⟩
theorem d_H_goesIfMeant_20 : cd_D_if_ne b_H_goesIfMeant 20 43 23 := ⟨23, by decide +kernel, by decide, rfl⟩
theorem d_H_goesIfMeant_23 : cd_D_aload b_H_goesIfMeant 23 0 24 := Or.inr ⟨0, ⟨by decide +kernel, rfl⟩, rfl⟩
theorem d_H_goesIfMeant_24 : cd_D 3 b_H_goesIfMeant 24 (.getfield 9) 27 := ⟨by decide +kernel, rfl⟩
theorem d_H_goesIfMeant_27 : cd_Dk b_H_goesIfMeant 27 (nI 4) 28 := Or.inl ⟨4, ⟨by decide +kernel, rfl⟩, by decide +kernel⟩
theorem d_H_goesIfMeant_28 : cd_Dk b_H_goesIfMeant 28 (nI 1) 29 := Or.inl ⟨1, ⟨by decide +kernel, rfl⟩, by decide +kernel⟩
theorem d_H_goesIfMeant_29 : cd_D 1 b_H_goesIfMeant 29 .iastore 30 := ⟨by decide +kernel, rfl⟩
theorem d_H_goesIfMeant_30 : cd_D_aload b_H_goesIfMeant 30 0 31 := Or.inr ⟨0, ⟨by decide +kernel, rfl⟩, rfl⟩
theorem d_H_goesIfMeant_31 : cd_D 3 b_H_goesIfMeant 31 (.getfield 15) 34 := ⟨by decide +kernel, rfl⟩
theorem d_H_goesIfMeant_34 : cd_Dk b_H_goesIfMeant 34 (nI 2) 35 := Or.inl ⟨2, ⟨by decide +kernel, rfl⟩, by decide +kernel⟩
theorem d_H_goesIfMeant_35 : cd_D 1 b_H_goesIfMeant 35 .dup2 36 := ⟨by decide +kernel, rfl⟩
theorem d_H_goesIfMeant_36 : cd_D 1 b_H_goesIfMeant 36 .iaload 37 := ⟨by decide +kernel, rfl⟩
theorem d_H_goesIfMeant_37 : cd_Dk b_H_goesIfMeant 37 (nI 1) 38 := Or.inl ⟨1, ⟨by decide +kernel, rfl⟩, by decide +kernel⟩
theorem d_H_goesIfMeant_38 : cd_D 1 b_H_goesIfMeant 38 .iadd 39 := ⟨by decide +kernel, rfl⟩
theorem d_H_goesIfMeant_39 : cd_D 1 b_H_goesIfMeant 39 .iastore 40 := ⟨by decide +kernel, rfl⟩
theorem d_H_goesIfMeant_40 : cd_D_goto b_H_goesIfMeant 40 60 := ⟨20, by decide +kernel, by decide⟩
theorem d_H_goesIfMeant_43 : cd_D_aload b_H_goesIfMeant 43 0 44 := Or.inr ⟨0, ⟨by decide +kernel, rfl⟩, rfl⟩
theorem d_H_goesIfMeant_44 : cd_D 3 b_H_goesIfMeant 44 (.getfield 9) 47 := ⟨by decide +kernel, rfl⟩
theorem d_H_goesIfMeant_47 : cd_Dk b_H_goesIfMeant 47 (nI 4) 48 := Or.inl ⟨4, ⟨by decide +kernel, rfl⟩, by decide +kernel⟩
theorem d_H_goesIfMeant_48 : cd_Dk b_H_goesIfMeant 48 (nI 0) 49 := Or.inl ⟨0, ⟨by decide +kernel, rfl⟩, by decide +kernel⟩
theorem d_H_goesIfMeant_49 : cd_D 1 b_H_goesIfMeant 49 .iastore 50 := ⟨by decide +kernel, rfl⟩
theorem d_H_goesIfMeant_50 : cd_D_aload b_H_goesIfMeant 50 0 51 := Or.inr ⟨0, ⟨by decide +kernel, rfl⟩, rfl⟩
theorem d_H_goesIfMeant_51 : cd_D 3 b_H_goesIfMeant 51 (.getfield 15) 54 := ⟨by decide +kernel, rfl⟩
theorem d_H_goesIfMeant_54 : cd_Dk b_H_goesIfMeant 54 (nI 3) 55 := Or.inl ⟨3, ⟨by decide +kernel, rfl⟩, by decide +kernel⟩
theorem d_H_goesIfMeant_55 : cd_D 1 b_H_goesIfMeant 55 .dup2 56 := ⟨by decide +kernel, rfl⟩
theorem d_H_goesIfMeant_56 : cd_D 1 b_H_goesIfMeant 56 .iaload 57 := ⟨by decide +kernel, rfl⟩
theorem d_H_goesIfMeant_57 : cd_Dk b_H_goesIfMeant 57 (nI 1) 58 := Or.inl ⟨1, ⟨by decide +kernel, rfl⟩, by decide +kernel⟩
theorem d_H_goesIfMeant_58 : cd_D 1 b_H_goesIfMeant 58 .iadd 59 := ⟨by decide +kernel, rfl⟩
theorem d_H_goesIfMeant_59 : cd_D 1 b_H_goesIfMeant 59 .iastore 60 := ⟨by decide +kernel, rfl⟩
theorem d_H_goesIfMeant_60 : cd_Dk b_H_goesIfMeant 60 (nI 1) 61 := Or.inl ⟨1, ⟨by decide +kernel, rfl⟩, by decide +kernel⟩
theorem d_H_goesIfMeant_61 : cd_D 1 b_H_goesIfMeant 61 .ireturn 62 := ⟨by decide +kernel, rfl⟩
theorem c_H_goesIfMeant {l : Launch} {w : cd_WT} {S : cd_Sp} {I : cd_Mem} {h mm tc : Nat} {N : Nat → Int32} (hG : cd_HG w S I h N mm tc) {i : Nat} (hi : i < mm) : cd_C l w m_H_goesIfMeant 2 0 0 [.ref h, .ref (h + 6 + i)] S I (cd_Pi S (fun x I' => x = (cd_gm N i).1 ∧ cd_HG w S I' h (cd_gm N i).2 mm tc ∧ cd_ofh w h I I')) := by
  refine cd_intro (by decide) (by simp [Value.category]) (Nat.le_of_ble_eq_true rfl) ?_
  intro X hO hE
  show cd_J w X 0 0 S I 0 [some (.ref h), some (.ref (h + 6 + i))] []
  obtain ⟨hH, hhd, hV, hIV, hR⟩ := id hG
  have hmm := hV.2.1
  have e7 : I (h + 1) 4 = N 7 := hR.at 7 (by omega) rfl rfl
  have e8 : I (h + 1) 5 = N 8 := hR.at 8 (by omega) rfl rfl
  have e0 : I h 5 = N 0 := hR.at 0 (by omega) rfl rfl
  have hcond : (¬ ¬ cd_me (I (h + 6 + i) 0) (I (h + 6 + i) 3) (I (h + 1) 4) (I (h + 1) 5) ≤ cd_rem (cd_ush (cd_z (I h 5)) (nI 8)) (nI 100)) ↔ cd_mea (cd_dr N) i ≤ cd_rem (cd_dv N) (nI 100) := by
    rw [Decidable.not_not, cd_mea_dr, hR.ask hi 0 (by decide), hR.ask hi 3 (by decide), e7, e8, e0]
    exact Iff.rfl
  refine r_aload hO d_H_goesIfMeant_0 rfl ?_
  refine r_aload hO d_H_goesIfMeant_1 rfl ?_
  refine r_aload hO d_H_goesIfMeant_2 rfl ?_
  refine r_cV1fi hO hE (c_A_meansIt (hH.2.2.2.2.2.2.2 _ (by omega)).2 (Nat.le_trans hH.1 (by omega)) hH (by rw [e7]; exact hIV.2.2.2.1)) mf_A_meansIt lk_H_124 (hH.2.2.2.2.2.2.2 _ (by omega)).2 rfl (by decide) rfl (Nat.le_of_ble_eq_true rfl) d_H_goesIfMeant_3 (Nat.zero_le _) (Nat.zero_le _) ?_
  try simp (disch := omega) only [cd_set_eq, cd_set_ne, cd_set_set]
  refine r_cV1fi hO hE (c_H_drawsBelow hH _) mf_H_drawsBelow lk_H_101 hH.2.1 rfl (by decide) rfl (Nat.le_of_ble_eq_true rfl) d_H_goesIfMeant_6 (Nat.zero_le _) (Nat.zero_le _) ?_
  try simp (disch := omega) only [cd_set_eq, cd_set_ne, cd_set_set]
  refine r_if_neB hO d_H_goesIfMeant_9 (fun c_9 => ?_) (fun c_9 => ?_)
  · refine r_aload hO d_H_goesIfMeant_14 rfl ?_
    refine r_getR hO f_H_9 rfl hH.2.1 hH.2.2.1.1 d_H_goesIfMeant_15 ?_
    try simp (disch := omega) only [cd_set_eq, cd_set_ne, cd_set_set]
    refine r_k hO d_H_goesIfMeant_18 ?_
    refine r_iald hO hH.2.2.1.2 (by omega) (by decide) d_H_goesIfMeant_19 ?_
    try simp (disch := omega) only [cd_set_eq, cd_set_ne, cd_set_set]
    refine r_if_ne hO d_H_goesIfMeant_20 (fun c_20 => ?_) (fun c_20 => ?_)
    · refine r_aload hO d_H_goesIfMeant_43 rfl ?_
      refine r_getR hO f_H_9 rfl hH.2.1 hH.2.2.1.1 d_H_goesIfMeant_44 ?_
      try simp (disch := omega) only [cd_set_eq, cd_set_ne, cd_set_set]
      refine r_k hO d_H_goesIfMeant_47 ?_
      refine r_k hO d_H_goesIfMeant_48 ?_
      refine r_iast hO hH.2.2.1.2 (Nat.le_trans hH.1 (Nat.le_add_right _ _)) (by omega) (by decide) d_H_goesIfMeant_49 ?_
      try simp (disch := omega) only [cd_set_eq, cd_set_ne, cd_set_set]
      refine r_aload hO d_H_goesIfMeant_50 rfl ?_
      refine r_getR hO f_H_15 rfl hH.2.1 hH.2.2.2.1.1 d_H_goesIfMeant_51 ?_
      try simp (disch := omega) only [cd_set_eq, cd_set_ne, cd_set_set]
      refine r_k hO d_H_goesIfMeant_54 ?_
      refine r_dup2 hO d_H_goesIfMeant_55 rfl rfl ?_
      refine r_iald hO hH.2.2.2.1.2 (by omega) (by decide) d_H_goesIfMeant_56 ?_
      try simp (disch := omega) only [cd_set_eq, cd_set_ne, cd_set_set]
      refine r_k hO d_H_goesIfMeant_57 ?_
      refine r_iadd hO d_H_goesIfMeant_58 ?_
      refine r_iast hO hH.2.2.2.1.2 (Nat.le_trans hH.1 (Nat.le_add_right _ _)) (by omega) (by decide) d_H_goesIfMeant_59 ?_
      try simp (disch := omega) only [cd_set_eq, cd_set_ne, cd_set_set]
      refine r_k hO d_H_goesIfMeant_60 ?_
      refine r_zret hO hE (by first | exact Or.inl rfl | exact Or.inr rfl) (Nat.zero_le _) (Nat.zero_le _) d_H_goesIfMeant_61 ?_
      exact ⟨_, rfl, rfl, by unfold cd_gm; rw [if_neg (fun q => hcond.mpr q c_9)], by unfold cd_gm; rw [if_neg (fun q => hcond.mpr q c_9)]; have hgo := (cd_HG_go (cd_HG_dr hG)).2 (by rw [show cd_dr N 7 = N 7 from rfl, ← e7]; exact c_20); simp (disch := omega) only [cd_set_ne] at hgo; exact hgo, (cd_ofh.set _ _ (cd_wr_in (by omega) (by omega))).tr ((cd_ofh.set _ _ (cd_wr_in (by omega) (by omega))).tr (cd_ofh.set _ _ (cd_wr_in (by omega) (by omega))))⟩
    · refine r_aload hO d_H_goesIfMeant_23 rfl ?_
      refine r_getR hO f_H_9 rfl hH.2.1 hH.2.2.1.1 d_H_goesIfMeant_24 ?_
      try simp (disch := omega) only [cd_set_eq, cd_set_ne, cd_set_set]
      refine r_k hO d_H_goesIfMeant_27 ?_
      refine r_k hO d_H_goesIfMeant_28 ?_
      refine r_iast hO hH.2.2.1.2 (Nat.le_trans hH.1 (Nat.le_add_right _ _)) (by omega) (by decide) d_H_goesIfMeant_29 ?_
      try simp (disch := omega) only [cd_set_eq, cd_set_ne, cd_set_set]
      refine r_aload hO d_H_goesIfMeant_30 rfl ?_
      refine r_getR hO f_H_15 rfl hH.2.1 hH.2.2.2.1.1 d_H_goesIfMeant_31 ?_
      try simp (disch := omega) only [cd_set_eq, cd_set_ne, cd_set_set]
      refine r_k hO d_H_goesIfMeant_34 ?_
      refine r_dup2 hO d_H_goesIfMeant_35 rfl rfl ?_
      refine r_iald hO hH.2.2.2.1.2 (by omega) (by decide) d_H_goesIfMeant_36 ?_
      try simp (disch := omega) only [cd_set_eq, cd_set_ne, cd_set_set]
      refine r_k hO d_H_goesIfMeant_37 ?_
      refine r_iadd hO d_H_goesIfMeant_38 ?_
      refine r_iast hO hH.2.2.2.1.2 (Nat.le_trans hH.1 (Nat.le_add_right _ _)) (by omega) (by decide) d_H_goesIfMeant_39 ?_
      try simp (disch := omega) only [cd_set_eq, cd_set_ne, cd_set_set]
      refine r_goto hO d_H_goesIfMeant_40 ?_
      refine r_k hO d_H_goesIfMeant_60 ?_
      refine r_zret hO hE (by first | exact Or.inl rfl | exact Or.inr rfl) (Nat.zero_le _) (Nat.zero_le _) d_H_goesIfMeant_61 ?_
      exact ⟨_, rfl, rfl, by unfold cd_gm; rw [if_neg (fun q => hcond.mpr q c_9)], by unfold cd_gm; rw [if_neg (fun q => hcond.mpr q c_9)]; have hgo := (cd_HG_go (cd_HG_dr hG)).1 (by rw [show cd_dr N 7 = N 7 from rfl, ← e7]; exact c_20); simp (disch := omega) only [cd_set_ne] at hgo; exact hgo, (cd_ofh.set _ _ (cd_wr_in (by omega) (by omega))).tr ((cd_ofh.set _ _ (cd_wr_in (by omega) (by omega))).tr (cd_ofh.set _ _ (cd_wr_in (by omega) (by omega))))⟩
  · refine r_k hO d_H_goesIfMeant_12 ?_
    refine r_zret hO hE (by first | exact Or.inl rfl | exact Or.inr rfl) (Nat.zero_le _) (Nat.zero_le _) d_H_goesIfMeant_13 ?_
    exact ⟨_, rfl, rfl, by unfold cd_gm; rw [if_pos (hcond.mp c_9)], by unfold cd_gm; rw [if_pos (hcond.mp c_9)]; exact cd_HG_dr hG, cd_ofh.set _ _ (cd_wr_in (by omega) (by omega))⟩
