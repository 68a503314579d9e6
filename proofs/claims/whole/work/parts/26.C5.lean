theorem d_H_getsUp_0 : cd_D_aload b_H_getsUp 0 0 1 := Or.inr ⟨0, ⟨by decide +kernel, rfl⟩, rfl⟩
theorem d_H_getsUp_1 : cd_D 3 b_H_getsUp 1 (.getfield 15) 4 := ⟨by decide +kernel, rfl⟩
theorem d_H_getsUp_4 : cd_Dk b_H_getsUp 4 (nI 0) 5 := Or.inl ⟨0, ⟨by decide +kernel, rfl⟩, by decide +kernel⟩
theorem d_H_getsUp_5 : cd_D 1 b_H_getsUp 5 .dup2 6 := ⟨by decide +kernel, rfl⟩
theorem d_H_getsUp_6 : cd_D 1 b_H_getsUp 6 .iaload 7 := ⟨by decide +kernel, rfl⟩
theorem d_H_getsUp_7 : cd_Dk b_H_getsUp 7 (nI 1) 8 := Or.inl ⟨1, ⟨by decide +kernel, rfl⟩, by decide +kernel⟩
theorem d_H_getsUp_8 : cd_D 1 b_H_getsUp 8 .iadd 9 := ⟨by decide +kernel, rfl⟩
theorem d_H_getsUp_9 : cd_D 1 b_H_getsUp 9 .iastore 10 := ⟨by decide +kernel, rfl⟩
theorem d_H_getsUp_10 : cd_D_aload b_H_getsUp 10 1 11 := Or.inr ⟨1, ⟨by decide +kernel, rfl⟩, rfl⟩
theorem d_H_getsUp_11 : cd_D 3 b_H_getsUp 11 (.invokevirtual 121) 14 := ⟨by decide +kernel, rfl⟩
theorem d_H_getsUp_14 : cd_D_aload b_H_getsUp 14 0 15 := Or.inr ⟨0, ⟨by decide +kernel, rfl⟩, rfl⟩
theorem d_H_getsUp_15 : cd_D_aload b_H_getsUp 15 1 16 := Or.inr ⟨1, ⟨by decide +kernel, rfl⟩, rfl⟩
theorem d_H_getsUp_16 : cd_D 3 b_H_getsUp 16 (.invokevirtual 105) 19 := ⟨by decide +kernel, rfl⟩
theorem d_H_getsUp_19 : cd_D 1 b_H_getsUp 19 .ireturn 20 := ⟨by decide +kernel, rfl⟩
theorem c_H_getsUp {l : Launch} {w : cd_WT} {S : cd_Sp} {I : cd_Mem} {h mm tc : Nat} {N : Nat → Int32} (hG : cd_HG w S I h N mm tc) {i : Nat} (hi : i < mm) : cd_C l w m_H_getsUp 3 0 0 [.ref h, .ref (h + 6 + i)] S I (cd_Pi S (fun x I' => x = (cd_ri N i).1 ∧ cd_HG w S I' h (cd_ri N i).2 mm tc ∧ cd_ofh w h I I')) := by
  refine cd_intro (by decide) (by simp [Value.category]) (Nat.le_of_ble_eq_true rfl) ?_
  intro X hO hE
  show cd_J w X 0 0 S I 0 [some (.ref h), some (.ref (h + 6 + i))] []
  obtain ⟨hH, hhd, hV, hIV, hR⟩ := id hG
  have hmm := hV.2.1
  obtain ⟨kd, hk5, hkd⟩ := (hIV.1 i hi).1
  have ek : I (h + 6 + i) 0 = nI kd := (hR.ask hi 0 (by decide)).trans hkd
  have e10 : I (h + 2) 0 = N 10 := hR.at 10 (by omega) rfl rfl
  have hG1 := cd_HG_w hG 10 (by decide) (by decide) (by decide) (a := h + 2) (k := 0) rfl rfl (N 10 + nI 1) (cd_IV_upd hIV (by omega))
  have hG2 := cd_HG_le hG1 hi (kd := kd) ((if_neg (by omega)).trans hkd) hk5
  refine r_aload hO d_H_getsUp_0 rfl ?_
  refine r_getR hO f_H_15 rfl hH.2.1 hH.2.2.2.1.1 d_H_getsUp_1 ?_
  refine r_k hO d_H_getsUp_4 ?_
  refine r_dup2 hO d_H_getsUp_5 rfl rfl ?_
  refine r_iald hO hH.2.2.2.1.2 (by omega) (by decide) d_H_getsUp_6 ?_
  rw [e10]
  refine r_k hO d_H_getsUp_7 ?_
  refine r_iadd hO d_H_getsUp_8 ?_
  refine r_iast hO hH.2.2.2.1.2 (Nat.le_trans hH.1 (Nat.le_add_right _ _)) (by omega) (by decide) d_H_getsUp_9 ?_
  refine r_aload hO d_H_getsUp_10 rfl ?_
  refine r_cV0fv hO hE (c_A_works (hH.2.2.2.2.2.2.2 _ (by omega)).2 (Nat.le_trans hH.1 (by omega)) kd (by rw [cd_set_ne _ _ (by omega)]; exact ek) hk5) mf_A_works lk_H_121 (hH.2.2.2.2.2.2.2 _ (by omega)).2 rfl (by decide) rfl (Nat.le_of_ble_eq_true rfl) d_H_getsUp_11 (Nat.zero_le _) (Nat.zero_le _) ?_
  refine r_aload hO d_H_getsUp_14 rfl ?_
  refine r_aload hO d_H_getsUp_15 rfl ?_
  refine r_cV1i hO hE (c_H_goesIfMeant hG2 hi) mf_H_goesIfMeant lk_H_105 hH.2.1 rfl (by decide) rfl (Nat.le_of_ble_eq_true rfl) d_H_getsUp_16 (Nat.zero_le _) (Nat.zero_le _) ?_
  rintro x I3 ⟨hx, hG3, ho3⟩
  refine r_zret hO hE (by rw [hx]; unfold cd_gm; split; exact Or.inl rfl; exact Or.inr rfl) (Nat.zero_le _) (Nat.zero_le _) d_H_getsUp_19 ?_
  exact ⟨_, rfl, rfl, hx, hG3, (cd_ofh.set _ _ (cd_wr_in (by omega) (by omega))).tr ((cd_ofh.set _ _ (cd_wr_in (by omega) (by omega))).tr ho3)⟩
def cd_an (N : Nat → Int32) (i : Nat) : Int32 × (Nat → Int32) := if N (16 + 5 * i + 1) = cd_rem (N 2) (nI 24) then (if N (16 + 5 * i + 2) ≤ cd_rem (cd_dv N) (nI 100) then (nI 0, cd_dr N) else (nI 1, cd_dr N)) else (nI 0, N)
theorem d_H_asksNow_0 : cd_D_aload b_H_asksNow 0 1 1 := Or.inr ⟨1, ⟨by decide +kernel, rfl⟩, rfl⟩
theorem d_H_asksNow_1 : cd_D 3 b_H_asksNow 1 (.getfield 61) 4 := ⟨by decide +kernel, rfl⟩
theorem d_H_asksNow_4 : cd_D_aload b_H_asksNow 4 0 5 := Or.inr ⟨0, ⟨by decide +kernel, rfl⟩, rfl⟩
theorem d_H_asksNow_5 : cd_D 3 b_H_asksNow 5 (.getfield 28) 8 := ⟨by decide +kernel, rfl⟩
theorem d_H_asksNow_8 : cd_Dk b_H_asksNow 8 (nI 24) 10 := Or.inr (Or.inl ⟨24, ⟨by decide +kernel, rfl⟩, by decide +kernel⟩)
theorem d_H_asksNow_10 : cd_D 1 b_H_asksNow 10 .irem 11 := ⟨by decide +kernel, rfl⟩
theorem d_H_asksNow_11 : cd_D_icmp_ne b_H_asksNow 11 29 14 := ⟨18, by decide +kernel, by decide, rfl⟩
theorem d_H_asksNow_14 : cd_D_aload b_H_asksNow 14 0 15 := Or.inr ⟨0, ⟨by decide +kernel, rfl⟩, rfl⟩
theorem d_H_asksNow_15 : cd_D_aload b_H_asksNow 15 1 16 := Or.inr ⟨1, ⟨by decide +kernel, rfl⟩, rfl⟩
theorem d_H_asksNow_16 : cd_D 3 b_H_asksNow 16 (.getfield 62) 19 := ⟨by decide +kernel, rfl⟩
theorem d_H_asksNow_19 : cd_D 3 b_H_asksNow 19 (.invokevirtual 101) 22 := ⟨by decide +kernel, rfl⟩
theorem d_H_asksNow_22 : cd_D_if_eq b_H_asksNow 22 29 25 := ⟨7, by decide +kernel, by decide, rfl⟩
theorem d_H_asksNow_25 : cd_Dk b_H_asksNow 25 (nI 1) 26 := Or.inl ⟨1, ⟨by decide +kernel, rfl⟩, by decide +kernel⟩
theorem d_H_asksNow_26 : cd_D_goto b_H_asksNow 26 30 := ⟨4, by decide +kernel, by decide⟩
theorem d_H_asksNow_29 : cd_Dk b_H_asksNow 29 (nI 0) 30 := Or.inl ⟨0, ⟨by decide +kernel, rfl⟩, by decide +kernel⟩
theorem d_H_asksNow_30 : cd_D 1 b_H_asksNow 30 .ireturn 31 := ⟨by decide +kernel, rfl⟩
theorem c_H_asksNow {l : Launch} {w : cd_WT} {S : cd_Sp} {I : cd_Mem} {h mm tc : Nat} {N : Nat → Int32} (hG : cd_HG w S I h N mm tc) {i : Nat} (hi : i < mm) : cd_C l w m_H_asksNow 2 0 0 [.ref h, .ref (h + 6 + i)] S I (cd_Pi S (fun x I' => x = (cd_an N i).1 ∧ cd_HG w S I' h (cd_an N i).2 mm tc ∧ cd_ofh w h I I')) := by
  refine cd_intro (by decide) (by simp [Value.category]) (Nat.le_of_ble_eq_true rfl) ?_
  intro X hO hE
  show cd_J w X 0 0 S I 0 [some (.ref h), some (.ref (h + 6 + i))] []
  obtain ⟨hH, hhd, hV, hIV, hR⟩ := id hG
  have hmm := hV.2.1
  have e2 : I h 4 = N 2 := hR.at 2 (by omega) rfl rfl
  have e0 : I h 5 = N 0 := hR.at 0 (by omega) rfl rfl
  have a1 := hR.ask hi 1 (by decide)
  have a2 := hR.ask hi 2 (by decide)
  refine r_aload hO d_H_asksNow_0 rfl ?_
  refine r_getI hO f_H_61 rfl (hH.2.2.2.2.2.2.2 _ (by omega)).2 d_H_asksNow_1 ?_
  rw [a1]
  refine r_aload hO d_H_asksNow_4 rfl ?_
  refine r_getI hO f_H_28 rfl hH.2.1 d_H_asksNow_5 ?_
  rw [e2]
  refine r_k hO d_H_asksNow_8 ?_
  refine r_irem hO d_H_asksNow_10 (by decide) ?_
  refine r_icmp_ne hO d_H_asksNow_11 (fun c_11 => ?_) (fun c_11 => ?_)
  · refine r_k hO d_H_asksNow_29 ?_
    refine r_zret hO hE (by first | exact Or.inl rfl | exact Or.inr rfl) (Nat.zero_le _) (Nat.zero_le _) d_H_asksNow_30 ?_
    exact ⟨_, rfl, rfl, by unfold cd_an; rw [if_neg c_11], by unfold cd_an; rw [if_neg c_11]; exact hG, cd_ofh.rf _ _ _⟩
  · refine r_aload hO d_H_asksNow_14 rfl ?_
    refine r_aload hO d_H_asksNow_15 rfl ?_
    refine r_getI hO f_H_62 rfl (hH.2.2.2.2.2.2.2 _ (by omega)).2 d_H_asksNow_16 ?_
    rw [a2]
    refine r_cV1fi hO hE (c_H_drawsBelow hH _) mf_H_drawsBelow lk_H_101 hH.2.1 rfl (by decide) rfl (Nat.le_of_ble_eq_true rfl) d_H_asksNow_19 (Nat.zero_le _) (Nat.zero_le _) ?_
    refine r_if_eqB hO d_H_asksNow_22 (fun c_22 => ?_) (fun c_22 => ?_)
    · refine r_k hO d_H_asksNow_29 ?_
      refine r_zret hO hE (by first | exact Or.inl rfl | exact Or.inr rfl) (Nat.zero_le _) (Nat.zero_le _) d_H_asksNow_30 ?_
      have c_22 : ¬ ¬ N (16 + 5 * i + 2) ≤ cd_rem (cd_dv N) (nI 100) := by unfold cd_dv; rw [← e0]; exact c_22
      exact ⟨_, rfl, rfl, by unfold cd_an; rw [if_pos c_11, if_pos (Decidable.not_not.mp c_22)], by unfold cd_an; rw [if_pos c_11, if_pos (Decidable.not_not.mp c_22)]; exact cd_HG_dr hG, cd_ofh.set _ _ (cd_wr_in (by omega) (by omega))⟩
    · refine r_k hO d_H_asksNow_25 ?_
      refine r_goto hO d_H_asksNow_26 ?_
      refine r_zret hO hE (by first | exact Or.inl rfl | exact Or.inr rfl) (Nat.zero_le _) (Nat.zero_le _) d_H_asksNow_30 ?_
      have c_22 : ¬ N (16 + 5 * i + 2) ≤ cd_rem (cd_dv N) (nI 100) := by unfold cd_dv; rw [← e0]; exact c_22
      exact ⟨_, rfl, rfl, by unfold cd_an; rw [if_pos c_11, if_neg c_22], by unfold cd_an; rw [if_pos c_11, if_neg c_22]; exact cd_HG_dr hG, cd_ofh.set _ _ (cd_wr_in (by omega) (by omega))⟩
theorem cd_HG_wet {w : cd_WT} {S : cd_Sp} {I : cd_Mem} {h mm tc : Nat} {N : Nat → Int32} (hG : cd_HG w S I h N mm tc) : cd_HG w S (cd_set (cd_set I h (upd (I h) 5 (cd_z (I h 5)))) (h + 1) (upd (I (h + 1)) 5 (if I (h + 1) 1 ≤ cd_rem (cd_ush (cd_z (I h 5)) (nI 8)) (nI 100) then nI 0 else nI 1))) h (cd_w1 N) mm tc := by
  have e0 : I h 5 = N 0 := hG.2.2.2.2.at 0 (by omega) rfl rfl
  have e4 : I (h + 1) 1 = N 4 := hG.2.2.2.2.at 4 (by omega) rfl rfl
  have a := cd_HG_dr hG
  have b := cd_HG_w a 8 (by decide) (by decide) (by decide) (a := h + 1) (k := 5) rfl rfl (if N 4 ≤ cd_rem (cd_dv N) (nI 100) then nI 0 else nI 1) (cd_IV_bit a.2.2.2.1 (by omega) (by split; exact Or.inl rfl; exact Or.inr rfl))
  rw [cd_set_ne _ _ (show h + 1 ≠ h by omega)] at b
  rw [e4, e0]
  rw [e0] at b
  exact b
theorem cd_HG_thr {w : cd_WT} {S : cd_Sp} {I : cd_Mem} {h mm tc : Nat} {N : Nat → Int32} (hG : cd_HG w S I h N mm tc) : cd_HG w S (cd_set (cd_set I h (upd (I h) 5 (cd_z (I h 5)))) (h + 1) (upd (I (h + 1)) 6 (if I (h + 1) 2 ≤ cd_rem (cd_ush (cd_z (I h 5)) (nI 8)) (nI 100) then nI 0 else nI 1))) h (cd_w2 N) mm tc := by
  have e0 : I h 5 = N 0 := hG.2.2.2.2.at 0 (by omega) rfl rfl
  have e4 : I (h + 1) 2 = N 5 := hG.2.2.2.2.at 5 (by omega) rfl rfl
  have a := cd_HG_dr hG
  have b := cd_HG_w a 9 (by decide) (by decide) (by decide) (a := h + 1) (k := 6) rfl rfl (if N 5 ≤ cd_rem (cd_dv N) (nI 100) then nI 0 else nI 1) (cd_IV_bit a.2.2.2.1 (by omega) (by split; exact Or.inl rfl; exact Or.inr rfl))
  rw [cd_set_ne _ _ (show h + 1 ≠ h by omega)] at b
  rw [e4, e0]
  rw [e0] at b
  exact b
theorem d_H_drawsWeather_0 : cd_D_aload b_H_drawsWeather 0 0 1 := Or.inr ⟨0, ⟨by decide +kernel, rfl⟩, rfl⟩
theorem d_H_drawsWeather_1 : cd_D 3 b_H_drawsWeather 1 (.getfield 9) 4 := ⟨by decide +kernel, rfl⟩
theorem d_H_drawsWeather_4 : cd_Dk b_H_drawsWeather 4 (nI 5) 5 := Or.inl ⟨5, ⟨by decide +kernel, rfl⟩, by decide +kernel⟩
theorem d_H_drawsWeather_5 : cd_D_aload b_H_drawsWeather 5 0 6 := Or.inr ⟨0, ⟨by decide +kernel, rfl⟩, rfl⟩
theorem d_H_drawsWeather_6 : cd_D_aload b_H_drawsWeather 6 0 7 := Or.inr ⟨0, ⟨by decide +kernel, rfl⟩, rfl⟩
theorem d_H_drawsWeather_7 : cd_D 3 b_H_drawsWeather 7 (.getfield 9) 10 := ⟨by decide +kernel, rfl⟩
theorem d_H_drawsWeather_10 : cd_Dk b_H_drawsWeather 10 (nI 1) 11 := Or.inl ⟨1, ⟨by decide +kernel, rfl⟩, by decide +kernel⟩
theorem d_H_drawsWeather_11 : cd_D 1 b_H_drawsWeather 11 .iaload 12 := ⟨by decide +kernel, rfl⟩
theorem d_H_drawsWeather_12 : cd_D 3 b_H_drawsWeather 12 (.invokevirtual 101) 15 := ⟨by decide +kernel, rfl⟩
theorem d_H_drawsWeather_15 : cd_D_if_eq b_H_drawsWeather 15 22 18 := ⟨7, by decide +kernel, by decide, rfl⟩
theorem d_H_drawsWeather_18 : cd_Dk b_H_drawsWeather 18 (nI 1) 19 := Or.inl ⟨1, ⟨by decide +kernel, rfl⟩, by decide +kernel⟩
theorem d_H_drawsWeather_19 : cd_D_goto b_H_drawsWeather 19 23 := ⟨4, by decide +kernel, by decide⟩
theorem d_H_drawsWeather_22 : cd_Dk b_H_drawsWeather 22 (nI 0) 23 := Or.inl ⟨0, ⟨by decide +kernel, rfl⟩, by decide +kernel⟩
theorem d_H_drawsWeather_23 : cd_D 1 b_H_drawsWeather 23 .iastore 24 := ⟨by decide +kernel, rfl⟩
theorem d_H_drawsWeather_24 : cd_D_aload b_H_drawsWeather 24 0 25 := Or.inr ⟨0, ⟨by decide +kernel, rfl⟩, rfl⟩
theorem d_H_drawsWeather_25 : cd_D 3 b_H_drawsWeather 25 (.getfield 9) 28 := ⟨by decide +kernel, rfl⟩
theorem d_H_drawsWeather_28 : cd_Dk b_H_drawsWeather 28 (nI 6) 30 := Or.inr (Or.inl ⟨6, ⟨by decide +kernel, rfl⟩, by decide +kernel⟩)
theorem d_H_drawsWeather_30 : cd_D_aload b_H_drawsWeather 30 0 31 := Or.inr ⟨0, ⟨by decide +kernel, rfl⟩, rfl⟩
theorem d_H_drawsWeather_31 : cd_D_aload b_H_drawsWeather 31 0 32 := Or.inr ⟨0, ⟨by decide +kernel, rfl⟩, rfl⟩
theorem d_H_drawsWeather_32 : cd_D 3 b_H_drawsWeather 32 (.getfield 9) 35 := ⟨by decide +kernel, rfl⟩
theorem d_H_drawsWeather_35 : cd_Dk b_H_drawsWeather 35 (nI 2) 36 := Or.inl ⟨2, ⟨by decide +kernel, rfl⟩, by decide +kernel⟩
theorem d_H_drawsWeather_36 : cd_D 1 b_H_drawsWeather 36 .iaload 37 := ⟨by decide +kernel, rfl⟩
theorem d_H_drawsWeather_37 : cd_D 3 b_H_drawsWeather 37 (.invokevirtual 101) 40 := ⟨by decide +kernel, rfl⟩
theorem d_H_drawsWeather_40 : cd_D_if_eq b_H_drawsWeather 40 47 43 := ⟨7, by decide +kernel, by decide, rfl⟩
theorem d_H_drawsWeather_43 : cd_Dk b_H_drawsWeather 43 (nI 1) 44 := Or.inl ⟨1, ⟨by decide +kernel, rfl⟩, by decide +kernel⟩
theorem d_H_drawsWeather_44 : cd_D_goto b_H_drawsWeather 44 48 := ⟨4, by decide +kernel, by decide⟩
theorem d_H_drawsWeather_47 : cd_Dk b_H_drawsWeather 47 (nI 0) 48 := Or.inl ⟨0, ⟨by decide +kernel, rfl⟩, by decide +kernel⟩
theorem d_H_drawsWeather_48 : cd_D 1 b_H_drawsWeather 48 .iastore 49 := ⟨by decide +kernel, rfl⟩
theorem d_H_drawsWeather_49 : cd_D 1 b_H_drawsWeather 49 .return_ 50 := ⟨by decide +kernel, rfl⟩
theorem c_H_drawsWeather {l : Launch} {w : cd_WT} {S : cd_Sp} {I : cd_Mem} {h mm tc : Nat} {N : Nat → Int32} (hG : cd_HG w S I h N mm tc)  : cd_C l w m_H_drawsWeather 2 0 0 [.ref h] S I (cd_Pv S (fun I' => cd_HG w S I' h (cd_w2 (cd_w1 N)) mm tc ∧ cd_ofh w h I I')) := by
  refine cd_intro (by decide) (by simp [Value.category]) (Nat.le_of_ble_eq_true rfl) ?_
  intro X hO hE
  show cd_J w X 0 0 S I 0 [some (.ref h)] []
  obtain ⟨hH, hhd, hV, hIV, hR⟩ := id hG
  have hmm := hV.2.1
  refine r_aload hO d_H_drawsWeather_0 rfl ?_
  refine r_getR hO f_H_9 rfl hH.2.1 hH.2.2.1.1 d_H_drawsWeather_1 ?_
  refine r_k hO d_H_drawsWeather_4 ?_
  refine r_aload hO d_H_drawsWeather_5 rfl ?_
  refine r_aload hO d_H_drawsWeather_6 rfl ?_
  refine r_getR hO f_H_9 rfl hH.2.1 hH.2.2.1.1 d_H_drawsWeather_7 ?_
  refine r_k hO d_H_drawsWeather_10 ?_
  refine r_iald hO hH.2.2.1.2 (by omega) (by decide) d_H_drawsWeather_11 ?_
  refine r_cV1fi hO hE (c_H_drawsBelow hH _) mf_H_drawsBelow lk_H_101 hH.2.1 rfl (by decide) rfl (Nat.le_of_ble_eq_true rfl) d_H_drawsWeather_12 (Nat.zero_le _) (Nat.zero_le _) ?_
  refine r_jn1 (pcJ := 23) (fun v => v = if I (h + 1) 1 ≤ cd_rem (cd_ush (cd_z (I h 5)) (nI 8)) (nI 100) then nI 0 else nI 1) (fun v_15 hv_15 => ?_) (fun hj_15 => ?_)
  · subst hv_15
    refine r_iast hO hH.2.2.1.2 (Nat.le_trans hH.1 (Nat.le_add_right _ _)) (by omega) (by decide) d_H_drawsWeather_23 ?_
    simp (disch := omega) only [cd_set_eq, cd_set_ne, cd_set_set]
    have hG1 := cd_HG_wet hG
    have ho1 : cd_ofh w h I _ := (cd_ofh.set I (a := h) (upd (I h) 5 (cd_z (I h 5))) (cd_wr_in (by omega) (by omega))).tr (cd_ofh.set _ (upd (I (h + 1)) 5 (if I (h + 1) 1 ≤ cd_rem (cd_ush (cd_z (I h 5)) (nI 8)) (nI 100) then nI 0 else nI 1)) (a := h + 1) (cd_wr_in (by omega) (by omega)))
    refine r_gen (fun I1 hI1 => ?_)
    rw [← hI1] at hG1 ho1
    clear hI1
    refine r_aload hO d_H_drawsWeather_24 rfl ?_
    refine r_getR hO f_H_9 rfl hH.2.1 hH.2.2.1.1 d_H_drawsWeather_25 ?_
    refine r_k hO d_H_drawsWeather_28 ?_
    refine r_aload hO d_H_drawsWeather_30 rfl ?_
    refine r_aload hO d_H_drawsWeather_31 rfl ?_
    refine r_getR hO f_H_9 rfl hH.2.1 hH.2.2.1.1 d_H_drawsWeather_32 ?_
    refine r_k hO d_H_drawsWeather_35 ?_
    refine r_iald hO hH.2.2.1.2 (by omega) (by decide) d_H_drawsWeather_36 ?_
    refine r_cV1fi hO hE (c_H_drawsBelow hH _) mf_H_drawsBelow lk_H_101 hH.2.1 rfl (by decide) rfl (Nat.le_of_ble_eq_true rfl) d_H_drawsWeather_37 (Nat.zero_le _) (Nat.zero_le _) ?_
    refine r_jn1 (pcJ := 48) (fun v => v = if I1 (h + 1) 2 ≤ cd_rem (cd_ush (cd_z (I1 h 5)) (nI 8)) (nI 100) then nI 0 else nI 1) (fun v_40 hv_40 => ?_) (fun hj_40 => ?_)
    · subst hv_40
      refine r_iast hO hH.2.2.1.2 (Nat.le_trans hH.1 (Nat.le_add_right _ _)) (by omega) (by decide) d_H_drawsWeather_48 ?_
      simp (disch := omega) only [cd_set_eq, cd_set_ne, cd_set_set]
      refine r_vret hO hE (Nat.zero_le _) (Nat.zero_le _) d_H_drawsWeather_49 ?_
      exact ⟨rfl, rfl, cd_HG_thr hG1, ho1.tr ((cd_ofh.set _ _ (cd_wr_in (by omega) (by omega))).tr (cd_ofh.set _ _ (cd_wr_in (by omega) (by omega))))⟩
    · refine r_if_eqB hO d_H_drawsWeather_40 (fun c_40 => ?_) (fun c_40 => ?_)
      · refine r_k hO d_H_drawsWeather_47 ?_
        exact hj_40 _ (by rw [if_pos (Decidable.not_not.mp c_40)])
      · refine r_k hO d_H_drawsWeather_43 ?_
        refine r_goto hO d_H_drawsWeather_44 ?_
        exact hj_40 _ (by rw [if_neg c_40])
  · refine r_if_eqB hO d_H_drawsWeather_15 (fun c_15 => ?_) (fun c_15 => ?_)
    · refine r_k hO d_H_drawsWeather_22 ?_
      exact hj_15 _ (by rw [if_pos (Decidable.not_not.mp c_15)])
    · refine r_k hO d_H_drawsWeather_18 ?_
      refine r_goto hO d_H_drawsWeather_19 ?_
      exact hj_15 _ (by rw [if_neg c_15])
theorem d_H_habitSum_0 : cd_Dk b_H_habitSum 0 (nI 0) 1 := Or.inl ⟨0, ⟨by decide +kernel, rfl⟩, by decide +kernel⟩
theorem d_H_habitSum_1 : cd_D_istore b_H_habitSum 1 1 2 := Or.inr ⟨1, ⟨by decide +kernel, rfl⟩, rfl⟩
theorem d_H_habitSum_2 : cd_Dk b_H_habitSum 2 (nI 0) 3 := Or.inl ⟨0, ⟨by decide +kernel, rfl⟩, by decide +kernel⟩
theorem d_H_habitSum_3 : cd_D_istore b_H_habitSum 3 2 4 := Or.inr ⟨2, ⟨by decide +kernel, rfl⟩, rfl⟩
theorem d_H_habitSum_4 : cd_D_iload b_H_habitSum 4 2 5 := Or.inr ⟨2, ⟨by decide +kernel, rfl⟩, rfl⟩
theorem d_H_habitSum_5 : cd_D_aload b_H_habitSum 5 0 6 := Or.inr ⟨0, ⟨by decide +kernel, rfl⟩, rfl⟩
theorem d_H_habitSum_6 : cd_D 3 b_H_habitSum 6 (.getfield 24) 9 := ⟨by decide +kernel, rfl⟩
theorem d_H_habitSum_9 : cd_D_icmp_ge b_H_habitSum 9 30 12 := ⟨21, by decide +kernel, by decide, rfl⟩
theorem d_H_habitSum_12 : cd_D_iload b_H_habitSum 12 1 13 := Or.inr ⟨1, ⟨by decide +kernel, rfl⟩, rfl⟩
theorem d_H_habitSum_13 : cd_D_aload b_H_habitSum 13 0 14 := Or.inr ⟨0, ⟨by decide +kernel, rfl⟩, rfl⟩
theorem d_H_habitSum_14 : cd_D 3 b_H_habitSum 14 (.getfield 20) 17 := ⟨by decide +kernel, rfl⟩
theorem d_H_habitSum_17 : cd_D_iload b_H_habitSum 17 2 18 := Or.inr ⟨2, ⟨by decide +kernel, rfl⟩, rfl⟩
theorem d_H_habitSum_18 : cd_D 1 b_H_habitSum 18 .aaload 19 := ⟨by decide +kernel, rfl⟩
theorem d_H_habitSum_19 : cd_D 3 b_H_habitSum 19 (.getfield 62) 22 := ⟨by decide +kernel, rfl⟩
theorem d_H_habitSum_22 : cd_D 1 b_H_habitSum 22 .iadd 23 := ⟨by decide +kernel, rfl⟩
theorem d_H_habitSum_23 : cd_D_istore b_H_habitSum 23 1 24 := Or.inr ⟨1, ⟨by decide +kernel, rfl⟩, rfl⟩
theorem d_H_habitSum_24 : cd_D 3 b_H_habitSum 24 (.iinc 2 (1)) 27 := ⟨by decide +kernel, rfl⟩
theorem d_H_habitSum_27 : cd_D_goto b_H_habitSum 27 4 := ⟨-23, by decide +kernel, by decide⟩
theorem d_H_habitSum_30 : cd_D_iload b_H_habitSum 30 1 31 := Or.inr ⟨1, ⟨by decide +kernel, rfl⟩, rfl⟩
theorem d_H_habitSum_31 : cd_D 1 b_H_habitSum 31 .ireturn 32 := ⟨by decide +kernel, rfl⟩
theorem c_H_habitSum {l : Launch} {w : cd_WT} {S : cd_Sp} {I : cd_Mem} {h mm tc : Nat} {N : Nat → Int32} (hG : cd_HG w S I h N mm tc)  : cd_C l w m_H_habitSum 0 0 0 [.ref h] S I (cd_Fi S (cd_hb N mm) I) := by
  refine cd_intro (by decide) (by simp [Value.category]) (Nat.le_of_ble_eq_true rfl) ?_
  intro X hO hE
  show cd_J w X 0 0 S I 0 [some (.ref h), none, none] []
  obtain ⟨hH, hhd, hV, hIV, hR⟩ := id hG
  have hmm := hV.2.1
  have hm1 : I h 3 = nI mm := (hR.at 1 (by omega) rfl rfl).trans hV.1
  have loop : ∀ (r i : Nat), i + r = mm → cd_J w X 0 0 S I 4 [some (.ref h), some (.int (cd_hb N i)), some (.int (nI i))] [] := by
    intro r
    induction r with
    | zero =>
      intro i hi
      have him : i = mm := by omega
      subst him
      refine r_iload hO d_H_habitSum_4 rfl ?_
      refine r_aload hO d_H_habitSum_5 rfl ?_
      refine r_getI hO f_H_24 rfl hH.2.1 d_H_habitSum_6 ?_
      refine r_tops hm1 ?_
      refine r_icmp_ge hO d_H_habitSum_9 (fun c_9 => ?_) (fun c_9 => ?_)
      · refine r_iload hO d_H_habitSum_30 rfl ?_
        refine r_iret hO hE (Nat.zero_le _) (Nat.zero_le _) d_H_habitSum_31 ?_
        exact ⟨rfl, rfl, rfl⟩
      · exact absurd (nI_le (Nat.le_refl _) (by omega)) c_9
    | succ r ih =>
      intro i hi
      refine r_iload hO d_H_habitSum_4 rfl ?_
      refine r_aload hO d_H_habitSum_5 rfl ?_
      refine r_getI hO f_H_24 rfl hH.2.1 d_H_habitSum_6 ?_
      refine r_tops hm1 ?_
      refine r_icmp_ge hO d_H_habitSum_9 (fun c_9 => ?_) (fun c_9 => ?_)
      · exact absurd c_9 (nI_ge (by omega) (by omega))
      · refine r_iload hO d_H_habitSum_12 rfl ?_
        refine r_aload hO d_H_habitSum_13 rfl ?_
        refine r_getR hO f_H_20 rfl hH.2.1 hH.2.2.2.2.1.1 d_H_habitSum_14 ?_
        refine r_iload hO d_H_habitSum_17 rfl ?_
        refine r_aald (t := 4) hO hH.2.2.2.2.1.2 (by decide) (by decide) (by omega) (by decide) (hH.2.2.2.2.2.2.2 _ (by omega)).1 d_H_habitSum_18 ?_
        refine r_getI hO f_H_62 rfl (hH.2.2.2.2.2.2.2 _ (by omega)).2 d_H_habitSum_19 ?_
        rw [hR.ask (show i < mm by omega) 2 (by decide)]
        refine r_iadd hO d_H_habitSum_22 ?_
        refine r_sI1 hO d_H_habitSum_23 rfl ?_
        refine r_incN2 hO d_H_habitSum_24 rfl ?_
        refine r_goto hO d_H_habitSum_27 ?_
        exact ih (i + 1) (by omega)
  refine r_k hO d_H_habitSum_0 ?_
  refine r_sI1 hO d_H_habitSum_1 rfl ?_
  refine r_k hO d_H_habitSum_2 ?_
  refine r_sI2 hO d_H_habitSum_3 rfl ?_
  exact loop mm 0 (by omega)
