theorem cd_an_01 (N : Nat → Int32) (i : Nat) : (cd_an N i).1 = nI 0 ∨ (cd_an N i).1 = nI 1 := by
  unfold cd_an
  split
  · split
    · exact Or.inl rfl
    · exact Or.inr rfl
  · exact Or.inl rfl
theorem cd_one_an (N : Nat → Int32) (i tc : Nat) : cd_one N i tc = if (cd_an N i).1 = 0 then (cd_an N i).2 else cd_ak (cd_an N i).2 i tc := by
  have e : cd_dr N (16 + 5 * i + 2) = N (16 + 5 * i + 2) := by unfold cd_dr upd; exact if_neg (by omega)
  unfold cd_one cd_an
  rw [e]
  by_cases h1 : N (16 + 5 * i + 1) = cd_rem (N 2) (nI 24)
  · rw [if_pos h1, if_pos h1]
    by_cases h2 : N (16 + 5 * i + 2) ≤ cd_rem (cd_dv N) (nI 100)
    · rw [if_pos h2, if_pos h2, if_pos (show nI 0 = 0 from rfl)]
    · rw [if_neg h2, if_neg h2, if_neg (show ¬ nI 1 = 0 by decide)]
  · rw [if_neg h1, if_neg h1, if_pos (show nI 0 = 0 from rfl)]
theorem cd_ed_0 {N : Nat → Int32} (h : N 6 * N 9 = 0) : cd_ed N = upd N 2 (N 2 + nI 1) := by
  have e : upd N 14 (N 14 + N 6 * N 9) = N := by
    funext k
    unfold upd
    split
    · rename_i hk
      rw [h, Int32.add_zero, hk]
    · rfl
  unfold cd_ed
  rw [e]
theorem cd_ed_1 {N : Nat → Int32} (h : N 6 = nI 1) (h2 : N 9 = nI 1) : cd_ed N = upd (upd N 14 (N 14 + nI 1)) 2 (N 2 + nI 1) := by
  have e : N 6 * N 9 = nI 1 := by rw [h, h2]; decide
  have e2 : upd N 14 (N 14 + nI 1) 2 = N 2 := if_neg (by decide)
  unfold cd_ed
  rw [e, e2]
theorem d_H_passHours_0 : cd_Dk b_H_passHours 0 (nI 0) 1 := Or.inl ⟨0, ⟨by decide +kernel, rfl⟩, by decide +kernel⟩
theorem d_H_passHours_1 : cd_D_istore b_H_passHours 1 2 2 := Or.inr ⟨2, ⟨by decide +kernel, rfl⟩, rfl⟩
theorem d_H_passHours_2 : cd_D_iload b_H_passHours 2 2 3 := Or.inr ⟨2, ⟨by decide +kernel, rfl⟩, rfl⟩
theorem d_H_passHours_3 : cd_D_iload b_H_passHours 3 1 4 := Or.inr ⟨1, ⟨by decide +kernel, rfl⟩, rfl⟩
theorem d_H_passHours_4 : cd_D_icmp_ge b_H_passHours 4 97 7 := ⟨93, by decide +kernel, by decide, rfl⟩
theorem d_H_passHours_7 : cd_D_aload b_H_passHours 7 0 8 := Or.inr ⟨0, ⟨by decide +kernel, rfl⟩, rfl⟩
theorem d_H_passHours_8 : cd_D 3 b_H_passHours 8 (.invokevirtual 91) 11 := ⟨by decide +kernel, rfl⟩
theorem d_H_passHours_11 : cd_Dk b_H_passHours 11 (nI 0) 12 := Or.inl ⟨0, ⟨by decide +kernel, rfl⟩, by decide +kernel⟩
theorem d_H_passHours_12 : cd_D_istore b_H_passHours 12 3 13 := Or.inr ⟨3, ⟨by decide +kernel, rfl⟩, rfl⟩
theorem d_H_passHours_13 : cd_D_iload b_H_passHours 13 3 14 := Or.inr ⟨3, ⟨by decide +kernel, rfl⟩, rfl⟩
theorem d_H_passHours_14 : cd_D_aload b_H_passHours 14 0 15 := Or.inr ⟨0, ⟨by decide +kernel, rfl⟩, rfl⟩
theorem d_H_passHours_15 : cd_D 3 b_H_passHours 15 (.getfield 24) 18 := ⟨by decide +kernel, rfl⟩
theorem d_H_passHours_18 : cd_D_icmp_ge b_H_passHours 18 50 21 := ⟨32, by decide +kernel, by decide, rfl⟩
theorem d_H_passHours_21 : cd_D_aload b_H_passHours 21 0 22 := Or.inr ⟨0, ⟨by decide +kernel, rfl⟩, rfl⟩
theorem d_H_passHours_22 : cd_D_aload b_H_passHours 22 0 23 := Or.inr ⟨0, ⟨by decide +kernel, rfl⟩, rfl⟩
theorem d_H_passHours_23 : cd_D 3 b_H_passHours 23 (.getfield 20) 26 := ⟨by decide +kernel, rfl⟩
theorem d_H_passHours_26 : cd_D_iload b_H_passHours 26 3 27 := Or.inr ⟨3, ⟨by decide +kernel, rfl⟩, rfl⟩
theorem d_H_passHours_27 : cd_D 1 b_H_passHours 27 .aaload 28 := ⟨by decide +kernel, rfl⟩
theorem d_H_passHours_28 : cd_D 3 b_H_passHours 28 (.invokevirtual 94) 31 := ⟨by decide +kernel, rfl⟩
theorem d_H_passHours_31 : cd_D_if_eq b_H_passHours 31 44 34 := ⟨13, by decide +kernel, by decide, rfl⟩
theorem d_H_passHours_34 : cd_D_aload b_H_passHours 34 0 35 := Or.inr ⟨0, ⟨by decide +kernel, rfl⟩, rfl⟩
theorem d_H_passHours_35 : cd_D_aload b_H_passHours 35 0 36 := Or.inr ⟨0, ⟨by decide +kernel, rfl⟩, rfl⟩
theorem d_H_passHours_36 : cd_D 3 b_H_passHours 36 (.getfield 20) 39 := ⟨by decide +kernel, rfl⟩
theorem d_H_passHours_39 : cd_D_iload b_H_passHours 39 3 40 := Or.inr ⟨3, ⟨by decide +kernel, rfl⟩, rfl⟩
theorem d_H_passHours_40 : cd_D 1 b_H_passHours 40 .aaload 41 := ⟨by decide +kernel, rfl⟩
theorem d_H_passHours_41 : cd_D 3 b_H_passHours 41 (.invokevirtual 98) 44 := ⟨by decide +kernel, rfl⟩
theorem d_H_passHours_44 : cd_D 3 b_H_passHours 44 (.iinc 3 (1)) 47 := ⟨by decide +kernel, rfl⟩
theorem d_H_passHours_47 : cd_D_goto b_H_passHours 47 13 := ⟨-34, by decide +kernel, by decide⟩
theorem d_H_passHours_50 : cd_D_aload b_H_passHours 50 0 51 := Or.inr ⟨0, ⟨by decide +kernel, rfl⟩, rfl⟩
theorem d_H_passHours_51 : cd_D 3 b_H_passHours 51 (.getfield 9) 54 := ⟨by decide +kernel, rfl⟩
theorem d_H_passHours_54 : cd_Dk b_H_passHours 54 (nI 3) 55 := Or.inl ⟨3, ⟨by decide +kernel, rfl⟩, by decide +kernel⟩
theorem d_H_passHours_55 : cd_D 1 b_H_passHours 55 .iaload 56 := ⟨by decide +kernel, rfl⟩
theorem d_H_passHours_56 : cd_Dk b_H_passHours 56 (nI 1) 57 := Or.inl ⟨1, ⟨by decide +kernel, rfl⟩, by decide +kernel⟩
theorem d_H_passHours_57 : cd_D_icmp_ne b_H_passHours 57 81 60 := ⟨24, by decide +kernel, by decide, rfl⟩
theorem d_H_passHours_60 : cd_D_aload b_H_passHours 60 0 61 := Or.inr ⟨0, ⟨by decide +kernel, rfl⟩, rfl⟩
theorem d_H_passHours_61 : cd_D 3 b_H_passHours 61 (.getfield 9) 64 := ⟨by decide +kernel, rfl⟩
theorem d_H_passHours_64 : cd_Dk b_H_passHours 64 (nI 6) 66 := Or.inr (Or.inl ⟨6, ⟨by decide +kernel, rfl⟩, by decide +kernel⟩)
theorem d_H_passHours_66 : cd_D 1 b_H_passHours 66 .iaload 67 := ⟨by decide +kernel, rfl⟩
theorem d_H_passHours_67 : cd_Dk b_H_passHours 67 (nI 1) 68 := Or.inl ⟨1, ⟨by decide +kernel, rfl⟩, by decide +kernel⟩
theorem d_H_passHours_68 : cd_D_icmp_ne b_H_passHours 68 81 71 := ⟨13, by decide +kernel, by decide, rfl⟩
theorem d_H_passHours_71 : cd_D_aload b_H_passHours 71 0 72 := Or.inr ⟨0, ⟨by decide +kernel, rfl⟩, rfl⟩
theorem d_H_passHours_72 : cd_D 3 b_H_passHours 72 (.getfield 15) 75 := ⟨by decide +kernel, rfl⟩
theorem d_H_passHours_75 : cd_Dk b_H_passHours 75 (nI 4) 76 := Or.inl ⟨4, ⟨by decide +kernel, rfl⟩, by decide +kernel⟩
theorem d_H_passHours_76 : cd_D 1 b_H_passHours 76 .dup2 77 := ⟨by decide +kernel, rfl⟩
theorem d_H_passHours_77 : cd_D 1 b_H_passHours 77 .iaload 78 := ⟨by decide +kernel, rfl⟩
theorem d_H_passHours_78 : cd_Dk b_H_passHours 78 (nI 1) 79 := Or.inl ⟨1, ⟨by decide +kernel, rfl⟩, by decide +kernel⟩
theorem d_H_passHours_79 : cd_D 1 b_H_passHours 79 .iadd 80 := ⟨by decide +kernel, rfl⟩
theorem d_H_passHours_80 : cd_D 1 b_H_passHours 80 .iastore 81 := ⟨by decide +kernel, rfl⟩
theorem d_H_passHours_81 : cd_D_aload b_H_passHours 81 0 82 := Or.inr ⟨0, ⟨by decide +kernel, rfl⟩, rfl⟩
theorem d_H_passHours_82 : cd_D 1 b_H_passHours 82 .dup 83 := ⟨by decide +kernel, rfl⟩
theorem d_H_passHours_83 : cd_D 3 b_H_passHours 83 (.getfield 28) 86 := ⟨by decide +kernel, rfl⟩
theorem d_H_passHours_86 : cd_Dk b_H_passHours 86 (nI 1) 87 := Or.inl ⟨1, ⟨by decide +kernel, rfl⟩, by decide +kernel⟩
theorem d_H_passHours_87 : cd_D 1 b_H_passHours 87 .iadd 88 := ⟨by decide +kernel, rfl⟩
theorem d_H_passHours_88 : cd_D 3 b_H_passHours 88 (.putfield 28) 91 := ⟨by decide +kernel, rfl⟩
theorem d_H_passHours_91 : cd_D 3 b_H_passHours 91 (.iinc 2 (1)) 94 := ⟨by decide +kernel, rfl⟩
theorem d_H_passHours_94 : cd_D_goto b_H_passHours 94 2 := ⟨-92, by decide +kernel, by decide⟩
theorem d_H_passHours_97 : cd_D 1 b_H_passHours 97 .return_ 98 := ⟨by decide +kernel, rfl⟩
theorem c_H_passHours {l : Launch} {w : cd_WT} {S : cd_Sp} {I : cd_Mem} {h mm tc : Nat} {N : Nat → Int32} (hG : cd_HG w S I h N mm tc) (n : Nat) (hn : n < 2 ^ 31) : cd_C l w m_H_passHours 5 0 0 [.ref h, .int (nI n)] S I (cd_Pv S (fun I' => cd_HG w S I' h (cd_hs N mm tc n) mm tc ∧ cd_ofh w h I I')) := by
  refine cd_intro (by decide) (by simp [Value.category]) (Nat.le_of_ble_eq_true rfl) ?_
  intro X hO hE
  show cd_J w X 0 0 S I 0 [some (.ref h), some (.int (nI n)), none, none] []
  obtain ⟨hH, hhd, hV, -, -⟩ := id hG
  have hmm := hV.2.1
  have loop2 : ∀ (M : Nat → Int32) (p : Nat), (∀ I3, cd_HG w S I3 h (cd_lp M tc mm) mm tc → cd_ofh w h I I3 → cd_J w X 0 0 S I3 50 [some (.ref h), some (.int (nI n)), some (.int (nI p)), some (.int (nI mm))] []) → ∀ (r i : Nat) (I2 : cd_Mem), i + r = mm → cd_HG w S I2 h (cd_lp M tc i) mm tc → cd_ofh w h I I2 → cd_J w X 0 0 S I2 13 [some (.ref h), some (.int (nI n)), some (.int (nI p)), some (.int (nI i))] [] := by
    intro M p kon r
    induction r with
    | zero =>
      intro i I2 hi hG2 ho2
      have him : i = mm := by omega
      subst him
      have hm1 : I2 h 3 = nI i := (hG2.2.2.2.2.at 1 (by omega) rfl rfl).trans hG2.2.2.1.1
      refine r_iload hO d_H_passHours_13 rfl ?_
      refine r_aload hO d_H_passHours_14 rfl ?_
      refine r_getI hO f_H_24 rfl hH.2.1 d_H_passHours_15 ?_
      refine r_tops hm1 ?_
      refine r_icmp_ge hO d_H_passHours_18 (fun c_18 => ?_) (fun c_18 => ?_)
      · exact kon I2 hG2 ho2
      · exact absurd (nI_le (Nat.le_refl _) (by omega)) c_18
    | succ r ih =>
      intro i I2 hi hG2 ho2
      have hm1 : I2 h 3 = nI mm := (hG2.2.2.2.2.at 1 (by omega) rfl rfl).trans hG2.2.2.1.1
      have him : i < mm := by omega
      have e1 := cd_one_an (cd_lp M tc i) i tc
      refine r_iload hO d_H_passHours_13 rfl ?_
      refine r_aload hO d_H_passHours_14 rfl ?_
      refine r_getI hO f_H_24 rfl hH.2.1 d_H_passHours_15 ?_
      refine r_tops hm1 ?_
      refine r_icmp_ge hO d_H_passHours_18 (fun c_18 => ?_) (fun c_18 => ?_)
      · exact absurd c_18 (nI_ge (by omega) (by omega))
      · refine r_aload hO d_H_passHours_21 rfl ?_
        refine r_aload hO d_H_passHours_22 rfl ?_
        refine r_getR hO f_H_20 rfl hH.2.1 hH.2.2.2.2.1.1 d_H_passHours_23 ?_
        refine r_iload hO d_H_passHours_26 rfl ?_
        refine r_aald (t := 4) hO hH.2.2.2.2.1.2 (by decide) (by decide) (by omega) (by decide) (hH.2.2.2.2.2.2.2 _ (by omega)).1 d_H_passHours_27 ?_
        refine r_cV1i hO hE (c_H_asksNow hG2 him) mf_H_asksNow lk_H_94 hH.2.1 rfl (by decide) rfl (Nat.le_of_ble_eq_true rfl) d_H_passHours_28 (Nat.zero_le _) (Nat.zero_le _) ?_
        rintro x I3 ⟨hx, hG3, ho3⟩
        refine r_if_eq hO d_H_passHours_31 (fun c_31 => ?_) (fun c_31 => ?_)
        · refine r_incN3 hO d_H_passHours_44 rfl ?_
          refine r_goto hO d_H_passHours_47 ?_
          exact ih (i + 1) I3 (by omega) (by show cd_HG w S I3 h (cd_one (cd_lp M tc i) i tc) mm tc; rw [e1, if_pos (hx.symm.trans c_31)]; exact hG3) (ho2.tr ho3)
        · refine r_aload hO d_H_passHours_34 rfl ?_
          refine r_aload hO d_H_passHours_35 rfl ?_
          refine r_getR hO f_H_20 rfl hH.2.1 hH.2.2.2.2.1.1 d_H_passHours_36 ?_
          refine r_iload hO d_H_passHours_39 rfl ?_
          refine r_aald (t := 4) hO hH.2.2.2.2.1.2 (by decide) (by decide) (by omega) (by decide) (hH.2.2.2.2.2.2.2 _ (by omega)).1 d_H_passHours_40 ?_
          refine r_cV1v hO hE (c_H_hears hG3 him) mf_H_hears lk_H_98 hH.2.1 rfl (by decide) rfl (Nat.le_of_ble_eq_true rfl) d_H_passHours_41 (Nat.zero_le _) (Nat.zero_le _) ?_
          rintro I4 ⟨hG4, ho4⟩
          refine r_incN3 hO d_H_passHours_44 rfl ?_
          refine r_goto hO d_H_passHours_47 ?_
          exact ih (i + 1) I4 (by omega) (by show cd_HG w S I4 h (cd_one (cd_lp M tc i) i tc) mm tc; rw [e1, if_neg (fun q => c_31 (hx.trans q))]; exact hG4) ((ho2.tr ho3).tr ho4)
  have loop : ∀ (r p : Nat) (I1 : cd_Mem) (x3 : Option Value), p + r = n → cd_HG w S I1 h (cd_hs N mm tc p) mm tc → cd_ofh w h I I1 → cd_J w X 0 0 S I1 2 [some (.ref h), some (.int (nI n)), some (.int (nI p)), x3] [] := by
    intro r
    induction r with
    | zero =>
      intro p I1 x3 hp hG1 ho1
      have hpn : p = n := by omega
      subst hpn
      refine r_iload hO d_H_passHours_2 rfl ?_
      refine r_iload hO d_H_passHours_3 rfl ?_
      refine r_icmp_ge hO d_H_passHours_4 (fun c_4 => ?_) (fun c_4 => ?_)
      · refine r_vret hO hE (Nat.zero_le _) (Nat.zero_le _) d_H_passHours_97 ?_
        exact ⟨rfl, rfl, hG1, ho1⟩
      · exact absurd (nI_le (Nat.le_refl _) (by omega)) c_4
    | succ r ih =>
      intro p I1 x3 hp hG1 ho1
      refine r_iload hO d_H_passHours_2 rfl ?_
      refine r_iload hO d_H_passHours_3 rfl ?_
      refine r_icmp_ge hO d_H_passHours_4 (fun c_4 => ?_) (fun c_4 => ?_)
      · exact absurd c_4 (nI_ge (by omega) (by omega))
      · refine r_aload hO d_H_passHours_7 rfl ?_
        refine r_cV0v hO hE (c_H_drawsWeather hG1) mf_H_drawsWeather lk_H_91 hH.2.1 rfl (by decide) rfl (Nat.le_of_ble_eq_true rfl) d_H_passHours_8 (Nat.zero_le _) (Nat.zero_le _) ?_
        rintro I2 ⟨hG2, ho2⟩
        refine r_k hO d_H_passHours_11 ?_
        refine r_sI3 hO d_H_passHours_12 rfl ?_
        refine loop2 (cd_w2 (cd_w1 (cd_hs N mm tc p))) p ?_ mm 0 I2 (by omega) hG2 (ho1.tr ho2)
        clear ho2 hG2 I2
        intro I3 hG3 ho3
        have hR3 := hG3.2.2.2.2
        have eh : cd_hs N mm tc (p + 1) = cd_ed (cd_lp (cd_w2 (cd_w1 (cd_hs N mm tc p))) tc mm) := rfl
        revert eh hG3 hR3
        generalize cd_lp (cd_w2 (cd_w1 (cd_hs N mm tc p))) tc mm = Q
        intro hG3 hR3 eh
        have w6 : I3 (h + 1) 3 = Q 6 := hR3.at 6 (by omega) rfl rfl
        have w9 : I3 (h + 1) 6 = Q 9 := hR3.at 9 (by omega) rfl rfl
        have w14 : I3 (h + 2) 4 = Q 14 := hR3.at 14 (by omega) rfl rfl
        have w2 : I3 h 4 = Q 2 := hR3.at 2 (by omega) rfl rfl
        have b6 := hG3.2.2.2.1.2.2.1
        have b9 := hG3.2.2.2.1.2.2.2.2.2
        refine r_aload hO d_H_passHours_50 rfl ?_
        refine r_getR hO f_H_9 rfl hH.2.1 hH.2.2.1.1 d_H_passHours_51 ?_
        refine r_k hO d_H_passHours_54 ?_
        refine r_iald hO hH.2.2.1.2 (by omega) (by decide) d_H_passHours_55 ?_
        rw [w6]
        refine r_k hO d_H_passHours_56 ?_
        refine r_icmp_ne hO d_H_passHours_57 (fun c_57 => ?_) (fun c_57 => ?_)
        · refine r_aload hO d_H_passHours_81 rfl ?_
          refine r_dup hO d_H_passHours_82 rfl ?_
          refine r_getI hO f_H_28 rfl hH.2.1 d_H_passHours_83 ?_
          try rw [cd_set_ne _ _ (show h ≠ h + 2 by omega)]
          rw [w2]
          refine r_k hO d_H_passHours_86 ?_
          refine r_iadd hO d_H_passHours_87 ?_
          refine r_putI hO f_H_28 rfl hH.2.1 hH.1 d_H_passHours_88 ?_
          refine r_incN2 hO d_H_passHours_91 rfl ?_
          refine r_goto hO d_H_passHours_94 ?_
          have hGb := cd_HG_w hG3 2 (by decide) (by decide) (by decide) (a := h) (k := 4) rfl rfl (Q 2 + nI 1) (cd_IV_upd hG3.2.2.2.1 (by omega))
          exact ih (p + 1) _ _ (by omega) (by rw [eh, cd_ed_0 (by rw [b6.resolve_right c_57, Int32.zero_mul])]; exact hGb) (ho3.tr (cd_ofh.set _ _ (cd_wr_in (by omega) (by omega))))
        · refine r_aload hO d_H_passHours_60 rfl ?_
          refine r_getR hO f_H_9 rfl hH.2.1 hH.2.2.1.1 d_H_passHours_61 ?_
          refine r_k hO d_H_passHours_64 ?_
          refine r_iald hO hH.2.2.1.2 (by omega) (by decide) d_H_passHours_66 ?_
          rw [w9]
          refine r_k hO d_H_passHours_67 ?_
          refine r_icmp_ne hO d_H_passHours_68 (fun c_68 => ?_) (fun c_68 => ?_)
          · refine r_aload hO d_H_passHours_81 rfl ?_
            refine r_dup hO d_H_passHours_82 rfl ?_
            refine r_getI hO f_H_28 rfl hH.2.1 d_H_passHours_83 ?_
            try rw [cd_set_ne _ _ (show h ≠ h + 2 by omega)]
            rw [w2]
            refine r_k hO d_H_passHours_86 ?_
            refine r_iadd hO d_H_passHours_87 ?_
            refine r_putI hO f_H_28 rfl hH.2.1 hH.1 d_H_passHours_88 ?_
            refine r_incN2 hO d_H_passHours_91 rfl ?_
            refine r_goto hO d_H_passHours_94 ?_
            have hGb := cd_HG_w hG3 2 (by decide) (by decide) (by decide) (a := h) (k := 4) rfl rfl (Q 2 + nI 1) (cd_IV_upd hG3.2.2.2.1 (by omega))
            exact ih (p + 1) _ _ (by omega) (by rw [eh, cd_ed_0 (by rw [b9.resolve_right c_68, Int32.mul_zero])]; exact hGb) (ho3.tr (cd_ofh.set _ _ (cd_wr_in (by omega) (by omega))))
          · refine r_aload hO d_H_passHours_71 rfl ?_
            refine r_getR hO f_H_15 rfl hH.2.1 hH.2.2.2.1.1 d_H_passHours_72 ?_
            refine r_k hO d_H_passHours_75 ?_
            refine r_dup2 hO d_H_passHours_76 rfl rfl ?_
            refine r_iald hO hH.2.2.2.1.2 (by omega) (by decide) d_H_passHours_77 ?_
            rw [w14]
            refine r_k hO d_H_passHours_78 ?_
            refine r_iadd hO d_H_passHours_79 ?_
            refine r_iast hO hH.2.2.2.1.2 (Nat.le_trans hH.1 (Nat.le_add_right _ _)) (by omega) (by decide) d_H_passHours_80 ?_
            refine r_aload hO d_H_passHours_81 rfl ?_
            refine r_dup hO d_H_passHours_82 rfl ?_
            refine r_getI hO f_H_28 rfl hH.2.1 d_H_passHours_83 ?_
            try rw [cd_set_ne _ _ (show h ≠ h + 2 by omega)]
            rw [w2]
            refine r_k hO d_H_passHours_86 ?_
            refine r_iadd hO d_H_passHours_87 ?_
            refine r_putI hO f_H_28 rfl hH.2.1 hH.1 d_H_passHours_88 ?_
            refine r_incN2 hO d_H_passHours_91 rfl ?_
            refine r_goto hO d_H_passHours_94 ?_
            have hGa := cd_HG_w hG3 14 (by decide) (by decide) (by decide) (a := h + 2) (k := 4) rfl rfl (Q 14 + nI 1) (cd_IV_upd hG3.2.2.2.1 (by omega))
            have hGb := cd_HG_w hGa 2 (by decide) (by decide) (by decide) (a := h) (k := 4) rfl rfl (Q 2 + nI 1) (cd_IV_upd hGa.2.2.2.1 (by omega))
            exact ih (p + 1) _ _ (by omega) (by rw [eh, cd_ed_1 c_57 c_68]; exact hGb) (ho3.tr ((cd_ofh.set _ _ (cd_wr_in (by omega) (by omega))).tr (cd_ofh.set _ _ (cd_wr_in (by omega) (by omega)))))
  refine r_k hO d_H_passHours_0 ?_
  refine r_sI2 hO d_H_passHours_1 rfl ?_
  exact loop n 0 I _ (by omega) hG (cd_ofh.rf _ _ _)
