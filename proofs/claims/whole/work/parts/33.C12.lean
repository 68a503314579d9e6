def cd_SH (S : cd_Sp) (s : Nat) : Prop := S.2.1 s = (1, 2) ∧ S.2.2 s 2 = some (s + 1) ∧ S.2.1 (s + 1) = (2, 24)
/-- the component's object and its cells -/
def cd_CD (w : cd_WT) (S : cd_Sp) : Prop := S.2.1 w.1 = (1, 6) ∧ S.2.2 w.1 0 = some (w.1 + 1) ∧ S.2.2 w.1 1 = some (w.1 + 19) ∧ S.2.2 w.1 2 = some (w.1 + 37) ∧ S.2.2 w.1 4 = some (w.1 + 55) ∧ S.2.2 w.1 5 = some (w.1 + 58) ∧ S.2.2 w.1 6 = some (w.1 + 59) ∧ S.2.2 w.1 7 = some (w.1 + 60) ∧ S.2.2 w.1 9 = some (w.1 + 61) ∧ cd_HO w S (w.1 + 1) ∧ cd_HO w S (w.1 + 19) ∧ cd_HO w S (w.1 + 37) ∧ (S.2.1 (w.1 + 55) = (1, 4) ∧ S.2.2 (w.1 + 55) 7 = some (w.1 + 56) ∧ S.2.2 (w.1 + 55) 8 = some (w.1 + 57) ∧ S.2.1 (w.1 + 56) = (3, 96) ∧ S.2.1 (w.1 + 57) = (2, 96)) ∧ S.2.1 (w.1 + 58) = (8, 4) ∧ S.2.1 (w.1 + 59) = (9, 5) ∧ S.2.1 (w.1 + 60) = (2, 60) ∧ S.2.1 (w.1 + 61) = (2, 12) ∧ (∀ i, i < 4 → S.2.2 (w.1 + 58) i = some (w.1 + 62 + 2 * i) ∧ cd_SH S (w.1 + 62 + 2 * i)) ∧ ∀ j, j < 5 → S.2.2 (w.1 + 59) j = some (w.1 + 70 + 4 * j) ∧ S.2.1 (w.1 + 70 + 4 * j) = (1, 3) ∧ S.2.2 (w.1 + 70 + 4 * j) 2 = some (w.1 + 71 + 4 * j) ∧ S.2.2 (w.1 + 70 + 4 * j) 3 = some (w.1 + 72 + 4 * j) ∧ S.2.1 (w.1 + 71 + 4 * j) = (1, 0) ∧ cd_SH S (w.1 + 72 + 4 * j)
/-- what a call answers that reaches no more than the house of now -/
def cd_Pn (w : cd_WT) (S : cd_Sp) (I : cd_Mem) (sp : Int32 × (Nat → Int32)) (tc : Nat) : cd_Pt := cd_Pi S (fun x I' => x = sp.1 ∧ (∃ mm', cd_HG w S I' (w.1 + 1) sp.2 mm' tc) ∧ cd_ofh w (w.1 + 1) I I')
theorem cd_pn {w : cd_WT} {S : cd_Sp} {I I' : cd_Mem} {sp : Int32 × (Nat → Int32)} {v : Int32} {N' : Nat → Int32} {tc mm' : Nat} (h : sp = (v, N')) (hG : cd_HG w S I' (w.1 + 1) N' mm' tc) (ho : cd_ofh w (w.1 + 1) I I') : cd_Pn w S I sp tc (some (.int v)) S I' := by
  subst h
  exact ⟨_, rfl, rfl, rfl, ⟨mm', hG⟩, ho⟩
theorem cd_isA_lt {N : Nat → Int32} {a : Int32} {mm : Nat} (h1 : N 1 = nI mm) (hm : mm ≤ 12) : cd_isA N a ↔ ¬ a < 0 ∧ ¬ nI mm ≤ a := by
  constructor
  · intro h
    obtain ⟨i, hi, rfl⟩ := cd_isA_ex h1 hm h
    exact ⟨nI_pos (by omega), nI_ge (by omega) (by omega)⟩
  · rintro ⟨h2, h3⟩
    obtain ⟨j, hj, rfl⟩ := nI_of h2
    have : j < mm := by
      rcases Nat.lt_or_ge j mm with q | q
      · exact q
      · exact absurd (nI_le q hj) h3
    exact cd_isA_nI h1 hm this
theorem gs_100 : Cond.fieldLink "CatDoors" 100 "CatDoors" (cd_sn 1) "[I" ∈ cd_ws := cd_mem 328 (by decide +kernel) rfl
theorem gs_103 : Cond.fieldLink "CatDoors" 103 "CatDoors" (cd_sn 2) "[I" ∈ cd_ws := cd_mem 330 (by decide +kernel) rfl
theorem gs_106 : Cond.fieldLink "CatDoors" 106 "CatDoors" (cd_sn 3) "[I" ∈ cd_ws := cd_mem 332 (by decide +kernel) rfl
theorem gs_120 : Cond.fieldLink "CatDoors" 120 "CatDoors" (cd_sn 4) "[I" ∈ cd_ws := cd_mem 365 (by decide +kernel) rfl
theorem d_C_isAsking_0 : cd_D_iload b_C_isAsking 0 1 1 := Or.inr ⟨1, ⟨by decide +kernel, rfl⟩, rfl⟩
theorem d_C_isAsking_1 : cd_D_if_lt b_C_isAsking 1 19 4 := ⟨18, by decide +kernel, by decide, rfl⟩
theorem d_C_isAsking_4 : cd_D_iload b_C_isAsking 4 1 5 := Or.inr ⟨1, ⟨by decide +kernel, rfl⟩, rfl⟩
theorem d_C_isAsking_5 : cd_D_aload b_C_isAsking 5 0 6 := Or.inr ⟨0, ⟨by decide +kernel, rfl⟩, rfl⟩
theorem d_C_isAsking_6 : cd_D 3 b_C_isAsking 6 (.getfield 10) 9 := ⟨by decide +kernel, rfl⟩
theorem d_C_isAsking_9 : cd_D 3 b_C_isAsking 9 (.getfield 63) 12 := ⟨by decide +kernel, rfl⟩
theorem d_C_isAsking_12 : cd_D_icmp_ge b_C_isAsking 12 19 15 := ⟨7, by decide +kernel, by decide, rfl⟩
theorem d_C_isAsking_15 : cd_Dk b_C_isAsking 15 (nI 1) 16 := Or.inl ⟨1, ⟨by decide +kernel, rfl⟩, by decide +kernel⟩
theorem d_C_isAsking_16 : cd_D_goto b_C_isAsking 16 20 := ⟨4, by decide +kernel, by decide⟩
theorem d_C_isAsking_19 : cd_Dk b_C_isAsking 19 (nI 0) 20 := Or.inl ⟨0, ⟨by decide +kernel, rfl⟩, by decide +kernel⟩
theorem d_C_isAsking_20 : cd_D 1 b_C_isAsking 20 .ireturn 21 := ⟨by decide +kernel, rfl⟩
theorem c_C_isAsking {l : Launch} {w : cd_WT} {S : cd_Sp} {I : cd_Mem} (hC : cd_CD w S) {mm tc : Nat} {N : Nat → Int32} (hG : cd_HG w S I (w.1 + 1) N mm tc) (a : Int32) : cd_C l w m_C_isAsking 0 0 0 [.ref w.1, .int a] S I (cd_Fi S (cd_bI (cd_isA N a)) I) := by
  refine cd_intro (by decide) (by simp [Value.category]) (Nat.le_of_ble_eq_true rfl) ?_
  intro X hO hE
  show cd_J w X 0 0 S I 0 [some (.ref w.1), some (.int a)] []
  obtain ⟨hH, hhd, hV, hIV, hR⟩ := id hG
  have hmm := hV.2.1
  have hm1 : I (w.1 + 1) 3 = nI mm := (hR.at 1 (by omega) rfl rfl).trans hV.1
  refine r_iload hO d_C_isAsking_0 rfl ?_
  refine r_if_lt hO d_C_isAsking_1 (fun c_1 => ?_) (fun c_1 => ?_)
  · refine r_k hO d_C_isAsking_19 ?_
    refine r_zret hO hE (by first | exact Or.inl rfl | exact Or.inr rfl) (Nat.zero_le _) (Nat.zero_le _) d_C_isAsking_20 ?_
    exact cd_ret0 (fun q => ((cd_isA_lt hV.1 hmm).mp q).1 c_1)
  · refine r_iload hO d_C_isAsking_4 rfl ?_
    refine r_aload hO d_C_isAsking_5 rfl ?_
    refine r_getR hO f_C_10 rfl hC.1 hC.2.1 d_C_isAsking_6 ?_
    refine r_getI hO f_C_63 rfl hH.2.1 d_C_isAsking_9 ?_
    rw [hm1]
    refine r_icmp_ge hO d_C_isAsking_12 (fun c_12 => ?_) (fun c_12 => ?_)
    · refine r_k hO d_C_isAsking_19 ?_
      refine r_zret hO hE (by first | exact Or.inl rfl | exact Or.inr rfl) (Nat.zero_le _) (Nat.zero_le _) d_C_isAsking_20 ?_
      exact cd_ret0 (fun q => ((cd_isA_lt hV.1 hmm).mp q).2 c_12)
    · refine r_k hO d_C_isAsking_15 ?_
      refine r_goto hO d_C_isAsking_16 ?_
      refine r_zret hO hE (by first | exact Or.inl rfl | exact Or.inr rfl) (Nat.zero_le _) (Nat.zero_le _) d_C_isAsking_20 ?_
      exact cd_ret1 ((cd_isA_lt hV.1 hmm).mpr ⟨c_1, c_12⟩)
theorem d_C_asking_0 : cd_D_iload b_C_asking 0 1 1 := Or.inr ⟨1, ⟨by decide +kernel, rfl⟩, rfl⟩
theorem d_C_asking_1 : cd_Dk b_C_asking 1 (nI 5) 2 := Or.inl ⟨5, ⟨by decide +kernel, rfl⟩, by decide +kernel⟩
theorem d_C_asking_2 : cd_D 3 b_C_asking 2 (.invokestatic 58) 5 := ⟨by decide +kernel, rfl⟩
theorem d_C_asking_5 : cd_D_if_eq b_C_asking 5 17 8 := ⟨12, by decide +kernel, by decide, rfl⟩
theorem d_C_asking_8 : cd_D_iload b_C_asking 8 2 9 := Or.inr ⟨2, ⟨by decide +kernel, rfl⟩, rfl⟩
theorem d_C_asking_9 : cd_Dk b_C_asking 9 (nI 23) 11 := Or.inr (Or.inl ⟨23, ⟨by decide +kernel, rfl⟩, by decide +kernel⟩)
theorem d_C_asking_11 : cd_D 3 b_C_asking 11 (.invokestatic 58) 14 := ⟨by decide +kernel, rfl⟩
theorem d_C_asking_14 : cd_D_if_ne b_C_asking 14 20 17 := ⟨6, by decide +kernel, by decide, rfl⟩
theorem d_C_asking_17 : cd_D 2 b_C_asking 17 (.ldc 62) 19 := ⟨by decide +kernel, rfl⟩
theorem d_C_asking_19 : cd_D 1 b_C_asking 19 .ireturn 20 := ⟨by decide +kernel, rfl⟩
theorem d_C_asking_20 : cd_D_iload b_C_asking 20 3 21 := Or.inr ⟨3, ⟨by decide +kernel, rfl⟩, rfl⟩
theorem d_C_asking_21 : cd_Dk b_C_asking 21 (nI 99) 23 := Or.inr (Or.inl ⟨99, ⟨by decide +kernel, rfl⟩, by decide +kernel⟩)
theorem d_C_asking_23 : cd_D 3 b_C_asking 23 (.invokestatic 58) 26 := ⟨by decide +kernel, rfl⟩
theorem d_C_asking_26 : cd_D_if_eq b_C_asking 26 39 29 := ⟨13, by decide +kernel, by decide, rfl⟩
theorem d_C_asking_29 : cd_D_iload b_C_asking 29 4 31 := Or.inl ⟨by decide +kernel, rfl⟩
theorem d_C_asking_31 : cd_Dk b_C_asking 31 (nI 100) 33 := Or.inr (Or.inl ⟨100, ⟨by decide +kernel, rfl⟩, by decide +kernel⟩)
theorem d_C_asking_33 : cd_D 3 b_C_asking 33 (.invokestatic 58) 36 := ⟨by decide +kernel, rfl⟩
theorem d_C_asking_36 : cd_D_if_ne b_C_asking 36 42 39 := ⟨6, by decide +kernel, by decide, rfl⟩
theorem d_C_asking_39 : cd_D 2 b_C_asking 39 (.ldc 62) 41 := ⟨by decide +kernel, rfl⟩
theorem d_C_asking_41 : cd_D 1 b_C_asking 41 .ireturn 42 := ⟨by decide +kernel, rfl⟩
theorem d_C_asking_42 : cd_D_aload b_C_asking 42 0 43 := Or.inr ⟨0, ⟨by decide +kernel, rfl⟩, rfl⟩
theorem d_C_asking_43 : cd_D 3 b_C_asking 43 (.getfield 10) 46 := ⟨by decide +kernel, rfl⟩
theorem d_C_asking_46 : cd_D 3 b_C_asking 46 (.getfield 63) 49 := ⟨by decide +kernel, rfl⟩
theorem d_C_asking_49 : cd_Dk b_C_asking 49 (nI 12) 51 := Or.inr (Or.inl ⟨12, ⟨by decide +kernel, rfl⟩, by decide +kernel⟩)
theorem d_C_asking_51 : cd_D_icmp_lt b_C_asking 51 57 54 := ⟨6, by decide +kernel, by decide, rfl⟩
theorem d_C_asking_54 : cd_D 2 b_C_asking 54 (.ldc 66) 56 := ⟨by decide +kernel, rfl⟩
theorem d_C_asking_56 : cd_D 1 b_C_asking 56 .ireturn 57 := ⟨by decide +kernel, rfl⟩
theorem d_C_asking_57 : cd_D_aload b_C_asking 57 0 58 := Or.inr ⟨0, ⟨by decide +kernel, rfl⟩, rfl⟩
theorem d_C_asking_58 : cd_D 3 b_C_asking 58 (.getfield 10) 61 := ⟨by decide +kernel, rfl⟩
theorem d_C_asking_61 : cd_D_iload b_C_asking 61 1 62 := Or.inr ⟨1, ⟨by decide +kernel, rfl⟩, rfl⟩
theorem d_C_asking_62 : cd_D_iload b_C_asking 62 2 63 := Or.inr ⟨2, ⟨by decide +kernel, rfl⟩, rfl⟩
theorem d_C_asking_63 : cd_D_iload b_C_asking 63 3 64 := Or.inr ⟨3, ⟨by decide +kernel, rfl⟩, rfl⟩
theorem d_C_asking_64 : cd_D_iload b_C_asking 64 4 66 := Or.inl ⟨by decide +kernel, rfl⟩
theorem d_C_asking_66 : cd_D 3 b_C_asking 66 (.invokevirtual 67) 69 := ⟨by decide +kernel, rfl⟩
theorem d_C_asking_69 : cd_D 1 b_C_asking 69 .ireturn 70 := ⟨by decide +kernel, rfl⟩
theorem c_C_asking {l : Launch} {w : cd_WT} {S : cd_Sp} {I : cd_Mem} (hC : cd_CD w S) {mm tc : Nat} {N : Nat → Int32} (hG : cd_HG w S I (w.1 + 1) N mm tc) (k hr b e : Int32) : cd_C l w m_C_asking 1 0 0 [.ref w.1, .int k, .int hr, .int b, .int e] S I (cd_Pn w S I (sp_asking N mm k hr b e) tc) := by
  refine cd_intro (by decide) (by simp [Value.category]) (Nat.le_of_ble_eq_true rfl) ?_
  intro X hO hE
  show cd_J w X 0 0 S I 0 [some (.ref w.1), some (.int k), some (.int hr), some (.int b), some (.int e)] []
  obtain ⟨hH, hhd, hV, hIV, hR⟩ := id hG
  have hmm := hV.2.1
  have hm1 : I (w.1 + 1) 3 = nI mm := (hR.at 1 (by omega) rfl rfl).trans hV.1
  refine r_iload hO d_C_asking_0 rfl ?_
  refine r_k hO d_C_asking_1 ?_
  refine r_cS2fi hO hE (c_C_isWithin _ _) mf_C_isWithin lk_C_58 (by decide) rfl (Nat.le_of_ble_eq_true rfl) d_C_asking_2 (Nat.zero_le _) (Nat.zero_le _) ?_
  refine r_if_eqB hO d_C_asking_5 (fun c_5 => ?_) (fun c_5 => ?_)
  · refine r_ldc hO k_C_62 d_C_asking_17 ?_
    refine r_iret hO hE (Nat.zero_le _) (Nat.zero_le _) d_C_asking_19 ?_
    exact cd_pn (by unfold sp_asking cd_isOf; rw [show cd_lim (nI 1) = nI 23 from rfl, show cd_lim (nI 2) = nI 99 from rfl, show cd_lim (nI 3) = nI 100 from rfl]; rw [if_neg c_5]) hG (cd_ofh.rf _ _ _)
  · refine r_iload hO d_C_asking_8 rfl ?_
    refine r_k hO d_C_asking_9 ?_
    refine r_cS2fi hO hE (c_C_isWithin _ _) mf_C_isWithin lk_C_58 (by decide) rfl (Nat.le_of_ble_eq_true rfl) d_C_asking_11 (Nat.zero_le _) (Nat.zero_le _) ?_
    refine r_if_neB hO d_C_asking_14 (fun c_14 => ?_) (fun c_14 => ?_)
    · refine r_iload hO d_C_asking_20 rfl ?_
      refine r_k hO d_C_asking_21 ?_
      refine r_cS2fi hO hE (c_C_isWithin _ _) mf_C_isWithin lk_C_58 (by decide) rfl (Nat.le_of_ble_eq_true rfl) d_C_asking_23 (Nat.zero_le _) (Nat.zero_le _) ?_
      refine r_if_eqB hO d_C_asking_26 (fun c_26 => ?_) (fun c_26 => ?_)
      · refine r_ldc hO k_C_62 d_C_asking_39 ?_
        refine r_iret hO hE (Nat.zero_le _) (Nat.zero_le _) d_C_asking_41 ?_
        exact cd_pn (by unfold sp_asking cd_isOf; rw [show cd_lim (nI 1) = nI 23 from rfl, show cd_lim (nI 2) = nI 99 from rfl, show cd_lim (nI 3) = nI 100 from rfl]; rw [if_pos c_5, if_pos c_14, if_neg c_26]) hG (cd_ofh.rf _ _ _)
      · refine r_iload hO d_C_asking_29 rfl ?_
        refine r_k hO d_C_asking_31 ?_
        refine r_cS2fi hO hE (c_C_isWithin _ _) mf_C_isWithin lk_C_58 (by decide) rfl (Nat.le_of_ble_eq_true rfl) d_C_asking_33 (Nat.zero_le _) (Nat.zero_le _) ?_
        refine r_if_neB hO d_C_asking_36 (fun c_36 => ?_) (fun c_36 => ?_)
        · refine r_aload hO d_C_asking_42 rfl ?_
          refine r_getR hO f_C_10 rfl hC.1 hC.2.1 d_C_asking_43 ?_
          refine r_getI hO f_C_63 rfl hH.2.1 d_C_asking_46 ?_
          rw [hm1]
          refine r_k hO d_C_asking_49 ?_
          refine r_icmp_lt hO d_C_asking_51 (fun c_51 => ?_) (fun c_51 => ?_)
          · have hm12 : mm < 12 := by
              rcases Nat.lt_or_ge mm 12 with q | q
              · exact q
              · exact absurd c_51 (nI_nlt q (by omega))
            have hne : ¬ N 1 = nI 12 := by
              rw [hV.1]
              exact fun q => by have := (nI_eq (by omega) (by omega)).mp q; omega
            refine r_aload hO d_C_asking_57 rfl ?_
            refine r_getR hO f_C_10 rfl hC.1 hC.2.1 d_C_asking_58 ?_
            refine r_iload hO d_C_asking_61 rfl ?_
            refine r_iload hO d_C_asking_62 rfl ?_
            refine r_iload hO d_C_asking_63 rfl ?_
            refine r_iload hO d_C_asking_64 rfl ?_
            refine r_cV4i hO hE (c_H_adds hG hm12 (by obtain ⟨q, -, q1, q2⟩ := cd_in_ex (lo := 0) (hi := 5) c_5 (by decide) (by decide); exact ⟨q, q1, q2⟩) (by obtain ⟨q, -, q1, q2⟩ := cd_in_ex (lo := 0) (hi := 23) c_14 (by decide) (by decide); exact ⟨q, q1, q2⟩) (by obtain ⟨q, -, q1, q2⟩ := cd_in_ex (lo := 0) (hi := 99) c_26 (by decide) (by decide); exact ⟨q, q1, q2⟩) (by obtain ⟨q, -, q1, q2⟩ := cd_in_ex (lo := 0) (hi := 100) c_36 (by decide) (by decide); exact ⟨q, q1, q2⟩)) mf_H_adds lk_C_67 hH.2.1 rfl (by decide) rfl (Nat.le_of_ble_eq_true rfl) d_C_asking_66 (Nat.zero_le _) (Nat.zero_le _) ?_
            rintro x I2 ⟨hx, hG2, ho2⟩
            subst hx
            refine r_iret hO hE (Nat.zero_le _) (Nat.zero_le _) d_C_asking_69 ?_
            exact cd_pn (mm' := mm + 1) (by unfold sp_asking cd_isOf; rw [show cd_lim (nI 1) = nI 23 from rfl, show cd_lim (nI 2) = nI 99 from rfl, show cd_lim (nI 3) = nI 100 from rfl]; rw [if_pos c_5, if_pos c_14, if_pos c_26, if_pos c_36, if_neg hne]) hG2 ho2
          · have heq : N 1 = nI 12 := by
              rw [hV.1]
              rcases Nat.lt_or_ge mm 12 with q | q
              · exact absurd (nI_lt q (by decide)) c_51
              · rw [show mm = 12 by omega]
            refine r_ldc hO k_C_66 d_C_asking_54 ?_
            refine r_iret hO hE (Nat.zero_le _) (Nat.zero_le _) d_C_asking_56 ?_
            exact cd_pn (by unfold sp_asking cd_isOf; rw [show cd_lim (nI 1) = nI 23 from rfl, show cd_lim (nI 2) = nI 99 from rfl, show cd_lim (nI 3) = nI 100 from rfl]; rw [if_pos c_5, if_pos c_14, if_pos c_26, if_pos c_36, if_pos heq]) hG (cd_ofh.rf _ _ _)
        · refine r_ldc hO k_C_62 d_C_asking_39 ?_
          refine r_iret hO hE (Nat.zero_le _) (Nat.zero_le _) d_C_asking_41 ?_
          exact cd_pn (by unfold sp_asking cd_isOf; rw [show cd_lim (nI 1) = nI 23 from rfl, show cd_lim (nI 2) = nI 99 from rfl, show cd_lim (nI 3) = nI 100 from rfl]; rw [if_pos c_5, if_pos c_14, if_pos c_26, if_neg c_36]) hG (cd_ofh.rf _ _ _)
    · refine r_ldc hO k_C_62 d_C_asking_17 ?_
      refine r_iret hO hE (Nat.zero_le _) (Nat.zero_le _) d_C_asking_19 ?_
      exact cd_pn (by unfold sp_asking cd_isOf; rw [show cd_lim (nI 1) = nI 23 from rfl, show cd_lim (nI 2) = nI 99 from rfl, show cd_lim (nI 3) = nI 100 from rfl]; rw [if_pos c_5, if_neg c_14]) hG (cd_ofh.rf _ _ _)
theorem d_C_as_0 : cd_D_aload b_C_as 0 0 1 := Or.inr ⟨0, ⟨by decide +kernel, rfl⟩, rfl⟩
theorem d_C_as_1 : cd_D_iload b_C_as 1 1 2 := Or.inr ⟨1, ⟨by decide +kernel, rfl⟩, rfl⟩
theorem d_C_as_2 : cd_D 3 b_C_as 2 (.invokevirtual 71) 5 := ⟨by decide +kernel, rfl⟩
theorem d_C_as_5 : cd_D_if_eq b_C_as 5 16 8 := ⟨11, by decide +kernel, by decide, rfl⟩
theorem d_C_as_8 : cd_D_iload b_C_as 8 2 9 := Or.inr ⟨2, ⟨by decide +kernel, rfl⟩, rfl⟩
theorem d_C_as_9 : cd_Dk b_C_as 9 (nI 5) 10 := Or.inl ⟨5, ⟨by decide +kernel, rfl⟩, by decide +kernel⟩
theorem d_C_as_10 : cd_D 3 b_C_as 10 (.invokestatic 58) 13 := ⟨by decide +kernel, rfl⟩
theorem d_C_as_13 : cd_D_if_ne b_C_as 13 19 16 := ⟨6, by decide +kernel, by decide, rfl⟩
theorem d_C_as_16 : cd_D 2 b_C_as 16 (.ldc 62) 18 := ⟨by decide +kernel, rfl⟩
theorem d_C_as_18 : cd_D 1 b_C_as 18 .ireturn 19 := ⟨by decide +kernel, rfl⟩
theorem d_C_as_19 : cd_D_aload b_C_as 19 0 20 := Or.inr ⟨0, ⟨by decide +kernel, rfl⟩, rfl⟩
theorem d_C_as_20 : cd_D 3 b_C_as 20 (.getfield 10) 23 := ⟨by decide +kernel, rfl⟩
theorem d_C_as_23 : cd_D 3 b_C_as 23 (.getfield 75) 26 := ⟨by decide +kernel, rfl⟩
theorem d_C_as_26 : cd_D_iload b_C_as 26 1 27 := Or.inr ⟨1, ⟨by decide +kernel, rfl⟩, rfl⟩
theorem d_C_as_27 : cd_D 1 b_C_as 27 .aaload 28 := ⟨by decide +kernel, rfl⟩
theorem d_C_as_28 : cd_D_astore b_C_as 28 3 29 := Or.inr ⟨3, ⟨by decide +kernel, rfl⟩, rfl⟩
theorem d_C_as_29 : cd_D_aload b_C_as 29 3 30 := Or.inr ⟨3, ⟨by decide +kernel, rfl⟩, rfl⟩
theorem d_C_as_30 : cd_D_iload b_C_as 30 2 31 := Or.inr ⟨2, ⟨by decide +kernel, rfl⟩, rfl⟩
theorem d_C_as_31 : cd_D 3 b_C_as 31 (.invokevirtual 116) 34 := ⟨by decide +kernel, rfl⟩
theorem d_C_as_34 : cd_D_if_eq b_C_as 34 44 37 := ⟨10, by decide +kernel, by decide, rfl⟩
theorem d_C_as_37 : cd_D_aload b_C_as 37 3 38 := Or.inr ⟨3, ⟨by decide +kernel, rfl⟩, rfl⟩
theorem d_C_as_38 : cd_D 3 b_C_as 38 (.getfield 87) 41 := ⟨by decide +kernel, rfl⟩
theorem d_C_as_41 : cd_D_goto b_C_as 41 46 := ⟨5, by decide +kernel, by decide⟩
theorem d_C_as_44 : cd_D 2 b_C_as 44 (.ldc 119) 46 := ⟨by decide +kernel, rfl⟩
theorem d_C_as_46 : cd_D 1 b_C_as 46 .ireturn 47 := ⟨by decide +kernel, rfl⟩
theorem c_C_as {l : Launch} {w : cd_WT} {S : cd_Sp} {I : cd_Mem} (hC : cd_CD w S) {mm tc : Nat} {N : Nat → Int32} (hG : cd_HG w S I (w.1 + 1) N mm tc) (a k : Int32) : cd_C l w m_C_as 1 0 0 [.ref w.1, .int a, .int k] S I (cd_Pn w S I (sp_as N a k, N) tc) := by
  refine cd_intro (by decide) (by simp [Value.category]) (Nat.le_of_ble_eq_true rfl) ?_
  intro X hO hE
  show cd_J w X 0 0 S I 0 [some (.ref w.1), some (.int a), some (.int k), none] []
  obtain ⟨hH, hhd, hV, hIV, hR⟩ := id hG
  have hmm := hV.2.1
  have hm1 : I (w.1 + 1) 3 = nI mm := (hR.at 1 (by omega) rfl rfl).trans hV.1
  refine r_aload hO d_C_as_0 rfl ?_
  refine r_iload hO d_C_as_1 rfl ?_
  refine r_cV1fi hO hE (c_C_isAsking hC hG _) mf_C_isAsking lk_C_71 hC.1 rfl (by decide) rfl (Nat.le_of_ble_eq_true rfl) d_C_as_2 (Nat.zero_le _) (Nat.zero_le _) ?_
  refine r_if_eqB hO d_C_as_5 (fun c_5 => ?_) (fun c_5 => ?_)
  · refine r_ldc hO k_C_62 d_C_as_16 ?_
    refine r_iret hO hE (Nat.zero_le _) (Nat.zero_le _) d_C_as_18 ?_
    exact cd_pn (sp := (sp_as N _ k, N)) (by unfold sp_as; rw [if_neg c_5]) hG (cd_ofh.rf _ _ _)
  · obtain ⟨i, hi, rfl⟩ := cd_isA_ex hV.1 hV.2.1 c_5
    obtain ⟨kd, hk5, hkd⟩ := (hIV.1 i hi).1
    have ek : I (w.1 + 1 + 6 + i) 0 = nI kd := (hR.ask hi 0 (by decide)).trans hkd
    refine r_iload hO d_C_as_8 rfl ?_
    refine r_k hO d_C_as_9 ?_
    refine r_cS2fi hO hE (c_C_isWithin _ _) mf_C_isWithin lk_C_58 (by decide) rfl (Nat.le_of_ble_eq_true rfl) d_C_as_10 (Nat.zero_le _) (Nat.zero_le _) ?_
    refine r_if_neB hO d_C_as_13 (fun c_13 => ?_) (fun c_13 => ?_)
    · refine r_aload hO d_C_as_19 rfl ?_
      refine r_getR hO f_C_10 rfl hC.1 hC.2.1 d_C_as_20 ?_
      refine r_getR hO f_C_75 rfl hH.2.1 hH.2.2.2.2.1.1 d_C_as_23 ?_
      refine r_iload hO d_C_as_26 rfl ?_
      refine r_aald (t := 4) hO hH.2.2.2.2.1.2 (by decide) (by decide) (by omega) (by decide) (hH.2.2.2.2.2.2.2 _ (by omega)).1 d_C_as_27 ?_
      refine r_sA3 hO d_C_as_28 rfl ?_
      refine r_aload hO d_C_as_29 rfl ?_
      refine r_iload hO d_C_as_30 rfl ?_
      refine r_cV1fi hO hE (c_A_isOf (hH.2.2.2.2.2.2.2 _ (by omega)).2 (Nat.le_trans hH.1 (by omega)) kd ek hk5 _) mf_A_isOf lk_C_116 (hH.2.2.2.2.2.2.2 _ (by omega)).2 rfl (by decide) rfl (Nat.le_of_ble_eq_true rfl) d_C_as_31 (Nat.zero_le _) (Nat.zero_le _) ?_
      refine r_if_eqB hO d_C_as_34 (fun c_34 => ?_) (fun c_34 => ?_)
      · refine r_ldc hO k_C_119 d_C_as_44 ?_
        refine r_iret hO hE (Nat.zero_le _) (Nat.zero_le _) d_C_as_46 ?_
        rw [hR.ask hi 0 (by decide)] at c_34
        exact cd_pn (sp := (sp_as N (nI i) k, N)) (by unfold sp_as; rw [if_pos c_5, if_pos c_13, cd_tn_nI (show _ < 2 ^ 31 by omega), if_neg c_34]) hG (cd_ofh.rf _ _ _)
      · refine r_aload hO d_C_as_37 rfl ?_
        refine r_getI hO f_C_87 rfl (hH.2.2.2.2.2.2.2 _ (by omega)).2 d_C_as_38 ?_
        rw [hR.ask hi 2 (by decide)]
        refine r_goto hO d_C_as_41 ?_
        refine r_iret hO hE (Nat.zero_le _) (Nat.zero_le _) d_C_as_46 ?_
        rw [hR.ask hi 0 (by decide)] at c_34
        exact cd_pn (sp := (sp_as N (nI i) k, N)) (by unfold sp_as; rw [if_pos c_5, if_pos c_13, cd_tn_nI (show _ < 2 ^ 31 by omega), if_pos c_34]) hG (cd_ofh.rf _ _ _)
    · refine r_ldc hO k_C_62 d_C_as_16 ?_
      refine r_iret hO hE (Nat.zero_le _) (Nat.zero_le _) d_C_as_18 ?_
      exact cd_pn (sp := (sp_as N _ k, N)) (by unfold sp_as; rw [if_pos c_5, if_neg c_13]) hG (cd_ofh.rf _ _ _)
