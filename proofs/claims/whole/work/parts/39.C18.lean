section CDAN
variable {l : Launch} {w : cd_WT} {X : cd_XT} {cc : ByteArray} {own : String} {d mc ms : Nat} {k n : Nat} {S : cd_Sp} {I : cd_Mem} {pc pc' tgt : Nat} {lv : List (Option Value)} {st : List Value}
theorem r_sAN1 (hO : cd_O w X cc own d mc ms l) {a0 a1 : Option Value} {t : List (Option Value)} (hd : cd_D_astore cc pc 1 pc') (hn : cd_nl a0 = true) (kk : cd_J w X k n S I pc' (a0 :: some .null :: t) st) : cd_J w X k n S I pc (a0 :: a1 :: t) (.null :: st) :=
  r_storeAN hO hd (cd_st1_set (by simp) (fun j u hj hu => by
    have hj2 : j = 0 := by omega
    subst hj2
    have : a0 = some u := Option.some.inj hu
    subst this
    exact eq_of_beq hn)) kk
theorem r_sAN3 (hO : cd_O w X cc own d mc ms l) {a0 a1 a2 a3 : Option Value} {t : List (Option Value)} (hd : cd_D_astore cc pc 3 pc') (hn : cd_nl a2 = true) (kk : cd_J w X k n S I pc' (a0 :: a1 :: a2 :: some .null :: t) st) : cd_J w X k n S I pc (a0 :: a1 :: a2 :: a3 :: t) (.null :: st) :=
  r_storeAN hO hd (cd_st1_set (by simp) (fun j u hj hu => by
    have hj2 : j = 2 := by omega
    subst hj2
    have : a2 = some u := Option.some.inj hu
    subst this
    exact eq_of_beq hn)) kk
end CDAN
theorem cd_isT_lt {x a : Int32} {tc : Nat} (h1 : x = nI tc) (hm : tc ≤ 14) : (nI 0 ≤ a ∧ a ≤ x - nI 1) ↔ ¬ a < 0 ∧ ¬ nI tc ≤ a := by
  subst h1
  have e0 : (nI 0).toInt = 0 := rfl
  have e00 : (0 : Int32).toInt = 0 := rfl
  have e1 : (nI tc - nI 1).toInt = (tc : Int) - 1 := pk_sub_toInt (by omega) (by omega)
  have e2 : (nI tc).toInt = tc := nI_toInt (by omega)
  simp only [Int32.lt_iff_toInt_lt, Int32.le_iff_toInt_le]
  omega
theorem cd_dv_ex (N : Nat → Int32) : ∃ q, q < 2 ^ 24 ∧ cd_dv N = nI q := by
  unfold cd_dv
  generalize cd_z (N 0) = z
  refine ⟨z.toBitVec.toNat / 2 ^ 8, by have := z.toBitVec.isLt; omega, ?_⟩
  apply Int32.toBitVec_inj.mp
  apply BitVec.eq_of_toNat_eq
  rw [pk_tn (by have := z.toBitVec.isLt; omega)]
  exact pk_ushr z (nI 8) 8 (by decide)
theorem cd_dv_rem (N : Nat → Int32) (d : Nat) (h0 : 0 < d) (hd : d < 2 ^ 31) : ∃ q, q ≤ d - 1 ∧ cd_rem (cd_dv N) (nI d) = nI q := by
  obtain ⟨q, hq, e⟩ := cd_dv_ex N
  refine ⟨q % d, by have := Nat.mod_lt q h0; omega, ?_⟩
  unfold cd_rem
  rw [e, pk_rem (by omega) h0 hd]
theorem d_C_why_0 : cd_D_iload b_C_why 0 1 1 := Or.inr ⟨1, ⟨by decide +kernel, rfl⟩, rfl⟩
theorem d_C_why_1 : cd_Dk b_C_why 1 (nI 2) 2 := Or.inl ⟨2, ⟨by decide +kernel, rfl⟩, by decide +kernel⟩
theorem d_C_why_2 : cd_D 3 b_C_why 2 (.invokestatic 58) 5 := ⟨by decide +kernel, rfl⟩
theorem d_C_why_5 : cd_D_if_eq b_C_why 5 20 8 := ⟨15, by decide +kernel, by decide, rfl⟩
theorem d_C_why_8 : cd_D_aload b_C_why 8 0 9 := Or.inr ⟨0, ⟨by decide +kernel, rfl⟩, rfl⟩
theorem d_C_why_9 : cd_D 3 b_C_why 9 (.getfield 10) 12 := ⟨by decide +kernel, rfl⟩
theorem d_C_why_12 : cd_D 3 b_C_why 12 (.getfield 232) 15 := ⟨by decide +kernel, rfl⟩
theorem d_C_why_15 : cd_D_iload b_C_why 15 1 16 := Or.inr ⟨1, ⟨by decide +kernel, rfl⟩, rfl⟩
theorem d_C_why_16 : cd_D 1 b_C_why 16 .iaload 17 := ⟨by decide +kernel, rfl⟩
theorem d_C_why_17 : cd_D_goto b_C_why 17 22 := ⟨5, by decide +kernel, by decide⟩
theorem d_C_why_20 : cd_D 2 b_C_why 20 (.ldc 62) 22 := ⟨by decide +kernel, rfl⟩
theorem d_C_why_22 : cd_D 1 b_C_why 22 .ireturn 23 := ⟨by decide +kernel, rfl⟩
theorem c_C_why {l : Launch} {w : cd_WT} {S : cd_Sp} {I : cd_Mem} (hC : cd_CD w S) {mm tc : Nat} {N : Nat → Int32} (hG : cd_HG w S I (w.1 + 1) N mm tc) (k : Int32) : cd_C l w m_C_why 1 0 0 [.ref w.1, .int k] S I (cd_Pn w S I (sp_why N tc k, N) tc) := by
  refine cd_intro (by decide) (by simp [Value.category]) (Nat.le_of_ble_eq_true rfl) ?_
  intro X hO hE
  show cd_J w X 0 0 S I 0 [some (.ref w.1), some (.int k)] []
  obtain ⟨hH, hhd, hV, hIV, hR⟩ := id hG
  have hmm := hV.2.1
  have hm1 : I (w.1 + 1) 3 = nI mm := (hR.at 1 (by omega) rfl rfl).trans hV.1
  refine r_iload hO d_C_why_0 rfl ?_
  refine r_k hO d_C_why_1 ?_
  refine r_cS2fi hO hE (c_C_isWithin _ _) mf_C_isWithin lk_C_58 (by decide) rfl (Nat.le_of_ble_eq_true rfl) d_C_why_2 (Nat.zero_le _) (Nat.zero_le _) ?_
  refine r_if_eqB hO d_C_why_5 (fun c_5 => ?_) (fun c_5 => ?_)
  · refine r_ldc hO k_C_62 d_C_why_20 ?_
    refine r_iret hO hE (Nat.zero_le _) (Nat.zero_le _) d_C_why_22 ?_
    exact cd_pn (sp := (sp_why N tc _, N)) (by unfold sp_why; rw [if_neg c_5]) hG (cd_ofh.rf _ _ _)
  · obtain ⟨q, -, hq, rfl⟩ := cd_in_ex c_5 (by decide) (by decide)
    refine r_aload hO d_C_why_8 rfl ?_
    refine r_getR hO f_C_10 rfl hC.1 hC.2.1 d_C_why_9 ?_
    refine r_getR hO f_C_232 rfl hH.2.1 hH.2.2.2.2.2.2.1.1 d_C_why_12 ?_
    refine r_iload hO d_C_why_15 rfl ?_
    refine r_iald hO hH.2.2.2.2.2.2.1.2 (by omega) (by decide) d_C_why_16 ?_
    rw [hR.2.2 q (by omega)]
    refine r_goto hO d_C_why_17 ?_
    refine r_iret hO hE (Nat.zero_le _) (Nat.zero_le _) d_C_why_22 ?_
    exact cd_pn (sp := (sp_why N tc _, N)) (by unfold sp_why cd_cn; rw [if_pos c_5]) hG (cd_ofh.rf _ _ _)
theorem d_C_textTold_0 : cd_D_iload b_C_textTold 0 1 1 := Or.inr ⟨1, ⟨by decide +kernel, rfl⟩, rfl⟩
theorem d_C_textTold_1 : cd_D_if_lt b_C_textTold 1 24 4 := ⟨23, by decide +kernel, by decide, rfl⟩
theorem d_C_textTold_4 : cd_D_iload b_C_textTold 4 1 5 := Or.inr ⟨1, ⟨by decide +kernel, rfl⟩, rfl⟩
theorem d_C_textTold_5 : cd_D_aload b_C_textTold 5 0 6 := Or.inr ⟨0, ⟨by decide +kernel, rfl⟩, rfl⟩
theorem d_C_textTold_6 : cd_D 3 b_C_textTold 6 (.getfield 10) 9 := ⟨by decide +kernel, rfl⟩
theorem d_C_textTold_9 : cd_D 3 b_C_textTold 9 (.getfield 215) 12 := ⟨by decide +kernel, rfl⟩
theorem d_C_textTold_12 : cd_D_icmp_ge b_C_textTold 12 24 15 := ⟨12, by decide +kernel, by decide, rfl⟩
theorem d_C_textTold_15 : cd_D_iload b_C_textTold 15 2 16 := Or.inr ⟨2, ⟨by decide +kernel, rfl⟩, rfl⟩
theorem d_C_textTold_16 : cd_D_if_lt b_C_textTold 16 24 19 := ⟨8, by decide +kernel, by decide, rfl⟩
theorem d_C_textTold_19 : cd_D_iload b_C_textTold 19 2 20 := Or.inr ⟨2, ⟨by decide +kernel, rfl⟩, rfl⟩
theorem d_C_textTold_20 : cd_Dk b_C_textTold 20 (nI 1) 21 := Or.inl ⟨1, ⟨by decide +kernel, rfl⟩, by decide +kernel⟩
theorem d_C_textTold_21 : cd_D_icmp_le b_C_textTold 21 27 24 := ⟨6, by decide +kernel, by decide, rfl⟩
theorem d_C_textTold_24 : cd_D 2 b_C_textTold 24 (.ldc 62) 26 := ⟨by decide +kernel, rfl⟩
theorem d_C_textTold_26 : cd_D 1 b_C_textTold 26 .ireturn 27 := ⟨by decide +kernel, rfl⟩
theorem d_C_textTold_27 : cd_D_aload b_C_textTold 27 0 28 := Or.inr ⟨0, ⟨by decide +kernel, rfl⟩, rfl⟩
theorem d_C_textTold_28 : cd_D 3 b_C_textTold 28 (.getfield 10) 31 := ⟨by decide +kernel, rfl⟩
theorem d_C_textTold_31 : cd_D 3 b_C_textTold 31 (.getfield 222) 34 := ⟨by decide +kernel, rfl⟩
theorem d_C_textTold_34 : cd_D_iload b_C_textTold 34 1 35 := Or.inr ⟨1, ⟨by decide +kernel, rfl⟩, rfl⟩
theorem d_C_textTold_35 : cd_D 1 b_C_textTold 35 .aaload 36 := ⟨by decide +kernel, rfl⟩
theorem d_C_textTold_36 : cd_D_astore b_C_textTold 36 3 37 := Or.inr ⟨3, ⟨by decide +kernel, rfl⟩, rfl⟩
theorem d_C_textTold_37 : cd_D_iload b_C_textTold 37 2 38 := Or.inr ⟨2, ⟨by decide +kernel, rfl⟩, rfl⟩
theorem d_C_textTold_38 : cd_D_if_ne b_C_textTold 38 48 41 := ⟨10, by decide +kernel, by decide, rfl⟩
theorem d_C_textTold_41 : cd_D_aload b_C_textTold 41 3 42 := Or.inr ⟨3, ⟨by decide +kernel, rfl⟩, rfl⟩
theorem d_C_textTold_42 : cd_D 3 b_C_textTold 42 (.getfield 226) 45 := ⟨by decide +kernel, rfl⟩
theorem d_C_textTold_45 : cd_D_goto b_C_textTold 45 52 := ⟨7, by decide +kernel, by decide⟩
theorem d_C_textTold_48 : cd_D_aload b_C_textTold 48 3 49 := Or.inr ⟨3, ⟨by decide +kernel, rfl⟩, rfl⟩
theorem d_C_textTold_49 : cd_D 3 b_C_textTold 49 (.getfield 229) 52 := ⟨by decide +kernel, rfl⟩
theorem d_C_textTold_52 : cd_D 1 b_C_textTold 52 .ireturn 53 := ⟨by decide +kernel, rfl⟩
theorem c_C_textTold {l : Launch} {w : cd_WT} {S : cd_Sp} {I : cd_Mem} (hC : cd_CD w S) {mm tc : Nat} {N : Nat → Int32} (hG : cd_HG w S I (w.1 + 1) N mm tc) (t z : Int32) : cd_C l w m_C_textTold 0 0 0 [.ref w.1, .int t, .int z] S I (cd_Pn w S I (sp_textTold N t z, N) tc) := by
  refine cd_intro (by decide) (by simp [Value.category]) (Nat.le_of_ble_eq_true rfl) ?_
  intro X hO hE
  show cd_J w X 0 0 S I 0 [some (.ref w.1), some (.int t), some (.int z), none] []
  obtain ⟨hH, hhd, hV, hIV, hR⟩ := id hG
  have hmm := hV.2.1
  have hm1 : I (w.1 + 1) 3 = nI mm := (hR.at 1 (by omega) rfl rfl).trans hV.1
  have htc := hV.2.2.2.1
  have h7 : I (w.1 + 1) 7 = nI tc := (hR.at 15 (by omega) rfl rfl).trans hV.2.2.1
  refine r_iload hO d_C_textTold_0 rfl ?_
  refine r_if_lt hO d_C_textTold_1 (fun c_1 => ?_) (fun c_1 => ?_)
  · refine r_ldc hO k_C_62 d_C_textTold_24 ?_
    refine r_iret hO hE (Nat.zero_le _) (Nat.zero_le _) d_C_textTold_26 ?_
    exact cd_pn (sp := (sp_textTold N t z, N)) (by unfold sp_textTold; rw [if_neg (fun q => ((cd_isT_lt hV.2.2.1 hV.2.2.2.1).mp q).1 c_1)]) hG (cd_ofh.rf _ _ _)
  · refine r_iload hO d_C_textTold_4 rfl ?_
    refine r_aload hO d_C_textTold_5 rfl ?_
    refine r_getR hO f_C_10 rfl hC.1 hC.2.1 d_C_textTold_6 ?_
    refine r_getI hO f_C_215 rfl hH.2.1 d_C_textTold_9 ?_
    rw [h7]
    refine r_icmp_ge hO d_C_textTold_12 (fun c_12 => ?_) (fun c_12 => ?_)
    · refine r_ldc hO k_C_62 d_C_textTold_24 ?_
      refine r_iret hO hE (Nat.zero_le _) (Nat.zero_le _) d_C_textTold_26 ?_
      exact cd_pn (sp := (sp_textTold N t z, N)) (by unfold sp_textTold; rw [if_neg (fun q => ((cd_isT_lt hV.2.2.1 hV.2.2.2.1).mp q).2 c_12)]) hG (cd_ofh.rf _ _ _)
    · refine r_iload hO d_C_textTold_15 rfl ?_
      refine r_if_lt hO d_C_textTold_16 (fun c_16 => ?_) (fun c_16 => ?_)
      · refine r_ldc hO k_C_62 d_C_textTold_24 ?_
        refine r_iret hO hE (Nat.zero_le _) (Nat.zero_le _) d_C_textTold_26 ?_
        exact cd_pn (sp := (sp_textTold N t z, N)) (by unfold sp_textTold; rw [if_neg (c := nI 0 ≤ z ∧ z ≤ nI 1) (by rintro ⟨q1, q2⟩; have e0 : (nI 0).toInt = 0 := rfl; have e1 : (0 : Int32).toInt = 0 := rfl; simp only [Int32.lt_iff_toInt_lt, Int32.le_iff_toInt_le] at *; omega), ite_self]) hG (cd_ofh.rf _ _ _)
      · refine r_iload hO d_C_textTold_19 rfl ?_
        refine r_k hO d_C_textTold_20 ?_
        refine r_icmp_le hO d_C_textTold_21 (fun c_21 => ?_) (fun c_21 => ?_)
        · have htt := (cd_isT_lt hV.2.2.1 hV.2.2.2.1).mpr ⟨c_1, c_12⟩
          obtain ⟨j, hj, rfl⟩ := cd_lt_ex c_1 (show t < nI tc from (by simp only [Int32.lt_iff_toInt_lt, Int32.le_iff_toInt_le] at *; omega)) (by omega)
          obtain ⟨q, hq, nq, vq, hXq, -, -, -, ev, ek, el, -⟩ := hR.2.1 j hj
          refine r_aload hO d_C_textTold_27 rfl ?_
          refine r_getR hO f_C_10 rfl hC.1 hC.2.1 d_C_textTold_28 ?_
          refine r_getR hO f_C_222 rfl hH.2.1 hH.2.2.2.2.2.1.1 d_C_textTold_31 ?_
          refine r_iload hO d_C_textTold_34 rfl ?_
          refine r_aald (t := 5) hO hH.2.2.2.2.2.1.2 (by decide) (by decide) (by omega) (by decide) hq d_C_textTold_35 ?_
          refine r_sA3 hO d_C_textTold_36 rfl ?_
          refine r_iload hO d_C_textTold_37 rfl ?_
          refine r_if_ne hO d_C_textTold_38 (fun c_38 => ?_) (fun c_38 => ?_)
          · refine r_aload hO d_C_textTold_48 rfl ?_
            refine r_getI hO f_C_229 rfl hXq.1 d_C_textTold_49 ?_
            rw [el, ← ev]
            refine r_iret hO hE (Nat.zero_le _) (Nat.zero_le _) d_C_textTold_52 ?_
            exact cd_pn (sp := (sp_textTold N (nI j) z, N)) (by unfold sp_textTold; rw [if_pos htt, if_pos ⟨cd_le0 c_16, c_21⟩, if_neg c_38, cd_tn_nI (show _ < 2 ^ 31 by omega)]) hG (cd_ofh.rf _ _ _)
          · refine r_aload hO d_C_textTold_41 rfl ?_
            refine r_getI hO f_C_226 rfl hXq.1 d_C_textTold_42 ?_
            rw [ek]
            refine r_goto hO d_C_textTold_45 ?_
            refine r_iret hO hE (Nat.zero_le _) (Nat.zero_le _) d_C_textTold_52 ?_
            exact cd_pn (sp := (sp_textTold N (nI j) z, N)) (by unfold sp_textTold; rw [if_pos htt, if_pos ⟨cd_le0 c_16, c_21⟩, if_pos c_38, cd_tn_nI (show _ < 2 ^ 31 by omega)]) hG (cd_ofh.rf _ _ _)
        · refine r_ldc hO k_C_62 d_C_textTold_24 ?_
          refine r_iret hO hE (Nat.zero_le _) (Nat.zero_le _) d_C_textTold_26 ?_
          exact cd_pn (sp := (sp_textTold N t z, N)) (by unfold sp_textTold; rw [if_neg (c := nI 0 ≤ z ∧ z ≤ nI 1) (by rintro ⟨q1, q2⟩; have e0 : (nI 0).toInt = 0 := rfl; have e1 : (0 : Int32).toInt = 0 := rfl; simp only [Int32.lt_iff_toInt_lt, Int32.le_iff_toInt_le] at *; omega), ite_self]) hG (cd_ofh.rf _ _ _)
theorem d_C_fee_0 : cd_D_aload b_C_fee 0 0 1 := Or.inr ⟨0, ⟨by decide +kernel, rfl⟩, rfl⟩
theorem d_C_fee_1 : cd_D 3 b_C_fee 1 (.getfield 10) 4 := ⟨by decide +kernel, rfl⟩
theorem d_C_fee_4 : cd_Dk b_C_fee 4 (nI 1) 5 := Or.inl ⟨1, ⟨by decide +kernel, rfl⟩, by decide +kernel⟩
theorem d_C_fee_5 : cd_D 3 b_C_fee 5 (.invokevirtual 192) 8 := ⟨by decide +kernel, rfl⟩
theorem d_C_fee_8 : cd_D_astore b_C_fee 8 1 9 := Or.inr ⟨1, ⟨by decide +kernel, rfl⟩, rfl⟩
theorem d_C_fee_9 : cd_D_aload b_C_fee 9 1 10 := Or.inr ⟨1, ⟨by decide +kernel, rfl⟩, rfl⟩
theorem d_C_fee_10 : cd_D_ifnn b_C_fee 10 23 13 := ⟨13, by decide +kernel, by decide, rfl⟩
theorem d_C_fee_13 : cd_D_aload b_C_fee 13 0 14 := Or.inr ⟨0, ⟨by decide +kernel, rfl⟩, rfl⟩
theorem d_C_fee_14 : cd_D 3 b_C_fee 14 (.getfield 10) 17 := ⟨by decide +kernel, rfl⟩
theorem d_C_fee_17 : cd_D 3 b_C_fee 17 (.getfield 142) 20 := ⟨by decide +kernel, rfl⟩
theorem d_C_fee_20 : cd_Dk b_C_fee 20 (nI 1) 21 := Or.inl ⟨1, ⟨by decide +kernel, rfl⟩, by decide +kernel⟩
theorem d_C_fee_21 : cd_D 1 b_C_fee 21 .iaload 22 := ⟨by decide +kernel, rfl⟩
theorem d_C_fee_22 : cd_D 1 b_C_fee 22 .ireturn 23 := ⟨by decide +kernel, rfl⟩
theorem d_C_fee_23 : cd_D_aload b_C_fee 23 1 24 := Or.inr ⟨1, ⟨by decide +kernel, rfl⟩, rfl⟩
theorem d_C_fee_24 : cd_D_aload b_C_fee 24 0 25 := Or.inr ⟨0, ⟨by decide +kernel, rfl⟩, rfl⟩
theorem d_C_fee_25 : cd_D 3 b_C_fee 25 (.getfield 10) 28 := ⟨by decide +kernel, rfl⟩
theorem d_C_fee_28 : cd_D 3 b_C_fee 28 (.getfield 142) 31 := ⟨by decide +kernel, rfl⟩
theorem d_C_fee_31 : cd_Dk b_C_fee 31 (nI 0) 32 := Or.inl ⟨0, ⟨by decide +kernel, rfl⟩, by decide +kernel⟩
theorem d_C_fee_32 : cd_D 1 b_C_fee 32 .iaload 33 := ⟨by decide +kernel, rfl⟩
theorem d_C_fee_33 : cd_D_aload b_C_fee 33 0 34 := Or.inr ⟨0, ⟨by decide +kernel, rfl⟩, rfl⟩
theorem d_C_fee_34 : cd_D 3 b_C_fee 34 (.getfield 10) 37 := ⟨by decide +kernel, rfl⟩
theorem d_C_fee_37 : cd_D 3 b_C_fee 37 (.getfield 142) 40 := ⟨by decide +kernel, rfl⟩
theorem d_C_fee_40 : cd_Dk b_C_fee 40 (nI 1) 41 := Or.inl ⟨1, ⟨by decide +kernel, rfl⟩, by decide +kernel⟩
theorem d_C_fee_41 : cd_D 1 b_C_fee 41 .iaload 42 := ⟨by decide +kernel, rfl⟩
theorem d_C_fee_42 : cd_Dk b_C_fee 42 (nI 0) 43 := Or.inl ⟨0, ⟨by decide +kernel, rfl⟩, by decide +kernel⟩
theorem d_C_fee_43 : cd_D 3 b_C_fee 43 (.invokevirtual 196) 46 := ⟨by decide +kernel, rfl⟩
theorem d_C_fee_46 : cd_D 1 b_C_fee 46 .ireturn 47 := ⟨by decide +kernel, rfl⟩
theorem c_C_fee {l : Launch} {w : cd_WT} {S : cd_Sp} {I : cd_Mem} (hC : cd_CD w S) {mm tc : Nat} {N : Nat → Int32} (hG : cd_HG w S I (w.1 + 1) N mm tc)  : cd_C l w m_C_fee 2 0 0 [.ref w.1] S I (cd_Pn w S I (sp_fee N tc, N) tc) := by
  refine cd_intro (by decide) (by simp [Value.category]) (Nat.le_of_ble_eq_true rfl) ?_
  intro X hO hE
  show cd_J w X 0 0 S I 0 [some (.ref w.1), none] []
  obtain ⟨hH, hhd, hV, hIV, hR⟩ := id hG
  have hmm := hV.2.1
  have hm1 : I (w.1 + 1) 3 = nI mm := (hR.at 1 (by omega) rfl rfl).trans hV.1
  have htc := hV.2.2.2.1
  by_cases hc : 0 ≤ cd_cnt N (nI 1) tc
  · obtain ⟨t, ht, hct, hky⟩ := cd_cnt_pos hc
    obtain ⟨q, hq, hT⟩ := hR.2.1 t ht
    obtain ⟨n, v, hX, hn9, hv9, hn, hv, -, -, htr, hsg, hlv⟩ := hT
    obtain ⟨n', hn', -, hn'9, hwf, hd1⟩ := hV.2.2.2.2.at ht (show 1 ≤ 2 by decide) hky
    have hnn : n' = n := (nI_eq (by omega) (by omega)).mp (hn'.symm.trans hn)
    subst hnn
    refine r_aload hO d_C_fee_0 rfl ?_
    refine r_getR hO f_C_10 rfl hC.1 hC.2.1 d_C_fee_1 ?_
    refine r_k hO d_C_fee_4 ?_
    refine r_cV1fr hO hE (c_H_lawOf_r hG (by decide) ht hct hq) mf_H_lawOf lk_C_192 hH.2.1 rfl (by decide) rfl (Nat.le_of_ble_eq_true rfl) d_C_fee_5 (Nat.zero_le _) (Nat.zero_le _) ?_
    refine r_sA1 hO d_C_fee_8 rfl ?_
    refine r_aload hO d_C_fee_9 rfl ?_
    refine r_ifnn hO d_C_fee_10 ?_
    refine r_aload hO d_C_fee_23 rfl ?_
    refine r_aload hO d_C_fee_24 rfl ?_
    refine r_getR hO f_C_10 rfl hC.1 hC.2.1 d_C_fee_25 ?_
    refine r_getR hO f_C_142 rfl hH.2.1 hH.2.2.2.1.1 d_C_fee_28 ?_
    refine r_k hO d_C_fee_31 ?_
    refine r_iald hO hH.2.2.2.1.2 (by omega) (by decide) d_C_fee_32 ?_
    refine r_tops (hR.at 10 (by omega) rfl rfl) ?_
    refine r_aload hO d_C_fee_33 rfl ?_
    refine r_getR hO f_C_10 rfl hC.1 hC.2.1 d_C_fee_34 ?_
    refine r_getR hO f_C_142 rfl hH.2.1 hH.2.2.2.1.1 d_C_fee_37 ?_
    refine r_k hO d_C_fee_40 ?_
    refine r_iald hO hH.2.2.2.1.2 (by omega) (by decide) d_C_fee_41 ?_
    refine r_tops (hR.at 11 (by omega) rfl rfl) ?_
    refine r_k hO d_C_fee_42 ?_
    refine r_tops nI_0 ?_
    refine r_cV3i hO hE (c_X_gives hX hn9 hv9 (show cd_nb 1 ≤ 3 by decide) _ htr hwf hsg hlv (by omega) _ _ _) mf_X_gives lk_C_196 hX.1 rfl (by decide) rfl (Nat.le_of_ble_eq_true rfl) d_C_fee_43 (Nat.zero_le _) (Nat.zero_le _) ?_
    rintro x I2 ⟨hx, ho⟩
    have hG2 : cd_HG w S I2 (w.1 + 1) N mm tc := ⟨hH, hhd, hV, hIV, hR.cg hmm (fun b h1 h2 => ho b (by simp only [List.mem_singleton]; omega)) (fun q' => ⟨ho _ (by simp only [List.mem_singleton]; omega), ho _ (by simp only [List.mem_singleton]; omega)⟩)⟩
    have ho2 : cd_ofh w (w.1 + 1) I I2 := fun b hb => ho b (by simp only [List.mem_singleton]; exact fun e => hb (Or.inr (by omega)))
    refine r_iret hO hE (Nat.zero_le _) (Nat.zero_le _) d_C_fee_46 ?_
    exact cd_pn (sp := (sp_fee N tc, N)) (by unfold sp_fee; rw [if_pos hc, hct, cd_tn_nI (show _ < 2 ^ 31 by omega), cd_wo_eq hn hn9, hx]) hG2 ho2
  · skip
    refine r_aload hO d_C_fee_0 rfl ?_
    refine r_getR hO f_C_10 rfl hC.1 hC.2.1 d_C_fee_1 ?_
    refine r_k hO d_C_fee_4 ?_
    refine r_cV1fr hO hE (c_H_lawOf_n hG (by decide) hc) mf_H_lawOf lk_C_192 hH.2.1 rfl (by decide) rfl (Nat.le_of_ble_eq_true rfl) d_C_fee_5 (Nat.zero_le _) (Nat.zero_le _) ?_
    refine r_sAN1 hO d_C_fee_8 rfl ?_
    refine r_aloadN hO d_C_fee_9 rfl ?_
    refine r_ifnnN hO d_C_fee_10 ?_
    refine r_aload hO d_C_fee_13 rfl ?_
    refine r_getR hO f_C_10 rfl hC.1 hC.2.1 d_C_fee_14 ?_
    refine r_getR hO f_C_142 rfl hH.2.1 hH.2.2.2.1.1 d_C_fee_17 ?_
    refine r_k hO d_C_fee_20 ?_
    refine r_iald hO hH.2.2.2.1.2 (by omega) (by decide) d_C_fee_21 ?_
    refine r_tops (hR.at 11 (by omega) rfl rfl) ?_
    refine r_iret hO hE (Nat.zero_le _) (Nat.zero_le _) d_C_fee_22 ?_
    exact cd_pn (sp := (sp_fee N tc, N)) (by unfold sp_fee; rw [if_neg hc]) hG (cd_ofh.rf _ _ _)
theorem d_C_fine_0 : cd_D_aload b_C_fine 0 0 1 := Or.inr ⟨0, ⟨by decide +kernel, rfl⟩, rfl⟩
theorem d_C_fine_1 : cd_D_iload b_C_fine 1 1 2 := Or.inr ⟨1, ⟨by decide +kernel, rfl⟩, rfl⟩
theorem d_C_fine_2 : cd_D 3 b_C_fine 2 (.invokevirtual 71) 5 := ⟨by decide +kernel, rfl⟩
theorem d_C_fine_5 : cd_D_if_ne b_C_fine 5 11 8 := ⟨6, by decide +kernel, by decide, rfl⟩
theorem d_C_fine_8 : cd_D 2 b_C_fine 8 (.ldc 62) 10 := ⟨by decide +kernel, rfl⟩
theorem d_C_fine_10 : cd_D 1 b_C_fine 10 .ireturn 11 := ⟨by decide +kernel, rfl⟩
theorem d_C_fine_11 : cd_D_aload b_C_fine 11 0 12 := Or.inr ⟨0, ⟨by decide +kernel, rfl⟩, rfl⟩
theorem d_C_fine_12 : cd_D 3 b_C_fine 12 (.getfield 10) 15 := ⟨by decide +kernel, rfl⟩
theorem d_C_fine_15 : cd_D 3 b_C_fine 15 (.getfield 75) 18 := ⟨by decide +kernel, rfl⟩
theorem d_C_fine_18 : cd_D_iload b_C_fine 18 1 19 := Or.inr ⟨1, ⟨by decide +kernel, rfl⟩, rfl⟩
theorem d_C_fine_19 : cd_D 1 b_C_fine 19 .aaload 20 := ⟨by decide +kernel, rfl⟩
theorem d_C_fine_20 : cd_D_astore b_C_fine 20 2 21 := Or.inr ⟨2, ⟨by decide +kernel, rfl⟩, rfl⟩
theorem d_C_fine_21 : cd_D_aload b_C_fine 21 0 22 := Or.inr ⟨0, ⟨by decide +kernel, rfl⟩, rfl⟩
theorem d_C_fine_22 : cd_D 3 b_C_fine 22 (.getfield 10) 25 := ⟨by decide +kernel, rfl⟩
theorem d_C_fine_25 : cd_Dk b_C_fine 25 (nI 2) 26 := Or.inl ⟨2, ⟨by decide +kernel, rfl⟩, by decide +kernel⟩
theorem d_C_fine_26 : cd_D 3 b_C_fine 26 (.invokevirtual 192) 29 := ⟨by decide +kernel, rfl⟩
theorem d_C_fine_29 : cd_D_astore b_C_fine 29 3 30 := Or.inr ⟨3, ⟨by decide +kernel, rfl⟩, rfl⟩
theorem d_C_fine_30 : cd_D_aload b_C_fine 30 3 31 := Or.inr ⟨3, ⟨by decide +kernel, rfl⟩, rfl⟩
theorem d_C_fine_31 : cd_D_ifnn b_C_fine 31 41 34 := ⟨10, by decide +kernel, by decide, rfl⟩
theorem d_C_fine_34 : cd_D_aload b_C_fine 34 2 35 := Or.inr ⟨2, ⟨by decide +kernel, rfl⟩, rfl⟩
theorem d_C_fine_35 : cd_D 3 b_C_fine 35 (.getfield 93) 38 := ⟨by decide +kernel, rfl⟩
theorem d_C_fine_38 : cd_D_goto b_C_fine 38 54 := ⟨16, by decide +kernel, by decide⟩
theorem d_C_fine_41 : cd_D_aload b_C_fine 41 3 42 := Or.inr ⟨3, ⟨by decide +kernel, rfl⟩, rfl⟩
theorem d_C_fine_42 : cd_D_aload b_C_fine 42 2 43 := Or.inr ⟨2, ⟨by decide +kernel, rfl⟩, rfl⟩
theorem d_C_fine_43 : cd_D 3 b_C_fine 43 (.getfield 87) 46 := ⟨by decide +kernel, rfl⟩
theorem d_C_fine_46 : cd_D_aload b_C_fine 46 2 47 := Or.inr ⟨2, ⟨by decide +kernel, rfl⟩, rfl⟩
theorem d_C_fine_47 : cd_D 3 b_C_fine 47 (.getfield 93) 50 := ⟨by decide +kernel, rfl⟩
theorem d_C_fine_50 : cd_Dk b_C_fine 50 (nI 0) 51 := Or.inl ⟨0, ⟨by decide +kernel, rfl⟩, by decide +kernel⟩
theorem d_C_fine_51 : cd_D 3 b_C_fine 51 (.invokevirtual 196) 54 := ⟨by decide +kernel, rfl⟩
theorem d_C_fine_54 : cd_D 1 b_C_fine 54 .ireturn 55 := ⟨by decide +kernel, rfl⟩
theorem c_C_fine {l : Launch} {w : cd_WT} {S : cd_Sp} {I : cd_Mem} (hC : cd_CD w S) {mm tc : Nat} {N : Nat → Int32} (hG : cd_HG w S I (w.1 + 1) N mm tc) (a : Int32) : cd_C l w m_C_fine 2 0 0 [.ref w.1, .int a] S I (cd_Pn w S I (sp_fine N tc a, N) tc) := by
  refine cd_intro (by decide) (by simp [Value.category]) (Nat.le_of_ble_eq_true rfl) ?_
  intro X hO hE
  show cd_J w X 0 0 S I 0 [some (.ref w.1), some (.int a), none, none] []
  obtain ⟨hH, hhd, hV, hIV, hR⟩ := id hG
  have hmm := hV.2.1
  have hm1 : I (w.1 + 1) 3 = nI mm := (hR.at 1 (by omega) rfl rfl).trans hV.1
  have htc := hV.2.2.2.1
  refine r_aload hO d_C_fine_0 rfl ?_
  refine r_iload hO d_C_fine_1 rfl ?_
  refine r_cV1fi hO hE (c_C_isAsking hC hG _) mf_C_isAsking lk_C_71 hC.1 rfl (by decide) rfl (Nat.le_of_ble_eq_true rfl) d_C_fine_2 (Nat.zero_le _) (Nat.zero_le _) ?_
  refine r_if_neB hO d_C_fine_5 (fun c_5 => ?_) (fun c_5 => ?_)
  · obtain ⟨i, hi, rfl⟩ := cd_isA_ex hV.1 hV.2.1 c_5
    by_cases hc : 0 ≤ cd_cnt N (nI 2) tc
    · obtain ⟨t, ht, hct, hky⟩ := cd_cnt_pos hc
      obtain ⟨q, hq, hT⟩ := hR.2.1 t ht
      obtain ⟨n, v, hX, hn9, hv9, hn, hv, -, -, htr, hsg, hlv⟩ := hT
      obtain ⟨n', hn', -, hn'9, hwf, hd1⟩ := hV.2.2.2.2.at ht (show 2 ≤ 2 by decide) hky
      have hnn : n' = n := (nI_eq (by omega) (by omega)).mp (hn'.symm.trans hn)
      subst hnn
      refine r_aload hO d_C_fine_11 rfl ?_
      refine r_getR hO f_C_10 rfl hC.1 hC.2.1 d_C_fine_12 ?_
      refine r_getR hO f_C_75 rfl hH.2.1 hH.2.2.2.2.1.1 d_C_fine_15 ?_
      refine r_iload hO d_C_fine_18 rfl ?_
      refine r_aald (t := 4) hO hH.2.2.2.2.1.2 (by decide) (by decide) (by omega) (by decide) (hH.2.2.2.2.2.2.2 _ (by omega)).1 d_C_fine_19 ?_
      refine r_sA2 hO d_C_fine_20 rfl ?_
      refine r_aload hO d_C_fine_21 rfl ?_
      refine r_getR hO f_C_10 rfl hC.1 hC.2.1 d_C_fine_22 ?_
      refine r_k hO d_C_fine_25 ?_
      refine r_cV1fr hO hE (c_H_lawOf_r hG (by decide) ht hct hq) mf_H_lawOf lk_C_192 hH.2.1 rfl (by decide) rfl (Nat.le_of_ble_eq_true rfl) d_C_fine_26 (Nat.zero_le _) (Nat.zero_le _) ?_
      refine r_sA3 hO d_C_fine_29 rfl ?_
      refine r_aload hO d_C_fine_30 rfl ?_
      refine r_ifnn hO d_C_fine_31 ?_
      refine r_aload hO d_C_fine_41 rfl ?_
      refine r_aload hO d_C_fine_42 rfl ?_
      refine r_getI hO f_C_87 rfl (hH.2.2.2.2.2.2.2 _ (by omega)).2 d_C_fine_43 ?_
      rw [hR.ask hi 2 (by decide)]
      refine r_aload hO d_C_fine_46 rfl ?_
      refine r_getI hO f_C_93 rfl (hH.2.2.2.2.2.2.2 _ (by omega)).2 d_C_fine_47 ?_
      rw [hR.ask hi 4 (by decide)]
      refine r_k hO d_C_fine_50 ?_
      refine r_tops nI_0 ?_
      refine r_cV3i hO hE (c_X_gives hX hn9 hv9 (show cd_nb 2 ≤ 3 by decide) _ htr hwf hsg hlv (by omega) _ _ _) mf_X_gives lk_C_196 hX.1 rfl (by decide) rfl (Nat.le_of_ble_eq_true rfl) d_C_fine_51 (Nat.zero_le _) (Nat.zero_le _) ?_
      rintro x I2 ⟨hx, ho⟩
      have hG2 : cd_HG w S I2 (w.1 + 1) N mm tc := ⟨hH, hhd, hV, hIV, hR.cg hmm (fun b h1 h2 => ho b (by simp only [List.mem_singleton]; omega)) (fun q' => ⟨ho _ (by simp only [List.mem_singleton]; omega), ho _ (by simp only [List.mem_singleton]; omega)⟩)⟩
      have ho2 : cd_ofh w (w.1 + 1) I I2 := fun b hb => ho b (by simp only [List.mem_singleton]; exact fun e => hb (Or.inr (by omega)))
      refine r_iret hO hE (Nat.zero_le _) (Nat.zero_le _) d_C_fine_54 ?_
      exact cd_pn (sp := (sp_fine N tc (nI i), N)) (by unfold sp_fine; rw [if_pos c_5, if_pos hc, hct, cd_tn_nI (show t < 2 ^ 31 by omega), cd_tn_nI (show i < 2 ^ 31 by omega), cd_wo_eq hn hn9, hx]) hG2 ho2
    · skip
      refine r_aload hO d_C_fine_11 rfl ?_
      refine r_getR hO f_C_10 rfl hC.1 hC.2.1 d_C_fine_12 ?_
      refine r_getR hO f_C_75 rfl hH.2.1 hH.2.2.2.2.1.1 d_C_fine_15 ?_
      refine r_iload hO d_C_fine_18 rfl ?_
      refine r_aald (t := 4) hO hH.2.2.2.2.1.2 (by decide) (by decide) (by omega) (by decide) (hH.2.2.2.2.2.2.2 _ (by omega)).1 d_C_fine_19 ?_
      refine r_sA2 hO d_C_fine_20 rfl ?_
      refine r_aload hO d_C_fine_21 rfl ?_
      refine r_getR hO f_C_10 rfl hC.1 hC.2.1 d_C_fine_22 ?_
      refine r_k hO d_C_fine_25 ?_
      refine r_cV1fr hO hE (c_H_lawOf_n hG (by decide) hc) mf_H_lawOf lk_C_192 hH.2.1 rfl (by decide) rfl (Nat.le_of_ble_eq_true rfl) d_C_fine_26 (Nat.zero_le _) (Nat.zero_le _) ?_
      refine r_sAN3 hO d_C_fine_29 rfl ?_
      refine r_aloadN hO d_C_fine_30 rfl ?_
      refine r_ifnnN hO d_C_fine_31 ?_
      refine r_aload hO d_C_fine_34 rfl ?_
      refine r_getI hO f_C_93 rfl (hH.2.2.2.2.2.2.2 _ (by omega)).2 d_C_fine_35 ?_
      rw [hR.ask hi 4 (by decide)]
      refine r_goto hO d_C_fine_38 ?_
      refine r_iret hO hE (Nat.zero_le _) (Nat.zero_le _) d_C_fine_54 ?_
      exact cd_pn (sp := (sp_fine N tc (nI i), N)) (by unfold sp_fine; rw [if_pos c_5, if_neg hc, cd_tn_nI (show i < 2 ^ 31 by omega)]) hG (cd_ofh.rf _ _ _)
  · refine r_ldc hO k_C_62 d_C_fine_8 ?_
    refine r_iret hO hE (Nat.zero_le _) (Nat.zero_le _) d_C_fine_10 ?_
    exact cd_pn (sp := (sp_fine N tc a, N)) (by unfold sp_fine; rw [if_neg c_5]) hG (cd_ofh.rf _ _ _)
