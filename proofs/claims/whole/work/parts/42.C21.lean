section CDTK
variable {l : Launch} {w : cd_WT} {X : cd_XT} {cc : ByteArray} {own : String} {d mc ms : Nat} {k n : Nat} {S : cd_Sp} {I : cd_Mem} {pc pc' tgt : Nat} {lv : List (Option Value)} {st : List Value} {nL : Nat} {rt : Option FieldType} {nm : String} {post : cd_Pt}
theorem r_takes (hO : cd_O w X cc own d mc ms l) (hE : cd_E w X nL rt mc ms nm post) {index mm tc h g : Nat} {N : Nat → Int32} (hlk : Cond.methodLink own index m_H_takes.1 ∈ cd_ws) (hdd : 2 ≤ d) (hlv : lv.length = nL) (hcat : (st.map fun v => v.category).sum ≤ 8) (hd : cd_D 3 cc pc (.invokevirtual index) pc') (hk : k ≤ mc) (hn : n ≤ ms) (hG : cd_HG w S I g N mm tc) (hH : cd_HO w S h) (hhd : h + 18 ≤ w.1 + 112) (hdis : h + 18 ≤ g ∨ g + 18 ≤ h) (kk : ∀ (S' : cd_Sp) (I' : cd_Mem), cd_ss S S' h → cd_HG w S' I' h N mm tc → (∀ b, ¬ (h ≤ b ∧ b < h + 18) → I' b = I b) → cd_J w X k n S' I' pc' lv st) : cd_J w X k n S I pc lv (.ref g :: .ref h :: st) :=
  cd_callV hO hE.1 (c_H_takes hG hH hhd hdis) mf_H_takes hlk hH.2.1 rfl hdd rfl hlv rfl hcat hd ⟨hk, hn⟩ (fun r S' I' h => by
    obtain ⟨rfl, h1, h2, h3⟩ := h
    exact kk S' I' h1 h2 h3)
end CDTK
theorem cd_HG.off {w : cd_WT} {S : cd_Sp} {I I' : cd_Mem} {h mm tc : Nat} {N : Nat → Int32} (H : cd_HG w S I h N mm tc) (h1 : ∀ b, h ≤ b → b < h + 18 → I' b = I b) (h2 : ∀ b, w.1 + 112 ≤ b → I' b = I b) : cd_HG w S I' h N mm tc :=
  ⟨H.1, H.2.1, H.2.2.1, H.2.2.2.1, H.2.2.2.2.cg H.2.2.1.2.1 h1 (fun q => ⟨h2 _ (by omega), h2 _ (by omega)⟩)⟩
theorem d_C_trim_0 : cd_D_iload b_C_trim 0 1 1 := Or.inr ⟨1, ⟨by decide +kernel, rfl⟩, rfl⟩
theorem d_C_trim_1 : cd_D_if_lt b_C_trim 1 15 4 := ⟨14, by decide +kernel, by decide, rfl⟩
theorem d_C_trim_4 : cd_D_iload b_C_trim 4 1 5 := Or.inr ⟨1, ⟨by decide +kernel, rfl⟩, rfl⟩
theorem d_C_trim_5 : cd_D_aload b_C_trim 5 0 6 := Or.inr ⟨0, ⟨by decide +kernel, rfl⟩, rfl⟩
theorem d_C_trim_6 : cd_D 3 b_C_trim 6 (.getfield 29) 9 := ⟨by decide +kernel, rfl⟩
theorem d_C_trim_9 : cd_D 3 b_C_trim 9 (.getfield 202) 12 := ⟨by decide +kernel, rfl⟩
theorem d_C_trim_12 : cd_D_icmp_le b_C_trim 12 18 15 := ⟨6, by decide +kernel, by decide, rfl⟩
theorem d_C_trim_15 : cd_D 2 b_C_trim 15 (.ldc 62) 17 := ⟨by decide +kernel, rfl⟩
theorem d_C_trim_17 : cd_D 1 b_C_trim 17 .ireturn 18 := ⟨by decide +kernel, rfl⟩
theorem d_C_trim_18 : cd_D_aload b_C_trim 18 0 19 := Or.inr ⟨0, ⟨by decide +kernel, rfl⟩, rfl⟩
theorem d_C_trim_19 : cd_D 3 b_C_trim 19 (.getfield 29) 22 := ⟨by decide +kernel, rfl⟩
theorem d_C_trim_22 : cd_D_iload b_C_trim 22 1 23 := Or.inr ⟨1, ⟨by decide +kernel, rfl⟩, rfl⟩
theorem d_C_trim_23 : cd_D 3 b_C_trim 23 (.putfield 202) 26 := ⟨by decide +kernel, rfl⟩
theorem d_C_trim_26 : cd_D_iload b_C_trim 26 1 27 := Or.inr ⟨1, ⟨by decide +kernel, rfl⟩, rfl⟩
theorem d_C_trim_27 : cd_D 1 b_C_trim 27 .ireturn 28 := ⟨by decide +kernel, rfl⟩
theorem c_C_trim {l : Launch} {w : cd_WT} {S : cd_Sp} {I : cd_Mem} (hC : cd_CD w S) (n : Int32) : cd_C l w m_C_trim 0 0 0 [.ref w.1, .int n] S I (cd_Fi S (sp_trim (I (w.1 + 55) 0) n).1 (cd_set I (w.1 + 55) (upd (I (w.1 + 55)) 0 (sp_trim (I (w.1 + 55) 0) n).2))) := by
  refine cd_intro (by decide) (by simp [Value.category]) (Nat.le_of_ble_eq_true rfl) ?_
  intro X hO hE
  show cd_J w X 0 0 S I 0 [some (.ref w.1), some (.int n)] []
  refine r_iload hO d_C_trim_0 rfl ?_
  refine r_if_lt hO d_C_trim_1 (fun c_1 => ?_) (fun c_1 => ?_)
  · refine r_ldc hO k_C_62 d_C_trim_15 ?_
    refine r_iret hO hE (Nat.zero_le _) (Nat.zero_le _) d_C_trim_17 ?_
    exact ⟨by unfold sp_trim; rw [if_neg (by rintro ⟨q1, q2⟩; have e0 : (nI 0).toInt = 0 := rfl; have e1 : (0 : Int32).toInt = 0 := rfl; simp only [Int32.lt_iff_toInt_lt, Int32.le_iff_toInt_le] at *; omega)], rfl, by unfold sp_trim; rw [if_neg (by rintro ⟨q1, q2⟩; have e0 : (nI 0).toInt = 0 := rfl; have e1 : (0 : Int32).toInt = 0 := rfl; simp only [Int32.lt_iff_toInt_lt, Int32.le_iff_toInt_le] at *; omega), cd_upd_self]⟩
  · refine r_iload hO d_C_trim_4 rfl ?_
    refine r_aload hO d_C_trim_5 rfl ?_
    refine r_getR hO f_C_29 rfl hC.1 hC.2.2.2.2.1 d_C_trim_6 ?_
    refine r_getI hO f_C_202 rfl hC.2.2.2.2.2.2.2.2.2.2.2.2.1.1 d_C_trim_9 ?_
    refine r_icmp_le hO d_C_trim_12 (fun c_12 => ?_) (fun c_12 => ?_)
    · refine r_aload hO d_C_trim_18 rfl ?_
      refine r_getR hO f_C_29 rfl hC.1 hC.2.2.2.2.1 d_C_trim_19 ?_
      refine r_iload hO d_C_trim_22 rfl ?_
      refine r_putI hO f_C_202 rfl hC.2.2.2.2.2.2.2.2.2.2.2.2.1.1 (Nat.le_add_right _ _) d_C_trim_23 ?_
      refine r_iload hO d_C_trim_26 rfl ?_
      refine r_iret hO hE (Nat.zero_le _) (Nat.zero_le _) d_C_trim_27 ?_
      exact ⟨by unfold sp_trim; rw [if_pos ⟨cd_le0 c_1, c_12⟩], rfl, by unfold sp_trim; rw [if_pos ⟨cd_le0 c_1, c_12⟩]⟩
    · refine r_ldc hO k_C_62 d_C_trim_15 ?_
      refine r_iret hO hE (Nat.zero_le _) (Nat.zero_le _) d_C_trim_17 ?_
      exact ⟨by unfold sp_trim; rw [if_neg (by rintro ⟨q1, q2⟩; have e0 : (nI 0).toInt = 0 := rfl; have e1 : (0 : Int32).toInt = 0 := rfl; simp only [Int32.lt_iff_toInt_lt, Int32.le_iff_toInt_le] at *; omega)], rfl, by unfold sp_trim; rw [if_neg (by rintro ⟨q1, q2⟩; have e0 : (nI 0).toInt = 0 := rfl; have e1 : (0 : Int32).toInt = 0 := rfl; simp only [Int32.lt_iff_toInt_lt, Int32.le_iff_toInt_le] at *; omega), cd_upd_self]⟩
theorem d_C_tell_0 : cd_D_aload b_C_tell 0 0 1 := Or.inr ⟨0, ⟨by decide +kernel, rfl⟩, rfl⟩
theorem d_C_tell_1 : cd_D 3 b_C_tell 1 (.getfield 49) 4 := ⟨by decide +kernel, rfl⟩
theorem d_C_tell_4 : cd_Dk b_C_tell 4 (nI 60) 6 := Or.inr (Or.inl ⟨60, ⟨by decide +kernel, rfl⟩, by decide +kernel⟩)
theorem d_C_tell_6 : cd_D_icmp_lt b_C_tell 6 12 9 := ⟨6, by decide +kernel, by decide, rfl⟩
theorem d_C_tell_9 : cd_D 2 b_C_tell 9 (.ldc 66) 11 := ⟨by decide +kernel, rfl⟩
theorem d_C_tell_11 : cd_D 1 b_C_tell 11 .ireturn 12 := ⟨by decide +kernel, rfl⟩
theorem d_C_tell_12 : cd_D_aload b_C_tell 12 0 13 := Or.inr ⟨0, ⟨by decide +kernel, rfl⟩, rfl⟩
theorem d_C_tell_13 : cd_D 3 b_C_tell 13 (.getfield 45) 16 := ⟨by decide +kernel, rfl⟩
theorem d_C_tell_16 : cd_D_aload b_C_tell 16 0 17 := Or.inr ⟨0, ⟨by decide +kernel, rfl⟩, rfl⟩
theorem d_C_tell_17 : cd_D 3 b_C_tell 17 (.getfield 49) 20 := ⟨by decide +kernel, rfl⟩
theorem d_C_tell_20 : cd_D_iload b_C_tell 20 1 21 := Or.inr ⟨1, ⟨by decide +kernel, rfl⟩, rfl⟩
theorem d_C_tell_21 : cd_D 1 b_C_tell 21 .iastore 22 := ⟨by decide +kernel, rfl⟩
theorem d_C_tell_22 : cd_D_aload b_C_tell 22 0 23 := Or.inr ⟨0, ⟨by decide +kernel, rfl⟩, rfl⟩
theorem d_C_tell_23 : cd_D 1 b_C_tell 23 .dup 24 := ⟨by decide +kernel, rfl⟩
theorem d_C_tell_24 : cd_D 3 b_C_tell 24 (.getfield 49) 27 := ⟨by decide +kernel, rfl⟩
theorem d_C_tell_27 : cd_Dk b_C_tell 27 (nI 1) 28 := Or.inl ⟨1, ⟨by decide +kernel, rfl⟩, by decide +kernel⟩
theorem d_C_tell_28 : cd_D 1 b_C_tell 28 .iadd 29 := ⟨by decide +kernel, rfl⟩
theorem d_C_tell_29 : cd_D 3 b_C_tell 29 (.putfield 49) 32 := ⟨by decide +kernel, rfl⟩
theorem d_C_tell_32 : cd_D_aload b_C_tell 32 0 33 := Or.inr ⟨0, ⟨by decide +kernel, rfl⟩, rfl⟩
theorem d_C_tell_33 : cd_D 3 b_C_tell 33 (.getfield 49) 36 := ⟨by decide +kernel, rfl⟩
theorem d_C_tell_36 : cd_D 1 b_C_tell 36 .ireturn 37 := ⟨by decide +kernel, rfl⟩
theorem c_C_tell {l : Launch} {w : cd_WT} {S : cd_Sp} {I : cd_Mem} (hC : cd_CD w S) {wt : Nat} (hw : I w.1 8 = nI wt) (hwt : wt ≤ 60) (v : Int32) : cd_C l w m_C_tell 0 0 0 [.ref w.1, .int v] S I (cd_Fi S (if wt < 60 then nI (wt + 1) else cd_FULL) (if wt < 60 then cd_set (cd_set I (w.1 + 60) (upd (I (w.1 + 60)) wt v)) w.1 (upd (I w.1) 8 (nI (wt + 1))) else I)) := by
  refine cd_intro (by decide) (by simp [Value.category]) (Nat.le_of_ble_eq_true rfl) ?_
  intro X hO hE
  show cd_J w X 0 0 S I 0 [some (.ref w.1), some (.int v)] []
  refine r_aload hO d_C_tell_0 rfl ?_
  refine r_getI hO f_C_49 rfl hC.1 d_C_tell_1 ?_
  refine r_tops hw ?_
  refine r_k hO d_C_tell_4 ?_
  refine r_icmp_lt hO d_C_tell_6 (fun c_6 => ?_) (fun c_6 => ?_)
  · have hl : wt < 60 := by
      rcases Nat.lt_or_ge wt 60 with q | q
      · exact q
      · exact absurd c_6 (nI_nlt q (by omega))
    refine r_aload hO d_C_tell_12 rfl ?_
    refine r_getR hO f_C_45 rfl hC.1 hC.2.2.2.2.2.2.2.1 d_C_tell_13 ?_
    refine r_aload hO d_C_tell_16 rfl ?_
    refine r_getI hO f_C_49 rfl hC.1 d_C_tell_17 ?_
    refine r_tops hw ?_
    refine r_iload hO d_C_tell_20 rfl ?_
    refine r_iast hO hC.2.2.2.2.2.2.2.2.2.2.2.2.2.2.2.1 (Nat.le_add_right _ _) (by omega) (by decide) d_C_tell_21 ?_
    refine r_aload hO d_C_tell_22 rfl ?_
    refine r_dup hO d_C_tell_23 rfl ?_
    refine r_getI hO f_C_49 rfl hC.1 d_C_tell_24 ?_
    simp (disch := omega) only [cd_set_eq, cd_set_ne, cd_set_set]
    refine r_tops hw ?_
    refine r_k hO d_C_tell_27 ?_
    refine r_iaddN hO d_C_tell_28 ?_
    refine r_putI hO f_C_49 rfl hC.1 (Nat.le_refl _) d_C_tell_29 ?_
    simp (disch := omega) only [cd_set_eq, cd_set_ne, cd_set_set]
    refine r_aload hO d_C_tell_32 rfl ?_
    refine r_getI hO f_C_49 rfl hC.1 d_C_tell_33 ?_
    refine r_tops (show _ = nI (wt + 1) from by rw [cd_set_eq]; rfl) ?_
    refine r_iret hO hE (Nat.zero_le _) (Nat.zero_le _) d_C_tell_36 ?_
    exact ⟨by rw [if_pos hl], rfl, by rw [if_pos hl]⟩
  · have hl : ¬ wt < 60 := fun q => c_6 (nI_lt q (by decide))
    refine r_ldc hO k_C_66 d_C_tell_9 ?_
    refine r_iret hO hE (Nat.zero_le _) (Nat.zero_le _) d_C_tell_11 ?_
    exact ⟨by rw [if_neg hl], rfl, by rw [if_neg hl]⟩
theorem d_C_keep_0 : cd_D_aload b_C_keep 0 0 1 := Or.inr ⟨0, ⟨by decide +kernel, rfl⟩, rfl⟩
theorem d_C_keep_1 : cd_D 3 b_C_keep 1 (.getfield 19) 4 := ⟨by decide +kernel, rfl⟩
theorem d_C_keep_4 : cd_D_aload b_C_keep 4 0 5 := Or.inr ⟨0, ⟨by decide +kernel, rfl⟩, rfl⟩
theorem d_C_keep_5 : cd_D 3 b_C_keep 5 (.getfield 10) 8 := ⟨by decide +kernel, rfl⟩
theorem d_C_keep_8 : cd_D 3 b_C_keep 8 (.invokevirtual 156) 11 := ⟨by decide +kernel, rfl⟩
theorem d_C_keep_11 : cd_D_aload b_C_keep 11 0 12 := Or.inr ⟨0, ⟨by decide +kernel, rfl⟩, rfl⟩
theorem d_C_keep_12 : cd_Dk b_C_keep 12 (nI 1) 13 := Or.inl ⟨1, ⟨by decide +kernel, rfl⟩, by decide +kernel⟩
theorem d_C_keep_13 : cd_D 3 b_C_keep 13 (.putfield 22) 16 := ⟨by decide +kernel, rfl⟩
theorem d_C_keep_16 : cd_D_aload b_C_keep 16 0 17 := Or.inr ⟨0, ⟨by decide +kernel, rfl⟩, rfl⟩
theorem d_C_keep_17 : cd_D 3 b_C_keep 17 (.getfield 10) 20 := ⟨by decide +kernel, rfl⟩
theorem d_C_keep_20 : cd_D 3 b_C_keep 20 (.getfield 63) 23 := ⟨by decide +kernel, rfl⟩
theorem d_C_keep_23 : cd_D 1 b_C_keep 23 .ireturn 24 := ⟨by decide +kernel, rfl⟩
theorem c_C_keep {l : Launch} {w : cd_WT} {S : cd_Sp} {I : cd_Mem} (hC : cd_CD w S) {mm tc : Nat} {N : Nat → Int32} (hG : cd_HG w S I (w.1 + 1) N mm tc)  : cd_C l w m_C_keep 2 0 0 [.ref w.1] S I (fun r S' I' => r = some (.int (N 1)) ∧ cd_ss S S' (w.1 + 37) ∧ cd_HG w S' I' (w.1 + 37) N mm tc ∧ I' w.1 = upd (I w.1) 3 (nI 1) ∧ ∀ b, b ≠ w.1 → ¬ (w.1 + 37 ≤ b ∧ b < w.1 + 37 + 18) → I' b = I b) := by
  refine cd_intro (by decide) (by simp [Value.category]) (Nat.le_of_ble_eq_true rfl) ?_
  intro X hO hE
  show cd_J w X 0 0 S I 0 [some (.ref w.1)] []
  obtain ⟨hH, hhd, hV, hIV, hR⟩ := id hG
  have hmm := hV.2.1
  have hm1 : I (w.1 + 1) 3 = nI mm := (hR.at 1 (by omega) rfl rfl).trans hV.1
  have hI : cd_HO w S (w.1 + 37) := hC.2.2.2.2.2.2.2.2.2.2.2.1
  refine r_aload hO d_C_keep_0 rfl ?_
  refine r_getR hO f_C_19 rfl hC.1 hC.2.2.2.1 d_C_keep_1 ?_
  refine r_aload hO d_C_keep_4 rfl ?_
  refine r_getR hO f_C_10 rfl hC.1 hC.2.1 d_C_keep_5 ?_
  refine r_takes hO hE lk_C_156 (by decide) rfl (Nat.le_of_ble_eq_true rfl) d_C_keep_8 (Nat.zero_le _) (Nat.zero_le _) hG hI (by omega) (by omega) ?_
  intro S1 I1 hs1 hG1 ho1
  have hC1 := hC.ss hs1 (Or.inr (Or.inr rfl))
  have hN1 : cd_HG w S1 I1 (w.1 + 1) N mm tc := hG.ss hs1 (by omega) (by omega) (fun b hb => ho1 b (fun q => hb (Or.inl q)))
  refine r_aload hO d_C_keep_11 rfl ?_
  refine r_k hO d_C_keep_12 ?_
  refine r_putZ hO f_C_22 rfl hC1.1 (Nat.le_refl _) _ (Or.inr rfl) d_C_keep_13 ?_
  refine r_aload hO d_C_keep_16 rfl ?_
  refine r_getR hO f_C_10 rfl hC1.1 hC1.2.1 d_C_keep_17 ?_
  refine r_getI hO f_C_63 rfl hN1.1.2.1 d_C_keep_20 ?_
  rw [cd_set_ne _ _ (show w.1 + 1 ≠ w.1 by omega)]
  refine r_tops (hN1.2.2.2.2.at 1 (by omega) rfl rfl) ?_
  refine r_iret hO hE (Nat.zero_le _) (Nat.zero_le _) d_C_keep_23 ?_
  exact ⟨rfl, hs1, hG1.off (fun b h1 h2 => cd_set_ne _ _ (by omega)) (fun b h1 => cd_set_ne _ _ (by omega)), by rw [cd_set_eq, ho1 w.1 (by omega)], fun b h1 h2 => by rw [cd_set_ne _ _ h1]; exact ho1 b h2⟩
theorem d_C_back_0 : cd_D_aload b_C_back 0 0 1 := Or.inr ⟨0, ⟨by decide +kernel, rfl⟩, rfl⟩
theorem d_C_back_1 : cd_D 3 b_C_back 1 (.getfield 22) 4 := ⟨by decide +kernel, rfl⟩
theorem d_C_back_4 : cd_D_if_ne b_C_back 4 11 7 := ⟨7, by decide +kernel, by decide, rfl⟩
theorem d_C_back_7 : cd_D 3 b_C_back 7 (.ldc_w 283) 10 := ⟨by decide +kernel, rfl⟩
theorem d_C_back_10 : cd_D 1 b_C_back 10 .ireturn 11 := ⟨by decide +kernel, rfl⟩
theorem d_C_back_11 : cd_D_aload b_C_back 11 0 12 := Or.inr ⟨0, ⟨by decide +kernel, rfl⟩, rfl⟩
theorem d_C_back_12 : cd_D 3 b_C_back 12 (.getfield 10) 15 := ⟨by decide +kernel, rfl⟩
theorem d_C_back_15 : cd_D_aload b_C_back 15 0 16 := Or.inr ⟨0, ⟨by decide +kernel, rfl⟩, rfl⟩
theorem d_C_back_16 : cd_D 3 b_C_back 16 (.getfield 19) 19 := ⟨by decide +kernel, rfl⟩
theorem d_C_back_19 : cd_D 3 b_C_back 19 (.invokevirtual 156) 22 := ⟨by decide +kernel, rfl⟩
theorem d_C_back_22 : cd_D_aload b_C_back 22 0 23 := Or.inr ⟨0, ⟨by decide +kernel, rfl⟩, rfl⟩
theorem d_C_back_23 : cd_D 3 b_C_back 23 (.getfield 10) 26 := ⟨by decide +kernel, rfl⟩
theorem d_C_back_26 : cd_D 3 b_C_back 26 (.getfield 63) 29 := ⟨by decide +kernel, rfl⟩
theorem d_C_back_29 : cd_D 1 b_C_back 29 .ireturn 30 := ⟨by decide +kernel, rfl⟩
theorem c_C_back {l : Launch} {w : cd_WT} {S : cd_Sp} {I : cd_Mem} (hC : cd_CD w S) {mm tc : Nat} {N : Nat → Int32} (hG : cd_HG w S I (w.1 + 1) N mm tc) {mi ti : Nat} {G : Nat → Int32} (hK : ¬ I w.1 3 = 0 → cd_HG w S I (w.1 + 37) G mi ti) : cd_C l w m_C_back 2 0 0 [.ref w.1] S I (fun r S' I' => (I w.1 3 = 0 ∧ r = some (.int cd_NO) ∧ S' = S ∧ I' = I) ∨ (¬ I w.1 3 = 0 ∧ r = some (.int (G 1)) ∧ cd_ss S S' (w.1 + 1) ∧ cd_HG w S' I' (w.1 + 1) G mi ti ∧ ∀ b, ¬ (w.1 + 1 ≤ b ∧ b < w.1 + 1 + 18) → I' b = I b)) := by
  refine cd_intro (by decide) (by simp [Value.category]) (Nat.le_of_ble_eq_true rfl) ?_
  intro X hO hE
  show cd_J w X 0 0 S I 0 [some (.ref w.1)] []
  obtain ⟨hH, hhd, hV, hIV, hR⟩ := id hG
  have hmm := hV.2.1
  have hm1 : I (w.1 + 1) 3 = nI mm := (hR.at 1 (by omega) rfl rfl).trans hV.1
  refine r_aload hO d_C_back_0 rfl ?_
  refine r_getI hO f_C_22 rfl hC.1 d_C_back_1 ?_
  refine r_if_ne hO d_C_back_4 (fun c_4 => ?_) (fun c_4 => ?_)
  · refine r_aload hO d_C_back_11 rfl ?_
    refine r_getR hO f_C_10 rfl hC.1 hC.2.1 d_C_back_12 ?_
    refine r_aload hO d_C_back_15 rfl ?_
    refine r_getR hO f_C_19 rfl hC.1 hC.2.2.2.1 d_C_back_16 ?_
    refine r_takes hO hE lk_C_156 (by decide) rfl (Nat.le_of_ble_eq_true rfl) d_C_back_19 (Nat.zero_le _) (Nat.zero_le _) (hK c_4) hH (by omega) (by omega) ?_
    intro S1 I1 hs1 hN1 ho1
    have hC1 := hC.ss hs1 (Or.inl rfl)
    refine r_aload hO d_C_back_22 rfl ?_
    refine r_getR hO f_C_10 rfl hC1.1 hC1.2.1 d_C_back_23 ?_
    refine r_getI hO f_C_63 rfl hN1.1.2.1 d_C_back_26 ?_
    refine r_tops (hN1.2.2.2.2.at 1 (by omega) rfl rfl) ?_
    refine r_iret hO hE (Nat.zero_le _) (Nat.zero_le _) d_C_back_29 ?_
    exact Or.inr ⟨c_4, rfl, hs1, hN1, ho1⟩
  · refine r_ldcw hO k_C_283 d_C_back_7 ?_
    refine r_iret hO hE (Nat.zero_le _) (Nat.zero_le _) d_C_back_10 ?_
    exact Or.inl ⟨c_4, rfl, rfl, rfl⟩
theorem cd_not15 {q : Int32} (h1 : ¬ q = nI 1) (h2 : ¬ q = nI 2) (h3 : ¬ q = nI 3) (h4 : ¬ q = nI 4) (h5 : ¬ q = nI 5) : ¬ (nI 1 ≤ q ∧ q ≤ nI 5) := by
  intro h
  obtain ⟨k, k1, k2, rfl⟩ := cd_in_ex h (by decide) (by decide)
  rcases (show k = 1 ∨ k = 2 ∨ k = 3 ∨ k = 4 ∨ k = 5 by omega) with rfl | rfl | rfl | rfl | rfl <;> contradiction
theorem d_C_count_0 : cd_D_iload b_C_count 0 1 1 := Or.inr ⟨1, ⟨by decide +kernel, rfl⟩, rfl⟩
theorem d_C_count_1 : decode b_C_count 1 = .ok (.tableswitch (169) (0) (11) #[63, 71, 79, 89, 99, 109, 119, 129, 140, 148, 153, 161], 63) := by decide +kernel
theorem d_C_count_64 : cd_D_aload b_C_count 64 0 65 := Or.inr ⟨0, ⟨by decide +kernel, rfl⟩, rfl⟩
theorem d_C_count_65 : cd_D 3 b_C_count 65 (.getfield 10) 68 := ⟨by decide +kernel, rfl⟩
theorem d_C_count_68 : cd_D 3 b_C_count 68 (.getfield 63) 71 := ⟨by decide +kernel, rfl⟩
theorem d_C_count_71 : cd_D 1 b_C_count 71 .ireturn 72 := ⟨by decide +kernel, rfl⟩
theorem d_C_count_72 : cd_D_aload b_C_count 72 0 73 := Or.inr ⟨0, ⟨by decide +kernel, rfl⟩, rfl⟩
theorem d_C_count_73 : cd_D 3 b_C_count 73 (.getfield 10) 76 := ⟨by decide +kernel, rfl⟩
theorem d_C_count_76 : cd_D 3 b_C_count 76 (.getfield 145) 79 := ⟨by decide +kernel, rfl⟩
theorem d_C_count_79 : cd_D 1 b_C_count 79 .ireturn 80 := ⟨by decide +kernel, rfl⟩
theorem d_C_count_80 : cd_D_aload b_C_count 80 0 81 := Or.inr ⟨0, ⟨by decide +kernel, rfl⟩, rfl⟩
theorem d_C_count_81 : cd_D 3 b_C_count 81 (.getfield 10) 84 := ⟨by decide +kernel, rfl⟩
theorem d_C_count_84 : cd_D 3 b_C_count 84 (.getfield 123) 87 := ⟨by decide +kernel, rfl⟩
theorem d_C_count_87 : cd_Dk b_C_count 87 (nI 0) 88 := Or.inl ⟨0, ⟨by decide +kernel, rfl⟩, by decide +kernel⟩
theorem d_C_count_88 : cd_D 1 b_C_count 88 .iaload 89 := ⟨by decide +kernel, rfl⟩
theorem d_C_count_89 : cd_D 1 b_C_count 89 .ireturn 90 := ⟨by decide +kernel, rfl⟩
theorem d_C_count_90 : cd_D_aload b_C_count 90 0 91 := Or.inr ⟨0, ⟨by decide +kernel, rfl⟩, rfl⟩
theorem d_C_count_91 : cd_D 3 b_C_count 91 (.getfield 10) 94 := ⟨by decide +kernel, rfl⟩
theorem d_C_count_94 : cd_D 3 b_C_count 94 (.getfield 123) 97 := ⟨by decide +kernel, rfl⟩
theorem d_C_count_97 : cd_Dk b_C_count 97 (nI 1) 98 := Or.inl ⟨1, ⟨by decide +kernel, rfl⟩, by decide +kernel⟩
theorem d_C_count_98 : cd_D 1 b_C_count 98 .iaload 99 := ⟨by decide +kernel, rfl⟩
theorem d_C_count_99 : cd_D 1 b_C_count 99 .ireturn 100 := ⟨by decide +kernel, rfl⟩
theorem d_C_count_100 : cd_D_aload b_C_count 100 0 101 := Or.inr ⟨0, ⟨by decide +kernel, rfl⟩, rfl⟩
theorem d_C_count_101 : cd_D 3 b_C_count 101 (.getfield 10) 104 := ⟨by decide +kernel, rfl⟩
theorem d_C_count_104 : cd_D 3 b_C_count 104 (.getfield 123) 107 := ⟨by decide +kernel, rfl⟩
theorem d_C_count_107 : cd_Dk b_C_count 107 (nI 2) 108 := Or.inl ⟨2, ⟨by decide +kernel, rfl⟩, by decide +kernel⟩
theorem d_C_count_108 : cd_D 1 b_C_count 108 .iaload 109 := ⟨by decide +kernel, rfl⟩
theorem d_C_count_109 : cd_D 1 b_C_count 109 .ireturn 110 := ⟨by decide +kernel, rfl⟩
theorem d_C_count_110 : cd_D_aload b_C_count 110 0 111 := Or.inr ⟨0, ⟨by decide +kernel, rfl⟩, rfl⟩
theorem d_C_count_111 : cd_D 3 b_C_count 111 (.getfield 10) 114 := ⟨by decide +kernel, rfl⟩
theorem d_C_count_114 : cd_D 3 b_C_count 114 (.getfield 123) 117 := ⟨by decide +kernel, rfl⟩
theorem d_C_count_117 : cd_Dk b_C_count 117 (nI 3) 118 := Or.inl ⟨3, ⟨by decide +kernel, rfl⟩, by decide +kernel⟩
theorem d_C_count_118 : cd_D 1 b_C_count 118 .iaload 119 := ⟨by decide +kernel, rfl⟩
theorem d_C_count_119 : cd_D 1 b_C_count 119 .ireturn 120 := ⟨by decide +kernel, rfl⟩
theorem d_C_count_120 : cd_D_aload b_C_count 120 0 121 := Or.inr ⟨0, ⟨by decide +kernel, rfl⟩, rfl⟩
theorem d_C_count_121 : cd_D 3 b_C_count 121 (.getfield 10) 124 := ⟨by decide +kernel, rfl⟩
theorem d_C_count_124 : cd_D 3 b_C_count 124 (.getfield 123) 127 := ⟨by decide +kernel, rfl⟩
theorem d_C_count_127 : cd_Dk b_C_count 127 (nI 5) 128 := Or.inl ⟨5, ⟨by decide +kernel, rfl⟩, by decide +kernel⟩
theorem d_C_count_128 : cd_D 1 b_C_count 128 .iaload 129 := ⟨by decide +kernel, rfl⟩
theorem d_C_count_129 : cd_D 1 b_C_count 129 .ireturn 130 := ⟨by decide +kernel, rfl⟩
theorem d_C_count_130 : cd_D_aload b_C_count 130 0 131 := Or.inr ⟨0, ⟨by decide +kernel, rfl⟩, rfl⟩
theorem d_C_count_131 : cd_D 3 b_C_count 131 (.getfield 10) 134 := ⟨by decide +kernel, rfl⟩
theorem d_C_count_134 : cd_D 3 b_C_count 134 (.getfield 123) 137 := ⟨by decide +kernel, rfl⟩
theorem d_C_count_137 : cd_Dk b_C_count 137 (nI 6) 139 := Or.inr (Or.inl ⟨6, ⟨by decide +kernel, rfl⟩, by decide +kernel⟩)
theorem d_C_count_139 : cd_D 1 b_C_count 139 .iaload 140 := ⟨by decide +kernel, rfl⟩
theorem d_C_count_140 : cd_D 1 b_C_count 140 .ireturn 141 := ⟨by decide +kernel, rfl⟩
theorem d_C_count_141 : cd_D_aload b_C_count 141 0 142 := Or.inr ⟨0, ⟨by decide +kernel, rfl⟩, rfl⟩
theorem d_C_count_142 : cd_D 3 b_C_count 142 (.getfield 10) 145 := ⟨by decide +kernel, rfl⟩
theorem d_C_count_145 : cd_D 3 b_C_count 145 (.getfield 215) 148 := ⟨by decide +kernel, rfl⟩
theorem d_C_count_148 : cd_D 1 b_C_count 148 .ireturn 149 := ⟨by decide +kernel, rfl⟩
theorem d_C_count_149 : cd_D_aload b_C_count 149 0 150 := Or.inr ⟨0, ⟨by decide +kernel, rfl⟩, rfl⟩
theorem d_C_count_150 : cd_D 3 b_C_count 150 (.getfield 49) 153 := ⟨by decide +kernel, rfl⟩
theorem d_C_count_153 : cd_D 1 b_C_count 153 .ireturn 154 := ⟨by decide +kernel, rfl⟩
theorem d_C_count_154 : cd_D_aload b_C_count 154 0 155 := Or.inr ⟨0, ⟨by decide +kernel, rfl⟩, rfl⟩
theorem d_C_count_155 : cd_D 3 b_C_count 155 (.getfield 29) 158 := ⟨by decide +kernel, rfl⟩
theorem d_C_count_158 : cd_D 3 b_C_count 158 (.getfield 202) 161 := ⟨by decide +kernel, rfl⟩
theorem d_C_count_161 : cd_D 1 b_C_count 161 .ireturn 162 := ⟨by decide +kernel, rfl⟩
theorem d_C_count_162 : cd_D_aload b_C_count 162 0 163 := Or.inr ⟨0, ⟨by decide +kernel, rfl⟩, rfl⟩
theorem d_C_count_163 : cd_D 3 b_C_count 163 (.getfield 10) 166 := ⟨by decide +kernel, rfl⟩
theorem d_C_count_166 : cd_D 3 b_C_count 166 (.getfield 139) 169 := ⟨by decide +kernel, rfl⟩
theorem d_C_count_169 : cd_D 1 b_C_count 169 .ireturn 170 := ⟨by decide +kernel, rfl⟩
theorem d_C_count_170 : cd_D 2 b_C_count 170 (.ldc 62) 172 := ⟨by decide +kernel, rfl⟩
theorem d_C_count_172 : cd_D 1 b_C_count 172 .ireturn 173 := ⟨by decide +kernel, rfl⟩
theorem c_C_count {l : Launch} {w : cd_WT} {S : cd_Sp} {I : cd_Mem} (hC : cd_CD w S) {mm tc : Nat} {N : Nat → Int32} (hG : cd_HG w S I (w.1 + 1) N mm tc) (z : Int32) : cd_C l w m_C_count 0 0 0 [.ref w.1, .int z] S I (cd_Pn w S I (sp_count N (I w.1 8) (I (w.1 + 55) 0) z, N) tc) := by
  refine cd_intro (by decide) (by simp [Value.category]) (Nat.le_of_ble_eq_true rfl) ?_
  intro X hO hE
  show cd_J w X 0 0 S I 0 [some (.ref w.1), some (.int z)] []
  obtain ⟨hH, hhd, hV, hIV, hR⟩ := id hG
  have hmm := hV.2.1
  have hm1 : I (w.1 + 1) 3 = nI mm := (hR.at 1 (by omega) rfl rfl).trans hV.1
  refine r_iload hO d_C_count_0 rfl ?_
  by_cases c_1_0 : z = nI 0
  · subst c_1_0
    refine r_tabE hO d_C_count_1 rfl (off := 63) (by decide) (by decide) (by decide) (tgt := 64) (by decide) ?_
    refine r_aload hO d_C_count_64 rfl ?_
    refine r_getR hO f_C_10 rfl hC.1 hC.2.1 d_C_count_65 ?_
    refine r_getI hO f_C_63 rfl hH.2.1 d_C_count_68 ?_
    refine r_tops (hR.at 1 (by omega) rfl rfl) ?_
    refine r_iret hO hE (Nat.zero_le _) (Nat.zero_le _) d_C_count_71 ?_
    exact cd_pn (sp := (sp_count N (I w.1 8) (I (w.1 + 55) 0) _, N)) (by unfold sp_count; rw [if_neg (by decide), if_pos rfl]) hG (cd_ofh.rf _ _ _)
  by_cases c_1_1 : z = nI 1
  · subst c_1_1
    refine r_tabE hO d_C_count_1 rfl (off := 71) (by decide) (by decide) (by decide) (tgt := 72) (by decide) ?_
    refine r_aload hO d_C_count_72 rfl ?_
    refine r_getR hO f_C_10 rfl hC.1 hC.2.1 d_C_count_73 ?_
    refine r_getI hO f_C_145 rfl hH.2.1 d_C_count_76 ?_
    refine r_tops (hR.at 2 (by omega) rfl rfl) ?_
    refine r_iret hO hE (Nat.zero_le _) (Nat.zero_le _) d_C_count_79 ?_
    exact cd_pn (sp := (sp_count N (I w.1 8) (I (w.1 + 55) 0) _, N)) (by unfold sp_count; rw [if_pos (by decide), cd_tn_nI (i := 1) (by decide)]) hG (cd_ofh.rf _ _ _)
  by_cases c_1_2 : z = nI 2
  · subst c_1_2
    refine r_tabE hO d_C_count_1 rfl (off := 79) (by decide) (by decide) (by decide) (tgt := 80) (by decide) ?_
    refine r_aload hO d_C_count_80 rfl ?_
    refine r_getR hO f_C_10 rfl hC.1 hC.2.1 d_C_count_81 ?_
    refine r_getR hO f_C_123 rfl hH.2.1 hH.2.2.1.1 d_C_count_84 ?_
    refine r_k hO d_C_count_87 ?_
    refine r_iald hO hH.2.2.1.2 (by omega) (by decide) d_C_count_88 ?_
    refine r_tops (hR.at 3 (by omega) rfl rfl) ?_
    refine r_iret hO hE (Nat.zero_le _) (Nat.zero_le _) d_C_count_89 ?_
    exact cd_pn (sp := (sp_count N (I w.1 8) (I (w.1 + 55) 0) _, N)) (by unfold sp_count; rw [if_pos (by decide), cd_tn_nI (i := 2) (by decide)]) hG (cd_ofh.rf _ _ _)
  by_cases c_1_3 : z = nI 3
  · subst c_1_3
    refine r_tabE hO d_C_count_1 rfl (off := 89) (by decide) (by decide) (by decide) (tgt := 90) (by decide) ?_
    refine r_aload hO d_C_count_90 rfl ?_
    refine r_getR hO f_C_10 rfl hC.1 hC.2.1 d_C_count_91 ?_
    refine r_getR hO f_C_123 rfl hH.2.1 hH.2.2.1.1 d_C_count_94 ?_
    refine r_k hO d_C_count_97 ?_
    refine r_iald hO hH.2.2.1.2 (by omega) (by decide) d_C_count_98 ?_
    refine r_tops (hR.at 4 (by omega) rfl rfl) ?_
    refine r_iret hO hE (Nat.zero_le _) (Nat.zero_le _) d_C_count_99 ?_
    exact cd_pn (sp := (sp_count N (I w.1 8) (I (w.1 + 55) 0) _, N)) (by unfold sp_count; rw [if_pos (by decide), cd_tn_nI (i := 3) (by decide)]) hG (cd_ofh.rf _ _ _)
  by_cases c_1_4 : z = nI 4
  · subst c_1_4
    refine r_tabE hO d_C_count_1 rfl (off := 99) (by decide) (by decide) (by decide) (tgt := 100) (by decide) ?_
    refine r_aload hO d_C_count_100 rfl ?_
    refine r_getR hO f_C_10 rfl hC.1 hC.2.1 d_C_count_101 ?_
    refine r_getR hO f_C_123 rfl hH.2.1 hH.2.2.1.1 d_C_count_104 ?_
    refine r_k hO d_C_count_107 ?_
    refine r_iald hO hH.2.2.1.2 (by omega) (by decide) d_C_count_108 ?_
    refine r_tops (hR.at 5 (by omega) rfl rfl) ?_
    refine r_iret hO hE (Nat.zero_le _) (Nat.zero_le _) d_C_count_109 ?_
    exact cd_pn (sp := (sp_count N (I w.1 8) (I (w.1 + 55) 0) _, N)) (by unfold sp_count; rw [if_pos (by decide), cd_tn_nI (i := 4) (by decide)]) hG (cd_ofh.rf _ _ _)
  by_cases c_1_5 : z = nI 5
  · subst c_1_5
    refine r_tabE hO d_C_count_1 rfl (off := 109) (by decide) (by decide) (by decide) (tgt := 110) (by decide) ?_
    refine r_aload hO d_C_count_110 rfl ?_
    refine r_getR hO f_C_10 rfl hC.1 hC.2.1 d_C_count_111 ?_
    refine r_getR hO f_C_123 rfl hH.2.1 hH.2.2.1.1 d_C_count_114 ?_
    refine r_k hO d_C_count_117 ?_
    refine r_iald hO hH.2.2.1.2 (by omega) (by decide) d_C_count_118 ?_
    refine r_tops (hR.at 6 (by omega) rfl rfl) ?_
    refine r_iret hO hE (Nat.zero_le _) (Nat.zero_le _) d_C_count_119 ?_
    exact cd_pn (sp := (sp_count N (I w.1 8) (I (w.1 + 55) 0) _, N)) (by unfold sp_count; rw [if_pos (by decide), cd_tn_nI (i := 5) (by decide)]) hG (cd_ofh.rf _ _ _)
  by_cases c_1_6 : z = nI 6
  · subst c_1_6
    refine r_tabE hO d_C_count_1 rfl (off := 119) (by decide) (by decide) (by decide) (tgt := 120) (by decide) ?_
    refine r_aload hO d_C_count_120 rfl ?_
    refine r_getR hO f_C_10 rfl hC.1 hC.2.1 d_C_count_121 ?_
    refine r_getR hO f_C_123 rfl hH.2.1 hH.2.2.1.1 d_C_count_124 ?_
    refine r_k hO d_C_count_127 ?_
    refine r_iald hO hH.2.2.1.2 (by omega) (by decide) d_C_count_128 ?_
    refine r_tops (hR.at 8 (by omega) rfl rfl) ?_
    refine r_iret hO hE (Nat.zero_le _) (Nat.zero_le _) d_C_count_129 ?_
    exact cd_pn (sp := (sp_count N (I w.1 8) (I (w.1 + 55) 0) _, N)) (by unfold sp_count; rw [if_neg (by decide), if_neg (by decide), if_pos rfl]) hG (cd_ofh.rf _ _ _)
  by_cases c_1_7 : z = nI 7
  · subst c_1_7
    refine r_tabE hO d_C_count_1 rfl (off := 129) (by decide) (by decide) (by decide) (tgt := 130) (by decide) ?_
    refine r_aload hO d_C_count_130 rfl ?_
    refine r_getR hO f_C_10 rfl hC.1 hC.2.1 d_C_count_131 ?_
    refine r_getR hO f_C_123 rfl hH.2.1 hH.2.2.1.1 d_C_count_134 ?_
    refine r_k hO d_C_count_137 ?_
    refine r_iald hO hH.2.2.1.2 (by omega) (by decide) d_C_count_139 ?_
    refine r_tops (hR.at 9 (by omega) rfl rfl) ?_
    refine r_iret hO hE (Nat.zero_le _) (Nat.zero_le _) d_C_count_140 ?_
    exact cd_pn (sp := (sp_count N (I w.1 8) (I (w.1 + 55) 0) _, N)) (by unfold sp_count; rw [if_neg (by decide), if_neg (by decide), if_neg (by decide), if_pos rfl]) hG (cd_ofh.rf _ _ _)
  by_cases c_1_8 : z = nI 8
  · subst c_1_8
    refine r_tabE hO d_C_count_1 rfl (off := 140) (by decide) (by decide) (by decide) (tgt := 141) (by decide) ?_
    refine r_aload hO d_C_count_141 rfl ?_
    refine r_getR hO f_C_10 rfl hC.1 hC.2.1 d_C_count_142 ?_
    refine r_getI hO f_C_215 rfl hH.2.1 d_C_count_145 ?_
    refine r_tops (hR.at 15 (by omega) rfl rfl) ?_
    refine r_iret hO hE (Nat.zero_le _) (Nat.zero_le _) d_C_count_148 ?_
    exact cd_pn (sp := (sp_count N (I w.1 8) (I (w.1 + 55) 0) _, N)) (by unfold sp_count; rw [if_neg (by decide), if_neg (by decide), if_neg (by decide), if_neg (by decide), if_pos rfl]) hG (cd_ofh.rf _ _ _)
  by_cases c_1_9 : z = nI 9
  · subst c_1_9
    refine r_tabE hO d_C_count_1 rfl (off := 148) (by decide) (by decide) (by decide) (tgt := 149) (by decide) ?_
    refine r_aload hO d_C_count_149 rfl ?_
    refine r_getI hO f_C_49 rfl hC.1 d_C_count_150 ?_
    refine r_iret hO hE (Nat.zero_le _) (Nat.zero_le _) d_C_count_153 ?_
    exact cd_pn (sp := (sp_count N (I w.1 8) (I (w.1 + 55) 0) _, N)) (by unfold sp_count; rw [if_neg (by decide), if_neg (by decide), if_neg (by decide), if_neg (by decide), if_neg (by decide), if_pos rfl]) hG (cd_ofh.rf _ _ _)
  by_cases c_1_10 : z = nI 10
  · subst c_1_10
    refine r_tabE hO d_C_count_1 rfl (off := 153) (by decide) (by decide) (by decide) (tgt := 154) (by decide) ?_
    refine r_aload hO d_C_count_154 rfl ?_
    refine r_getR hO f_C_29 rfl hC.1 hC.2.2.2.2.1 d_C_count_155 ?_
    refine r_getI hO f_C_202 rfl hC.2.2.2.2.2.2.2.2.2.2.2.2.1.1 d_C_count_158 ?_
    refine r_iret hO hE (Nat.zero_le _) (Nat.zero_le _) d_C_count_161 ?_
    exact cd_pn (sp := (sp_count N (I w.1 8) (I (w.1 + 55) 0) _, N)) (by unfold sp_count; rw [if_neg (by decide), if_neg (by decide), if_neg (by decide), if_neg (by decide), if_neg (by decide), if_neg (by decide), if_pos rfl]) hG (cd_ofh.rf _ _ _)
  by_cases c_1_11 : z = nI 11
  · subst c_1_11
    refine r_tabE hO d_C_count_1 rfl (off := 161) (by decide) (by decide) (by decide) (tgt := 162) (by decide) ?_
    refine r_aload hO d_C_count_162 rfl ?_
    refine r_getR hO f_C_10 rfl hC.1 hC.2.1 d_C_count_163 ?_
    refine r_getI hO f_C_139 rfl hH.2.1 d_C_count_166 ?_
    refine r_tops (hR.at 0 (by omega) rfl rfl) ?_
    refine r_iret hO hE (Nat.zero_le _) (Nat.zero_le _) d_C_count_169 ?_
    exact cd_pn (sp := (sp_count N (I w.1 8) (I (w.1 + 55) 0) _, N)) (by unfold sp_count; rw [if_neg (by decide), if_neg (by decide), if_neg (by decide), if_neg (by decide), if_neg (by decide), if_neg (by decide), if_neg (by decide), if_pos rfl]) hG (cd_ofh.rf _ _ _)
  refine r_tabN hO d_C_count_1 (by decide) (fun j hj => ?_) (tgt := 170) (by decide) ?_
  · have hj2 : j < 12 := hj
    rcases (show j = 0 ∨ j = 1 ∨ j = 2 ∨ j = 3 ∨ j = 4 ∨ j = 5 ∨ j = 6 ∨ j = 7 ∨ j = 8 ∨ j = 9 ∨ j = 10 ∨ j = 11 by omega) with rfl | rfl | rfl | rfl | rfl | rfl | rfl | rfl | rfl | rfl | rfl | rfl
    · exact Or.inl (fun e => c_1_0 (e.trans (by decide)))
    · exact Or.inl (fun e => c_1_1 (e.trans (by decide)))
    · exact Or.inl (fun e => c_1_2 (e.trans (by decide)))
    · exact Or.inl (fun e => c_1_3 (e.trans (by decide)))
    · exact Or.inl (fun e => c_1_4 (e.trans (by decide)))
    · exact Or.inl (fun e => c_1_5 (e.trans (by decide)))
    · exact Or.inl (fun e => c_1_6 (e.trans (by decide)))
    · exact Or.inl (fun e => c_1_7 (e.trans (by decide)))
    · exact Or.inl (fun e => c_1_8 (e.trans (by decide)))
    · exact Or.inl (fun e => c_1_9 (e.trans (by decide)))
    · exact Or.inl (fun e => c_1_10 (e.trans (by decide)))
    · exact Or.inl (fun e => c_1_11 (e.trans (by decide)))
  refine r_ldc hO k_C_62 d_C_count_170 ?_
  refine r_iret hO hE (Nat.zero_le _) (Nat.zero_le _) d_C_count_172 ?_
  exact cd_pn (sp := (sp_count N (I w.1 8) (I (w.1 + 55) 0) _, N)) (by unfold sp_count; rw [if_neg (cd_not15 c_1_1 c_1_2 c_1_3 c_1_4 c_1_5), if_neg c_1_0, if_neg c_1_6, if_neg c_1_7, if_neg c_1_8, if_neg c_1_9, if_neg c_1_10, if_neg c_1_11]) hG (cd_ofh.rf _ _ _)
