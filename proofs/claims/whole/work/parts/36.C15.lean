/-- only the thought has changed -/
def cd_TH (w : cd_WT) (S : cd_Sp) (I : cd_Mem) (S1 : cd_Sp) (I1 : cd_Mem) : Prop := cd_ss S S1 (w.1 + 19) ∧ cd_ofh w (w.1 + 19) I I1
theorem cd_TH.rf (w : cd_WT) (S : cd_Sp) (I : cd_Mem) : cd_TH w S I S I := ⟨cd_ss.rf _ _, cd_ofh.rf _ _ _⟩
theorem cd_TH.tr {w : cd_WT} {S S1 S2 : cd_Sp} {I I1 I2 : cd_Mem} (a : cd_TH w S I S1 I1) (b : cd_TH w S1 I1 S2 I2) : cd_TH w S I S2 I2 := ⟨a.1.tr b.1, a.2.tr b.2⟩
theorem cd_TH.of {w : cd_WT} {S S1 : cd_Sp} {I I1 I2 : cd_Mem} (a : cd_TH w S I S1 I1) (b : cd_ofh w (w.1 + 19) I1 I2) : cd_TH w S I S1 I2 := ⟨a.1, a.2.tr b⟩
theorem cd_TH.now {w : cd_WT} {S S1 : cd_Sp} {I I1 : cd_Mem} {N : Nat → Int32} {mm tc : Nat} (a : cd_TH w S I S1 I1) (h : cd_HG w S I (w.1 + 1) N mm tc) : cd_HG w S1 I1 (w.1 + 1) N mm tc := h.ss a.1 (by omega) (by omega) a.2
theorem cd_CD.ss {w : cd_WT} {S S1 : cd_Sp} {z : Nat} (h : cd_CD w S) (a : cd_ss S S1 z) (hz : z = w.1 + 1 ∨ z = w.1 + 19 ∨ z = w.1 + 37) : cd_CD w S1 := by
  obtain ⟨h0, h1, h2, h3, h4, h5, h6, h7, h8, h9, h10, h11, h12, h13, h14, h15, h16, h17, h18⟩ := h
  obtain ⟨e0, e, f⟩ := a
  unfold cd_CD cd_SH
  rw [e, f w.1 (by omega), f (w.1 + 55) (by omega), f (w.1 + 58) (by omega), f (w.1 + 59) (by omega)]
  refine ⟨h0, h1, h2, h3, h4, h5, h6, h7, h8, h9.ss ⟨e0, e, f⟩ (by omega), h10.ss ⟨e0, e, f⟩ (by omega), h11.ss ⟨e0, e, f⟩ (by omega), h12, h13, h14, h15, h16, fun i hi => ?_, fun j hj => ?_⟩
  · rw [f (w.1 + 62 + 2 * i) (by omega)]
    exact h17 i hi
  · rw [f (w.1 + 70 + 4 * j) (by omega), f (w.1 + 72 + 4 * j) (by omega)]
    exact h18 j hj
theorem cd_TH.cd {w : cd_WT} {S S1 : cd_Sp} {I I1 : cd_Mem} (a : cd_TH w S I S1 I1) (h : cd_CD w S) : cd_CD w S1 := h.ss a.1 (Or.inr (Or.inl rfl))
def cd_Pth (w : cd_WT) (S : cd_Sp) (I : cd_Mem) (x : Int32) : cd_Pt := fun r S' I' => r = some (.int x) ∧ cd_TH w S I S' I'
section CDTH
variable {l : Launch} {w : cd_WT} {X : cd_XT} {cc : ByteArray} {own : String} {d mc ms : Nat} {k n : Nat} {S : cd_Sp} {I : cd_Mem} {pc pc' tgt : Nat} {lv : List (Option Value)} {st : List Value} {nL : Nat} {rt : Option FieldType} {nm : String} {post : cd_Pt}
theorem r_think (hO : cd_O w X cc own d mc ms l) (hE : cd_E w X nL rt mc ms nm post) {index mm tc : Nat} {N : Nat → Int32} {S0 : cd_Sp} {I0 : cd_Mem} (hlk : Cond.methodLink own index m_H_takes.1 ∈ cd_ws) (hdd : 2 ≤ d) (hlv : lv.length = nL) (hcat : (st.map fun v => v.category).sum ≤ 8) (hd : cd_D 3 cc pc (.invokevirtual index) pc') (hk : k ≤ mc) (hn : n ≤ ms) (hC : cd_CD w S0) (hG : cd_HG w S0 I0 (w.1 + 1) N mm tc) (hT : cd_TH w S0 I0 S I) (kk : ∀ (S' : cd_Sp) (I' : cd_Mem), cd_TH w S0 I0 S' I' → cd_HG w S' I' (w.1 + 19) N mm tc → cd_J w X k n S' I' pc' lv st) : cd_J w X k n S I pc lv (.ref (w.1 + 1) :: .ref (w.1 + 19) :: st) := by
  have hC' := hT.cd hC
  have hh : cd_HO w S (w.1 + 19) := hC'.2.2.2.2.2.2.2.2.2.2.1
  exact cd_callV hO hE.1 (c_H_takes (hT.now hG) hh (by omega) (by omega)) mf_H_takes hlk hh.2.1 rfl hdd rfl hlv rfl hcat hd ⟨hk, hn⟩ (fun r S' I' h => by
    obtain ⟨rfl, h1, h2, h3⟩ := h
    exact kk S' I' (hT.tr ⟨h1, fun b hb => h3 b (fun q => hb (Or.inl q))⟩) h2)
theorem r_cV2th (hO : cd_O w X cc own d mc ms l) (hE : cd_E w X nL rt mc ms nm post) {m : cd_MT} {d' index b c : Nat} {v1 v2 : Value} {x : Int32} (hc : cd_C l w m d' 0 0 (.ref b :: [v1, v2]) S I (cd_Pth w S I x)) (hm : cd_MV m 2) (hlk : Cond.methodLink own index m.1 ∈ cd_ws) (hs : S.2.1 b = (1, c)) (hcl : (cd_cls[c]?).map (·.1) = some m.1.cls) (hdd : d' + 1 ≤ d) (hlv : lv.length = nL) (hcat : (st.map fun v => v.category).sum ≤ 8) (hd : cd_D 3 cc pc (.invokevirtual index) pc') (hk : k ≤ mc) (hn : n ≤ ms) (kk : ∀ (S' : cd_Sp) (I' : cd_Mem), cd_TH w S I S' I' → cd_J w X k n S' I' pc' lv (.int x :: st)) : cd_J w X k n S I pc lv (v2 :: v1 :: .ref b :: st) :=
  cd_callV hO hE.1 hc hm hlk hs hcl hdd rfl hlv rfl hcat hd ⟨hk, hn⟩ (fun r S' I' h => by obtain ⟨rfl, hp⟩ := h; exact kk S' I' hp)
end CDTH
theorem cd_hb_ex {N : Nat → Int32} {mm : Nat} (h : cd_IV N mm) : ∀ i, i ≤ mm → ∃ k, k ≤ 99 * i ∧ cd_hb N i = nI k
  | 0, _ => ⟨0, by omega, rfl⟩
  | i + 1, hi => by
    obtain ⟨k, k1, k2⟩ := cd_hb_ex h i (by omega)
    obtain ⟨b, b1, b2⟩ := (h.1 i (by omega)).2.2.1
    exact ⟨k + b, by omega, by unfold cd_hb; rw [k2, b2, nI_add]⟩
theorem d_C_risingsWithFlap_0 : cd_D_aload b_C_risingsWithFlap 0 0 1 := Or.inr ⟨0, ⟨by decide +kernel, rfl⟩, rfl⟩
theorem d_C_risingsWithFlap_1 : cd_D 3 b_C_risingsWithFlap 1 (.getfield 16) 4 := ⟨by decide +kernel, rfl⟩
theorem d_C_risingsWithFlap_4 : cd_D_aload b_C_risingsWithFlap 4 0 5 := Or.inr ⟨0, ⟨by decide +kernel, rfl⟩, rfl⟩
theorem d_C_risingsWithFlap_5 : cd_D 3 b_C_risingsWithFlap 5 (.getfield 10) 8 := ⟨by decide +kernel, rfl⟩
theorem d_C_risingsWithFlap_8 : cd_D 3 b_C_risingsWithFlap 8 (.invokevirtual 156) 11 := ⟨by decide +kernel, rfl⟩
theorem d_C_risingsWithFlap_11 : cd_D_aload b_C_risingsWithFlap 11 0 12 := Or.inr ⟨0, ⟨by decide +kernel, rfl⟩, rfl⟩
theorem d_C_risingsWithFlap_12 : cd_D 3 b_C_risingsWithFlap 12 (.getfield 16) 15 := ⟨by decide +kernel, rfl⟩
theorem d_C_risingsWithFlap_15 : cd_D 3 b_C_risingsWithFlap 15 (.getfield 123) 18 := ⟨by decide +kernel, rfl⟩
theorem d_C_risingsWithFlap_18 : cd_Dk b_C_risingsWithFlap 18 (nI 3) 19 := Or.inl ⟨3, ⟨by decide +kernel, rfl⟩, by decide +kernel⟩
theorem d_C_risingsWithFlap_19 : cd_D_iload b_C_risingsWithFlap 19 1 20 := Or.inr ⟨1, ⟨by decide +kernel, rfl⟩, rfl⟩
theorem d_C_risingsWithFlap_20 : cd_D 1 b_C_risingsWithFlap 20 .iastore 21 := ⟨by decide +kernel, rfl⟩
theorem d_C_risingsWithFlap_21 : cd_D_aload b_C_risingsWithFlap 21 0 22 := Or.inr ⟨0, ⟨by decide +kernel, rfl⟩, rfl⟩
theorem d_C_risingsWithFlap_22 : cd_D 3 b_C_risingsWithFlap 22 (.getfield 16) 25 := ⟨by decide +kernel, rfl⟩
theorem d_C_risingsWithFlap_25 : cd_D_iload b_C_risingsWithFlap 25 2 26 := Or.inr ⟨2, ⟨by decide +kernel, rfl⟩, rfl⟩
theorem d_C_risingsWithFlap_26 : cd_D 3 b_C_risingsWithFlap 26 (.invokevirtual 146) 29 := ⟨by decide +kernel, rfl⟩
theorem d_C_risingsWithFlap_29 : cd_D_aload b_C_risingsWithFlap 29 0 30 := Or.inr ⟨0, ⟨by decide +kernel, rfl⟩, rfl⟩
theorem d_C_risingsWithFlap_30 : cd_D 3 b_C_risingsWithFlap 30 (.getfield 16) 33 := ⟨by decide +kernel, rfl⟩
theorem d_C_risingsWithFlap_33 : cd_D 3 b_C_risingsWithFlap 33 (.getfield 142) 36 := ⟨by decide +kernel, rfl⟩
theorem d_C_risingsWithFlap_36 : cd_Dk b_C_risingsWithFlap 36 (nI 0) 37 := Or.inl ⟨0, ⟨by decide +kernel, rfl⟩, by decide +kernel⟩
theorem d_C_risingsWithFlap_37 : cd_D 1 b_C_risingsWithFlap 37 .iaload 38 := ⟨by decide +kernel, rfl⟩
theorem d_C_risingsWithFlap_38 : cd_D 1 b_C_risingsWithFlap 38 .ireturn 39 := ⟨by decide +kernel, rfl⟩
theorem c_C_risingsWithFlap {l : Launch} {w : cd_WT} {S : cd_Sp} {I : cd_Mem} (hC : cd_CD w S) {mm tc : Nat} {N : Nat → Int32} (hG : cd_HG w S I (w.1 + 1) N mm tc) (f n : Nat) (hf : f ≤ 1) (hn : n < 2 ^ 31) : cd_C l w m_C_risingsWithFlap 6 0 0 [.ref w.1, .int (nI f), .int (nI n)] S I (cd_Pth w S I (cd_hs (upd N 6 (nI f)) mm tc n 10)) := by
  refine cd_intro (by decide) (by simp [Value.category]) (Nat.le_of_ble_eq_true rfl) ?_
  intro X hO hE
  show cd_J w X 0 0 S I 0 [some (.ref w.1), some (.int (nI f)), some (.int (nI n))] []
  obtain ⟨hH, hhd, hV, hIV, hR⟩ := id hG
  have hmm := hV.2.1
  have hm1 : I (w.1 + 1) 3 = nI mm := (hR.at 1 (by omega) rfl rfl).trans hV.1
  have hT : cd_HO w S (w.1 + 19) := hC.2.2.2.2.2.2.2.2.2.2.1
  refine r_aload hO d_C_risingsWithFlap_0 rfl ?_
  refine r_getR hO f_C_16 rfl hC.1 hC.2.2.1 d_C_risingsWithFlap_1 ?_
  refine r_aload hO d_C_risingsWithFlap_4 rfl ?_
  refine r_getR hO f_C_10 rfl hC.1 hC.2.1 d_C_risingsWithFlap_5 ?_
  refine r_think hO hE lk_C_156 (by decide) rfl (Nat.le_of_ble_eq_true rfl) d_C_risingsWithFlap_8 (Nat.zero_le _) (Nat.zero_le _) hC hG (cd_TH.rf _ _ _) ?_
  intro S1 I1 hT1 hG1
  have hC1 := hT1.cd hC
  have hN1 := hT1.now hG
  refine r_aload hO d_C_risingsWithFlap_11 rfl ?_
  refine r_getR hO f_C_16 rfl hC1.1 hC1.2.2.1 d_C_risingsWithFlap_12 ?_
  refine r_getR hO f_C_123 rfl hG1.1.2.1 hG1.1.2.2.1.1 d_C_risingsWithFlap_15 ?_
  refine r_k hO d_C_risingsWithFlap_18 ?_
  refine r_iload hO d_C_risingsWithFlap_19 rfl ?_
  refine r_iast hO hG1.1.2.2.1.2 (Nat.le_trans hG1.1.1 (Nat.le_add_right _ _)) (by omega) (by decide) d_C_risingsWithFlap_20 ?_
  have hGa := cd_HG_w hG1 6 (by decide) (by decide) (by decide) (a := w.1 + 19 + 1) (k := 3) rfl rfl (nI f) (cd_IV_bit hG1.2.2.2.1 (by omega) (by rcases (show f = 0 ∨ f = 1 by omega) with rfl | rfl; exact Or.inl rfl; exact Or.inr rfl))
  refine r_aload hO d_C_risingsWithFlap_21 rfl ?_
  refine r_getR hO f_C_16 rfl hC1.1 hC1.2.2.1 d_C_risingsWithFlap_22 ?_
  refine r_iload hO d_C_risingsWithFlap_25 rfl ?_
  refine r_cV1v hO hE (c_H_passHours hGa _ (by omega)) mf_H_passHours lk_C_146 hG1.1.2.1 rfl (by decide) rfl (Nat.le_of_ble_eq_true rfl) d_C_risingsWithFlap_26 (Nat.zero_le _) (Nat.zero_le _) ?_
  rintro I2 ⟨hG2, ho2⟩
  refine r_aload hO d_C_risingsWithFlap_29 rfl ?_
  refine r_getR hO f_C_16 rfl hC1.1 hC1.2.2.1 d_C_risingsWithFlap_30 ?_
  refine r_getR hO f_C_142 rfl hG1.1.2.1 hG1.1.2.2.2.1.1 d_C_risingsWithFlap_33 ?_
  refine r_k hO d_C_risingsWithFlap_36 ?_
  refine r_iald hO hG1.1.2.2.2.1.2 (by omega) (by decide) d_C_risingsWithFlap_37 ?_
  refine r_tops (hG2.2.2.2.2.at 10 (by omega) rfl rfl) ?_
  refine r_iret hO hE (Nat.zero_le _) (Nat.zero_le _) d_C_risingsWithFlap_38 ?_
  exact ⟨rfl, (hT1.of (cd_ofh.set _ _ (cd_wr_in (by omega) (by omega)))).of ho2⟩
theorem d_C_saved_0 : cd_D_iload b_C_saved 0 1 1 := Or.inr ⟨1, ⟨by decide +kernel, rfl⟩, rfl⟩
theorem d_C_saved_1 : cd_Dk b_C_saved 1 (nI 1) 2 := Or.inl ⟨1, ⟨by decide +kernel, rfl⟩, by decide +kernel⟩
theorem d_C_saved_2 : cd_D_icmp_lt b_C_saved 2 11 5 := ⟨9, by decide +kernel, by decide, rfl⟩
theorem d_C_saved_5 : cd_D_iload b_C_saved 5 1 6 := Or.inr ⟨1, ⟨by decide +kernel, rfl⟩, rfl⟩
theorem d_C_saved_6 : cd_Dk b_C_saved 6 (nI 100) 8 := Or.inr (Or.inl ⟨100, ⟨by decide +kernel, rfl⟩, by decide +kernel⟩)
theorem d_C_saved_8 : cd_D_icmp_le b_C_saved 8 14 11 := ⟨6, by decide +kernel, by decide, rfl⟩
theorem d_C_saved_11 : cd_D 2 b_C_saved 11 (.ldc 62) 13 := ⟨by decide +kernel, rfl⟩
theorem d_C_saved_13 : cd_D 1 b_C_saved 13 .ireturn 14 := ⟨by decide +kernel, rfl⟩
theorem d_C_saved_14 : cd_D_aload b_C_saved 14 0 15 := Or.inr ⟨0, ⟨by decide +kernel, rfl⟩, rfl⟩
theorem d_C_saved_15 : cd_Dk b_C_saved 15 (nI 0) 16 := Or.inl ⟨0, ⟨by decide +kernel, rfl⟩, by decide +kernel⟩
theorem d_C_saved_16 : cd_D_iload b_C_saved 16 1 17 := Or.inr ⟨1, ⟨by decide +kernel, rfl⟩, rfl⟩
theorem d_C_saved_17 : cd_D 3 b_C_saved 17 (.invokevirtual 164) 20 := ⟨by decide +kernel, rfl⟩
theorem d_C_saved_20 : cd_D_aload b_C_saved 20 0 21 := Or.inr ⟨0, ⟨by decide +kernel, rfl⟩, rfl⟩
theorem d_C_saved_21 : cd_Dk b_C_saved 21 (nI 1) 22 := Or.inl ⟨1, ⟨by decide +kernel, rfl⟩, by decide +kernel⟩
theorem d_C_saved_22 : cd_D_iload b_C_saved 22 1 23 := Or.inr ⟨1, ⟨by decide +kernel, rfl⟩, rfl⟩
theorem d_C_saved_23 : cd_D 3 b_C_saved 23 (.invokevirtual 164) 26 := ⟨by decide +kernel, rfl⟩
theorem d_C_saved_26 : cd_D 1 b_C_saved 26 .isub 27 := ⟨by decide +kernel, rfl⟩
theorem d_C_saved_27 : cd_D 1 b_C_saved 27 .ireturn 28 := ⟨by decide +kernel, rfl⟩
theorem c_C_saved {l : Launch} {w : cd_WT} {S : cd_Sp} {I : cd_Mem} (hC : cd_CD w S) {mm tc : Nat} {N : Nat → Int32} (hG : cd_HG w S I (w.1 + 1) N mm tc) (n : Int32) : cd_C l w m_C_saved 7 0 0 [.ref w.1, .int n] S I (cd_Pth w S I (sp_saved N mm tc n)) := by
  refine cd_intro (by decide) (by simp [Value.category]) (Nat.le_of_ble_eq_true rfl) ?_
  intro X hO hE
  show cd_J w X 0 0 S I 0 [some (.ref w.1), some (.int n)] []
  obtain ⟨hH, hhd, hV, hIV, hR⟩ := id hG
  have hmm := hV.2.1
  have hm1 : I (w.1 + 1) 3 = nI mm := (hR.at 1 (by omega) rfl rfl).trans hV.1
  refine r_iload hO d_C_saved_0 rfl ?_
  refine r_k hO d_C_saved_1 ?_
  refine r_icmp_lt hO d_C_saved_2 (fun c_2 => ?_) (fun c_2 => ?_)
  · refine r_ldc hO k_C_62 d_C_saved_11 ?_
    refine r_iret hO hE (Nat.zero_le _) (Nat.zero_le _) d_C_saved_13 ?_
    exact ⟨by unfold sp_saved; rw [if_neg (by rintro ⟨q1, q2⟩; simp only [Int32.lt_iff_toInt_lt, Int32.le_iff_toInt_le] at *; omega)], cd_TH.rf _ _ _⟩
  · refine r_iload hO d_C_saved_5 rfl ?_
    refine r_k hO d_C_saved_6 ?_
    refine r_icmp_le hO d_C_saved_8 (fun c_8 => ?_) (fun c_8 => ?_)
    · have c2 : nI 1 ≤ n := (by simp only [Int32.lt_iff_toInt_lt, Int32.le_iff_toInt_le] at *; omega)
      obtain ⟨q, hq1, hq, rfl⟩ := cd_in_ex ⟨c2, c_8⟩ (by decide) (by decide)
      refine r_aload hO d_C_saved_14 rfl ?_
      refine r_k hO d_C_saved_15 ?_
      refine r_iload hO d_C_saved_16 rfl ?_
      refine r_cV2th hO hE (c_C_risingsWithFlap hC hG 0 q (by decide) (by omega)) mf_C_risingsWithFlap lk_C_164 hC.1 rfl (by decide) rfl (Nat.le_of_ble_eq_true rfl) d_C_saved_17 (Nat.zero_le _) (Nat.zero_le _) ?_
      intro S1 I1 hT1
      have hC1 := hT1.cd hC
      have hN1 := hT1.now hG
      refine r_aload hO d_C_saved_20 rfl ?_
      refine r_k hO d_C_saved_21 ?_
      refine r_iload hO d_C_saved_22 rfl ?_
      refine r_cV2th hO hE (c_C_risingsWithFlap hC1 hN1 1 q (by decide) (by omega)) mf_C_risingsWithFlap lk_C_164 hC1.1 rfl (by decide) rfl (Nat.le_of_ble_eq_true rfl) d_C_saved_23 (Nat.zero_le _) (Nat.zero_le _) ?_
      intro S2 I2 hT2
      refine r_isub hO d_C_saved_26 ?_
      refine r_iret hO hE (Nat.zero_le _) (Nat.zero_le _) d_C_saved_27 ?_
      exact ⟨by unfold sp_saved; rw [if_pos ⟨c2, c_8⟩, cd_tn_nI (show _ < 2 ^ 31 by omega)], hT1.tr hT2⟩
    · refine r_ldc hO k_C_62 d_C_saved_11 ?_
      refine r_iret hO hE (Nat.zero_le _) (Nat.zero_le _) d_C_saved_13 ?_
      exact ⟨by unfold sp_saved; rw [if_neg (by rintro ⟨q1, q2⟩; simp only [Int32.lt_iff_toInt_lt, Int32.le_iff_toInt_le] at *; omega)], cd_TH.rf _ _ _⟩
theorem d_C_lamp_0 : cd_D_iload b_C_lamp 0 1 1 := Or.inr ⟨1, ⟨by decide +kernel, rfl⟩, rfl⟩
theorem d_C_lamp_1 : cd_Dk b_C_lamp 1 (nI 1) 2 := Or.inl ⟨1, ⟨by decide +kernel, rfl⟩, by decide +kernel⟩
theorem d_C_lamp_2 : cd_D_icmp_lt b_C_lamp 2 11 5 := ⟨9, by decide +kernel, by decide, rfl⟩
theorem d_C_lamp_5 : cd_D_iload b_C_lamp 5 1 6 := Or.inr ⟨1, ⟨by decide +kernel, rfl⟩, rfl⟩
theorem d_C_lamp_6 : cd_Dk b_C_lamp 6 (nI 100) 8 := Or.inr (Or.inl ⟨100, ⟨by decide +kernel, rfl⟩, by decide +kernel⟩)
theorem d_C_lamp_8 : cd_D_icmp_le b_C_lamp 8 14 11 := ⟨6, by decide +kernel, by decide, rfl⟩
theorem d_C_lamp_11 : cd_D 2 b_C_lamp 11 (.ldc 62) 13 := ⟨by decide +kernel, rfl⟩
theorem d_C_lamp_13 : cd_D 1 b_C_lamp 13 .ireturn 14 := ⟨by decide +kernel, rfl⟩
theorem d_C_lamp_14 : cd_D_aload b_C_lamp 14 0 15 := Or.inr ⟨0, ⟨by decide +kernel, rfl⟩, rfl⟩
theorem d_C_lamp_15 : cd_D 3 b_C_lamp 15 (.getfield 16) 18 := ⟨by decide +kernel, rfl⟩
theorem d_C_lamp_18 : cd_D_aload b_C_lamp 18 0 19 := Or.inr ⟨0, ⟨by decide +kernel, rfl⟩, rfl⟩
theorem d_C_lamp_19 : cd_D 3 b_C_lamp 19 (.getfield 10) 22 := ⟨by decide +kernel, rfl⟩
theorem d_C_lamp_22 : cd_D 3 b_C_lamp 22 (.invokevirtual 156) 25 := ⟨by decide +kernel, rfl⟩
theorem d_C_lamp_25 : cd_Dk b_C_lamp 25 (nI 0) 26 := Or.inl ⟨0, ⟨by decide +kernel, rfl⟩, by decide +kernel⟩
theorem d_C_lamp_26 : cd_D_istore b_C_lamp 26 2 27 := Or.inr ⟨2, ⟨by decide +kernel, rfl⟩, rfl⟩
theorem d_C_lamp_27 : cd_Dk b_C_lamp 27 (nI 0) 28 := Or.inl ⟨0, ⟨by decide +kernel, rfl⟩, by decide +kernel⟩
theorem d_C_lamp_28 : cd_D_istore b_C_lamp 28 3 29 := Or.inr ⟨3, ⟨by decide +kernel, rfl⟩, rfl⟩
theorem d_C_lamp_29 : cd_D_iload b_C_lamp 29 3 30 := Or.inr ⟨3, ⟨by decide +kernel, rfl⟩, rfl⟩
theorem d_C_lamp_30 : cd_D_iload b_C_lamp 30 1 31 := Or.inr ⟨1, ⟨by decide +kernel, rfl⟩, rfl⟩
theorem d_C_lamp_31 : cd_D_icmp_ge b_C_lamp 31 63 34 := ⟨32, by decide +kernel, by decide, rfl⟩
theorem d_C_lamp_34 : cd_D_aload b_C_lamp 34 0 35 := Or.inr ⟨0, ⟨by decide +kernel, rfl⟩, rfl⟩
theorem d_C_lamp_35 : cd_D 3 b_C_lamp 35 (.getfield 16) 38 := ⟨by decide +kernel, rfl⟩
theorem d_C_lamp_38 : cd_Dk b_C_lamp 38 (nI 1) 39 := Or.inl ⟨1, ⟨by decide +kernel, rfl⟩, by decide +kernel⟩
theorem d_C_lamp_39 : cd_D 3 b_C_lamp 39 (.invokevirtual 146) 42 := ⟨by decide +kernel, rfl⟩
theorem d_C_lamp_42 : cd_D_aload b_C_lamp 42 0 43 := Or.inr ⟨0, ⟨by decide +kernel, rfl⟩, rfl⟩
theorem d_C_lamp_43 : cd_D 3 b_C_lamp 43 (.getfield 16) 46 := ⟨by decide +kernel, rfl⟩
theorem d_C_lamp_46 : cd_D 3 b_C_lamp 46 (.getfield 123) 49 := ⟨by decide +kernel, rfl⟩
theorem d_C_lamp_49 : cd_Dk b_C_lamp 49 (nI 4) 50 := Or.inl ⟨4, ⟨by decide +kernel, rfl⟩, by decide +kernel⟩
theorem d_C_lamp_50 : cd_D 1 b_C_lamp 50 .iaload 51 := ⟨by decide +kernel, rfl⟩
theorem d_C_lamp_51 : cd_D_if_ne b_C_lamp 51 57 54 := ⟨6, by decide +kernel, by decide, rfl⟩
theorem d_C_lamp_54 : cd_D 3 b_C_lamp 54 (.iinc 2 (1)) 57 := ⟨by decide +kernel, rfl⟩
theorem d_C_lamp_57 : cd_D 3 b_C_lamp 57 (.iinc 3 (1)) 60 := ⟨by decide +kernel, rfl⟩
theorem d_C_lamp_60 : cd_D_goto b_C_lamp 60 29 := ⟨-31, by decide +kernel, by decide⟩
theorem d_C_lamp_63 : cd_D_iload b_C_lamp 63 2 64 := Or.inr ⟨2, ⟨by decide +kernel, rfl⟩, rfl⟩
theorem d_C_lamp_64 : cd_D 1 b_C_lamp 64 .ireturn 65 := ⟨by decide +kernel, rfl⟩
theorem c_C_lamp {l : Launch} {w : cd_WT} {S : cd_Sp} {I : cd_Mem} (hC : cd_CD w S) {mm tc : Nat} {N : Nat → Int32} (hG : cd_HG w S I (w.1 + 1) N mm tc) (n : Int32) : cd_C l w m_C_lamp 6 0 0 [.ref w.1, .int n] S I (cd_Pth w S I (sp_lamp N mm tc n)) := by
  refine cd_intro (by decide) (by simp [Value.category]) (Nat.le_of_ble_eq_true rfl) ?_
  intro X hO hE
  show cd_J w X 0 0 S I 0 [some (.ref w.1), some (.int n), none, none] []
  obtain ⟨hH, hhd, hV, hIV, hR⟩ := id hG
  have hmm := hV.2.1
  have hm1 : I (w.1 + 1) 3 = nI mm := (hR.at 1 (by omega) rfl rfl).trans hV.1
  refine r_iload hO d_C_lamp_0 rfl ?_
  refine r_k hO d_C_lamp_1 ?_
  refine r_icmp_lt hO d_C_lamp_2 (fun c_2 => ?_) (fun c_2 => ?_)
  · refine r_ldc hO k_C_62 d_C_lamp_11 ?_
    refine r_iret hO hE (Nat.zero_le _) (Nat.zero_le _) d_C_lamp_13 ?_
    exact ⟨by unfold sp_lamp; rw [if_neg (by rintro ⟨q1, q2⟩; simp only [Int32.lt_iff_toInt_lt, Int32.le_iff_toInt_le] at *; omega)], cd_TH.rf _ _ _⟩
  · refine r_iload hO d_C_lamp_5 rfl ?_
    refine r_k hO d_C_lamp_6 ?_
    refine r_icmp_le hO d_C_lamp_8 (fun c_8 => ?_) (fun c_8 => ?_)
    · have c2 : nI 1 ≤ n := (by simp only [Int32.lt_iff_toInt_lt, Int32.le_iff_toInt_le] at *; omega)
      obtain ⟨q, hq1, hq, rfl⟩ := cd_in_ex ⟨c2, c_8⟩ (by decide) (by decide)
      have loop : ∀ (r i : Nat) (S1 : cd_Sp) (I1 : cd_Mem), i + r = q → cd_TH w S I S1 I1 → cd_HG w S1 I1 (w.1 + 19) (cd_hs N mm tc i) mm tc → cd_J w X 0 0 S1 I1 29 [some (.ref w.1), some (.int (nI q)), some (.int (cd_la N mm tc i)), some (.int (nI i))] [] := by
        intro r
        induction r with
        | zero =>
          intro i S1 I1 hi hT1 hG1
          have hiq : i = q := by omega
          subst hiq
          refine r_iload hO d_C_lamp_29 rfl ?_
          refine r_iload hO d_C_lamp_30 rfl ?_
          refine r_icmp_ge hO d_C_lamp_31 (fun c_31 => ?_) (fun c_31 => ?_)
          · refine r_iload hO d_C_lamp_63 rfl ?_
            refine r_iret hO hE (Nat.zero_le _) (Nat.zero_le _) d_C_lamp_64 ?_
            exact ⟨by unfold sp_lamp; rw [if_pos ⟨c2, c_8⟩, cd_tn_nI (show _ < 2 ^ 31 by omega)], hT1⟩
          · exact absurd (nI_le (Nat.le_refl _) (by omega)) c_31
        | succ r ih =>
          intro i S1 I1 hi hT1 hG1
          have hC1 := hT1.cd hC
          refine r_iload hO d_C_lamp_29 rfl ?_
          refine r_iload hO d_C_lamp_30 rfl ?_
          refine r_icmp_ge hO d_C_lamp_31 (fun c_31 => ?_) (fun c_31 => ?_)
          · exact absurd c_31 (nI_ge (by omega) (by omega))
          · refine r_aload hO d_C_lamp_34 rfl ?_
            refine r_getR hO f_C_16 rfl hC1.1 hC1.2.2.1 d_C_lamp_35 ?_
            refine r_k hO d_C_lamp_38 ?_
            refine r_cV1v hO hE (c_H_passHours hG1 1 (by decide)) mf_H_passHours lk_C_146 hG1.1.2.1 rfl (by decide) rfl (Nat.le_of_ble_eq_true rfl) d_C_lamp_39 (Nat.zero_le _) (Nat.zero_le _) ?_
            intro I2 hh2
            have hG2 : cd_HG w S1 I2 (w.1 + 19) (cd_hs N mm tc (i + 1)) mm tc := hh2.1
            have ho2 := hh2.2
            have b7 := hG2.2.2.2.1.2.2.2.1
            refine r_aload hO d_C_lamp_42 rfl ?_
            refine r_getR hO f_C_16 rfl hC1.1 hC1.2.2.1 d_C_lamp_43 ?_
            refine r_getR hO f_C_123 rfl hG1.1.2.1 hG1.1.2.2.1.1 d_C_lamp_46 ?_
            refine r_k hO d_C_lamp_49 ?_
            refine r_iald hO hG1.1.2.2.1.2 (by omega) (by decide) d_C_lamp_50 ?_
            refine r_tops (hG2.2.2.2.2.at 7 (by omega) rfl rfl) ?_
            refine r_if_ne hO d_C_lamp_51 (fun c_51 => ?_) (fun c_51 => ?_)
            · refine r_incN3 hO d_C_lamp_57 rfl ?_
              refine r_goto hO d_C_lamp_60 ?_
              have e7 : cd_la N mm tc i = cd_la N mm tc (i + 1) := by
                show _ = cd_la N mm tc i + (nI 1 - cd_hs N mm tc (i + 1) 7)
                rw [b7.resolve_left c_51]
                exact (Int32.add_zero _).symm
              rw [e7]
              exact ih (i + 1) S1 I2 (by omega) (hT1.of ho2) hG2
            · refine r_inc2 hO d_C_lamp_54 rfl rfl ?_
              refine r_incN3 hO d_C_lamp_57 rfl ?_
              refine r_goto hO d_C_lamp_60 ?_
              have e7 : cd_la N mm tc i + Int32.ofInt 1 = cd_la N mm tc (i + 1) := by
                show _ = cd_la N mm tc i + (nI 1 - cd_hs N mm tc (i + 1) 7)
                rw [c_51]
                rfl
              rw [e7]
              exact ih (i + 1) S1 I2 (by omega) (hT1.of ho2) hG2
      refine r_aload hO d_C_lamp_14 rfl ?_
      refine r_getR hO f_C_16 rfl hC.1 hC.2.2.1 d_C_lamp_15 ?_
      refine r_aload hO d_C_lamp_18 rfl ?_
      refine r_getR hO f_C_10 rfl hC.1 hC.2.1 d_C_lamp_19 ?_
      refine r_think hO hE lk_C_156 (by decide) rfl (Nat.le_of_ble_eq_true rfl) d_C_lamp_22 (Nat.zero_le _) (Nat.zero_le _) hC hG (cd_TH.rf _ _ _) ?_
      intro S1 I1 hT1 hG1
      have hC1 := hT1.cd hC
      have hN1 := hT1.now hG
      refine r_k hO d_C_lamp_25 ?_
      refine r_sI2 hO d_C_lamp_26 rfl ?_
      refine r_k hO d_C_lamp_27 ?_
      refine r_sI3 hO d_C_lamp_28 rfl ?_
      exact loop q 0 S1 I1 (by omega) hT1 hG1
    · refine r_ldc hO k_C_62 d_C_lamp_11 ?_
      refine r_iret hO hE (Nat.zero_le _) (Nat.zero_le _) d_C_lamp_13 ?_
      exact ⟨by unfold sp_lamp; rw [if_neg (by rintro ⟨q1, q2⟩; simp only [Int32.lt_iff_toInt_lt, Int32.le_iff_toInt_le] at *; omega)], cd_TH.rf _ _ _⟩
theorem d_C_quiet_0 : cd_D_aload b_C_quiet 0 0 1 := Or.inr ⟨0, ⟨by decide +kernel, rfl⟩, rfl⟩
theorem d_C_quiet_1 : cd_D 3 b_C_quiet 1 (.getfield 16) 4 := ⟨by decide +kernel, rfl⟩
theorem d_C_quiet_4 : cd_D_aload b_C_quiet 4 0 5 := Or.inr ⟨0, ⟨by decide +kernel, rfl⟩, rfl⟩
theorem d_C_quiet_5 : cd_D 3 b_C_quiet 5 (.getfield 10) 8 := ⟨by decide +kernel, rfl⟩
theorem d_C_quiet_8 : cd_D 3 b_C_quiet 8 (.invokevirtual 156) 11 := ⟨by decide +kernel, rfl⟩
theorem d_C_quiet_11 : cd_Dk b_C_quiet 11 (nI 0) 12 := Or.inl ⟨0, ⟨by decide +kernel, rfl⟩, by decide +kernel⟩
theorem d_C_quiet_12 : cd_D_istore b_C_quiet 12 1 13 := Or.inr ⟨1, ⟨by decide +kernel, rfl⟩, rfl⟩
theorem d_C_quiet_13 : cd_D_iload b_C_quiet 13 1 14 := Or.inr ⟨1, ⟨by decide +kernel, rfl⟩, rfl⟩
theorem d_C_quiet_14 : cd_Dk b_C_quiet 14 (nI 300) 17 := Or.inr (Or.inr ⟨300, ⟨by decide +kernel, rfl⟩, by decide +kernel⟩)
theorem d_C_quiet_17 : cd_D_icmp_gt b_C_quiet 17 46 20 := ⟨29, by decide +kernel, by decide, rfl⟩
theorem d_C_quiet_20 : cd_D_aload b_C_quiet 20 0 21 := Or.inr ⟨0, ⟨by decide +kernel, rfl⟩, rfl⟩
theorem d_C_quiet_21 : cd_D 3 b_C_quiet 21 (.getfield 16) 24 := ⟨by decide +kernel, rfl⟩
theorem d_C_quiet_24 : cd_D 3 b_C_quiet 24 (.invokevirtual 150) 27 := ⟨by decide +kernel, rfl⟩
theorem d_C_quiet_27 : cd_D_if_ne b_C_quiet 27 32 30 := ⟨5, by decide +kernel, by decide, rfl⟩
theorem d_C_quiet_30 : cd_D_iload b_C_quiet 30 1 31 := Or.inr ⟨1, ⟨by decide +kernel, rfl⟩, rfl⟩
theorem d_C_quiet_31 : cd_D 1 b_C_quiet 31 .ireturn 32 := ⟨by decide +kernel, rfl⟩
theorem d_C_quiet_32 : cd_D_aload b_C_quiet 32 0 33 := Or.inr ⟨0, ⟨by decide +kernel, rfl⟩, rfl⟩
theorem d_C_quiet_33 : cd_D 3 b_C_quiet 33 (.getfield 16) 36 := ⟨by decide +kernel, rfl⟩
theorem d_C_quiet_36 : cd_Dk b_C_quiet 36 (nI 1) 37 := Or.inl ⟨1, ⟨by decide +kernel, rfl⟩, by decide +kernel⟩
theorem d_C_quiet_37 : cd_D 3 b_C_quiet 37 (.invokevirtual 146) 40 := ⟨by decide +kernel, rfl⟩
theorem d_C_quiet_40 : cd_D 3 b_C_quiet 40 (.iinc 1 (1)) 43 := ⟨by decide +kernel, rfl⟩
theorem d_C_quiet_43 : cd_D_goto b_C_quiet 43 13 := ⟨-30, by decide +kernel, by decide⟩
theorem d_C_quiet_46 : cd_D 2 b_C_quiet 46 (.ldc 160) 48 := ⟨by decide +kernel, rfl⟩
theorem d_C_quiet_48 : cd_D 1 b_C_quiet 48 .ireturn 49 := ⟨by decide +kernel, rfl⟩
theorem c_C_quiet {l : Launch} {w : cd_WT} {S : cd_Sp} {I : cd_Mem} (hC : cd_CD w S) {mm tc : Nat} {N : Nat → Int32} (hG : cd_HG w S I (w.1 + 1) N mm tc)  : cd_C l w m_C_quiet 6 0 0 [.ref w.1] S I (cd_Pth w S I (sp_quiet N mm tc)) := by
  refine cd_intro (by decide) (by simp [Value.category]) (Nat.le_of_ble_eq_true rfl) ?_
  intro X hO hE
  show cd_J w X 0 0 S I 0 [some (.ref w.1), none] []
  obtain ⟨hH, hhd, hV, hIV, hR⟩ := id hG
  have hmm := hV.2.1
  have loop : ∀ (r i : Nat) (S1 : cd_Sp) (I1 : cd_Mem), i + r = 301 → cd_q N mm tc 301 0 = cd_q N mm tc r i → cd_TH w S I S1 I1 → cd_HG w S1 I1 (w.1 + 19) (cd_hs N mm tc i) mm tc → cd_J w X 0 0 S1 I1 13 [some (.ref w.1), some (.int (nI i))] [] := by
    intro r
    induction r with
    | zero =>
      intro i S1 I1 hi hq hT1 hG1
      have hq2 : cd_q N mm tc 301 0 = 301 := by rw [hq]; show i = 301; omega
      refine r_iload hO d_C_quiet_13 rfl ?_
      refine r_k hO d_C_quiet_14 ?_
      refine r_icmp_gt hO d_C_quiet_17 (fun c_17 => ?_) (fun c_17 => ?_)
      · refine r_ldc hO k_C_160 d_C_quiet_46 ?_
        refine r_iret hO hE (Nat.zero_le _) (Nat.zero_le _) d_C_quiet_48 ?_
        exact ⟨by unfold sp_quiet; rw [hq2, if_neg (by decide)], hT1⟩
      · exact absurd (nI_lt (by omega) (by omega)) c_17
    | succ r ih =>
      intro i S1 I1 hi hq hT1 hG1
      have hC1 := hT1.cd hC
      obtain ⟨b, hb9, hb⟩ := cd_hb_ex hG1.2.2.2.1 mm (Nat.le_refl _)
      have hqs : cd_q N mm tc (r + 1) i = if cd_hb (cd_hs N mm tc i) mm ≤ 0 then i else cd_q N mm tc r (i + 1) := rfl
      refine r_iload hO d_C_quiet_13 rfl ?_
      refine r_k hO d_C_quiet_14 ?_
      refine r_icmp_gt hO d_C_quiet_17 (fun c_17 => ?_) (fun c_17 => ?_)
      · exact absurd c_17 (nI_nlt (by omega) (by omega))
      · refine r_aload hO d_C_quiet_20 rfl ?_
        refine r_getR hO f_C_16 rfl hC1.1 hC1.2.2.1 d_C_quiet_21 ?_
        refine r_cV0fi hO hE (c_H_habitSum hG1) mf_H_habitSum lk_C_150 hG1.1.2.1 rfl (by decide) rfl (Nat.le_of_ble_eq_true rfl) d_C_quiet_24 (Nat.zero_le _) (Nat.zero_le _) ?_
        refine r_if_ne hO d_C_quiet_27 (fun c_27 => ?_) (fun c_27 => ?_)
        · refine r_aload hO d_C_quiet_32 rfl ?_
          refine r_getR hO f_C_16 rfl hC1.1 hC1.2.2.1 d_C_quiet_33 ?_
          refine r_k hO d_C_quiet_36 ?_
          refine r_cV1v hO hE (c_H_passHours hG1 1 (by decide)) mf_H_passHours lk_C_146 hG1.1.2.1 rfl (by decide) rfl (Nat.le_of_ble_eq_true rfl) d_C_quiet_37 (Nat.zero_le _) (Nat.zero_le _) ?_
          intro I2 hh2
          have hG2 : cd_HG w S1 I2 (w.1 + 19) (cd_hs N mm tc (i + 1)) mm tc := hh2.1
          have ho2 := hh2.2
          refine r_incN1 hO d_C_quiet_40 rfl ?_
          refine r_goto hO d_C_quiet_43 ?_
          refine ih (i + 1) S1 I2 (by omega) ?_ (hT1.of ho2) hG2
          rw [hq, hqs, if_neg]
          intro q
          apply c_27
          rw [hb] at q ⊢
          rcases Nat.eq_zero_or_pos b with hb0 | hb0
          · rw [hb0]; rfl
          · exact absurd q (nI_nle hb0 (by omega))
        · refine r_iload hO d_C_quiet_30 rfl ?_
          refine r_iret hO hE (Nat.zero_le _) (Nat.zero_le _) d_C_quiet_31 ?_
          exact ⟨by unfold sp_quiet; rw [hq, hqs, if_pos (show cd_hb (cd_hs N mm tc i) mm ≤ 0 by rw [c_27]; decide), if_pos (by omega)], hT1⟩
  refine r_aload hO d_C_quiet_0 rfl ?_
  refine r_getR hO f_C_16 rfl hC.1 hC.2.2.1 d_C_quiet_1 ?_
  refine r_aload hO d_C_quiet_4 rfl ?_
  refine r_getR hO f_C_10 rfl hC.1 hC.2.1 d_C_quiet_5 ?_
  refine r_think hO hE lk_C_156 (by decide) rfl (Nat.le_of_ble_eq_true rfl) d_C_quiet_8 (Nat.zero_le _) (Nat.zero_le _) hC hG (cd_TH.rf _ _ _) ?_
  intro S1 I1 hT1 hG1
  have hC1 := hT1.cd hC
  have hN1 := hT1.now hG
  refine r_k hO d_C_quiet_11 ?_
  refine r_sI1 hO d_C_quiet_12 rfl ?_
  exact loop 301 0 S1 I1 (by omega) rfl hT1 hG1
