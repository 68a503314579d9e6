/-- risings grow by no more than one an asking and an hour -/
theorem cd_10_a (N : Nat → Int32) (v : Int32) {j : Nat} (h : 10 ≠ j) : upd N j v 10 = N 10 := if_neg h
theorem cd_p0 (x : Int32) : x = x + nI 0 := by rw [nI_0, Int32.add_zero]
theorem cd_10_go (N : Nat → Int32) : cd_go N 10 = N 10 := by
  unfold cd_go
  split
  · rw [cd_10_a _ _ (by omega), cd_10_a _ _ (by omega)]
  · rw [cd_10_a _ _ (by omega), cd_10_a _ _ (by omega)]
theorem cd_10_dr (N : Nat → Int32) : cd_dr N 10 = N 10 := by
  unfold cd_dr upd
  exact if_neg (by decide)
theorem cd_gm_2 (N : Nat → Int32) (i : Nat) : (cd_gm N i).2 = cd_dr N ∨ (cd_gm N i).2 = cd_go (cd_dr N) := by
  unfold cd_gm
  split
  · exact Or.inl rfl
  · exact Or.inr rfl
theorem cd_10_gm (N : Nat → Int32) (i : Nat) : (cd_gm N i).2 10 = N 10 :=
  (cd_gm_2 N i).elim (fun h => (congrFun h 10).trans (cd_10_dr N)) (fun h => (congrFun h 10).trans ((cd_10_go _).trans (cd_10_dr N)))
theorem cd_10_le (N : Nat → Int32) (i : Nat) : cd_le N i 10 = N 10 := by
  unfold cd_le cd_le1
  rw [cd_10_a _ _ (by omega), cd_10_a _ _ (by omega)]
theorem cd_10_up (N : Nat → Int32) (v : Int32) : upd N 10 v 10 = v := if_pos rfl
theorem cd_ri_2 (N : Nat → Int32) (i : Nat) : cd_ri N i = cd_gm (cd_le (upd N 10 (N 10 + nI 1)) i) i := by unfold cd_ri; rfl
theorem cd_10_ri (N : Nat → Int32) (i : Nat) : (cd_ri N i).2 10 = N 10 + nI 1 := by
  rw [cd_ri_2, cd_10_gm, cd_10_le, cd_10_up]
theorem cd_10_ak (N : Nat → Int32) (i tc : Nat) : ∃ k, k ≤ 1 ∧ cd_ak N i tc 10 = N 10 + nI k := by
  unfold cd_ak
  split
  · exact ⟨0, by omega, (cd_10_gm N i).trans (cd_p0 _)⟩
  · split
    · refine ⟨0, by omega, ?_⟩
      rw [cd_10_a _ _ (by omega), cd_10_a _ _ (by omega)]
      exact cd_p0 _
    · exact ⟨1, by omega, cd_10_ri N i⟩
theorem cd_10_one (N : Nat → Int32) (i tc : Nat) : ∃ k, k ≤ 1 ∧ cd_one N i tc 10 = N 10 + nI k := by
  unfold cd_one
  split
  · split
    · exact ⟨0, by omega, (cd_10_dr N).trans (cd_p0 _)⟩
    · obtain ⟨k, k1, k2⟩ := cd_10_ak (cd_dr N) i tc
      exact ⟨k, k1, by rw [k2, cd_10_dr]⟩
  · exact ⟨0, by omega, cd_p0 _⟩
theorem cd_10_lp (N : Nat → Int32) (tc : Nat) : ∀ i, ∃ k, k ≤ i ∧ cd_lp N tc i 10 = N 10 + nI k
  | 0 => ⟨0, by omega, cd_p0 _⟩
  | i + 1 => by
    obtain ⟨k, k1, k2⟩ := cd_10_lp N tc i
    obtain ⟨z, z1, z2⟩ := cd_10_one (cd_lp N tc i) i tc
    refine ⟨k + z, by omega, ?_⟩
    show cd_one (cd_lp N tc i) i tc 10 = _
    rw [z2, k2, Int32.add_assoc, nI_add]
theorem cd_10_hr (N : Nat → Int32) (mm tc : Nat) : ∃ k, k ≤ mm ∧ cd_hr N mm tc 10 = N 10 + nI k := by
  obtain ⟨k, k1, k2⟩ := cd_10_lp (cd_w2 (cd_w1 N)) tc mm
  refine ⟨k, k1, ?_⟩
  unfold cd_hr cd_ed
  rw [cd_10_a _ _ (by omega), cd_10_a _ _ (by omega), k2]
  unfold cd_w2 cd_w1
  rw [cd_10_a _ _ (by omega), cd_10_dr, cd_10_a _ _ (by omega), cd_10_dr]
theorem cd_10_hs (N : Nat → Int32) (mm tc : Nat) : ∀ n, ∃ k, k ≤ mm * n ∧ cd_hs N mm tc n 10 = N 10 + nI k
  | 0 => ⟨0, by omega, cd_p0 _⟩
  | n + 1 => by
    obtain ⟨k, k1, k2⟩ := cd_10_hs N mm tc n
    obtain ⟨z, z1, z2⟩ := cd_10_hr (cd_hs N mm tc n) mm tc
    refine ⟨k + z, by rw [Nat.mul_succ]; omega, ?_⟩
    show cd_hr (cd_hs N mm tc n) mm tc 10 = _
    rw [z2, k2, Int32.add_assoc, nI_add]
/-- the best so far -/
def cd_bi (f : Nat → Int32) (p : Nat) (b l : Int32) : Prop := (p = 0 ∧ b = nI 0 ∧ l = 2147483647) ∨ ∃ k, k < p ∧ b = nI k ∧ cd_bm f p = (b, l)
theorem cd_bi_s {f : Nat → Int32} {p : Nat} {b l x : Int32} (h : cd_bi f p b l) (hp : p < 2 ^ 30) (hx : x = f p) {q : Nat} (hq : x = nI q) (hq2 : q < 2 ^ 31 - 1) : (l ≤ x → cd_bi f (p + 1) b l) ∧ (¬ l ≤ x → cd_bi f (p + 1) (nI p) x) := by
  rcases h with ⟨rfl, rfl, rfl⟩ | ⟨k, k1, rfl, k3⟩
  · refine ⟨fun h => ?_, fun h => Or.inr ⟨0, by omega, rfl, cd_bm_a (b := -1) (l := nI 0) rfl hx (by decide)⟩⟩
    exfalso
    rw [Int32.le_iff_toInt_le, hq, nI_toInt (by omega)] at h
    have e : (2147483647 : Int32).toInt = 2147483647 := rfl
    omega
  · exact ⟨fun h => Or.inr ⟨k, by omega, rfl, cd_bm_b k3 hx (nI_pos (by omega)) h⟩, fun h => Or.inr ⟨p, by omega, rfl, cd_bm_c k3 hx (nI_pos (by omega)) h⟩⟩
theorem d_C_firm_0 : cd_D_iload b_C_firm 0 1 1 := Or.inr ⟨1, ⟨by decide +kernel, rfl⟩, rfl⟩
theorem d_C_firm_1 : cd_Dk b_C_firm 1 (nI 1) 2 := Or.inl ⟨1, ⟨by decide +kernel, rfl⟩, by decide +kernel⟩
theorem d_C_firm_2 : cd_D_icmp_lt b_C_firm 2 20 5 := ⟨18, by decide +kernel, by decide, rfl⟩
theorem d_C_firm_5 : cd_D_iload b_C_firm 5 1 6 := Or.inr ⟨1, ⟨by decide +kernel, rfl⟩, rfl⟩
theorem d_C_firm_6 : cd_Dk b_C_firm 6 (nI 48) 8 := Or.inr (Or.inl ⟨48, ⟨by decide +kernel, rfl⟩, by decide +kernel⟩)
theorem d_C_firm_8 : cd_D_icmp_gt b_C_firm 8 20 11 := ⟨12, by decide +kernel, by decide, rfl⟩
theorem d_C_firm_11 : cd_D_iload b_C_firm 11 2 12 := Or.inr ⟨2, ⟨by decide +kernel, rfl⟩, rfl⟩
theorem d_C_firm_12 : cd_D_if_lt b_C_firm 12 20 15 := ⟨8, by decide +kernel, by decide, rfl⟩
theorem d_C_firm_15 : cd_D_iload b_C_firm 15 2 16 := Or.inr ⟨2, ⟨by decide +kernel, rfl⟩, rfl⟩
theorem d_C_firm_16 : cd_Dk b_C_firm 16 (nI 1) 17 := Or.inl ⟨1, ⟨by decide +kernel, rfl⟩, by decide +kernel⟩
theorem d_C_firm_17 : cd_D_icmp_le b_C_firm 17 23 20 := ⟨6, by decide +kernel, by decide, rfl⟩
theorem d_C_firm_20 : cd_D 2 b_C_firm 20 (.ldc 62) 22 := ⟨by decide +kernel, rfl⟩
theorem d_C_firm_22 : cd_D 1 b_C_firm 22 .ireturn 23 := ⟨by decide +kernel, rfl⟩
theorem d_C_firm_23 : cd_Dk b_C_firm 23 (nI 0) 24 := Or.inl ⟨0, ⟨by decide +kernel, rfl⟩, by decide +kernel⟩
theorem d_C_firm_24 : cd_D_istore b_C_firm 24 3 25 := Or.inr ⟨3, ⟨by decide +kernel, rfl⟩, rfl⟩
theorem d_C_firm_25 : cd_D 2 b_C_firm 25 (.ldc 163) 27 := ⟨by decide +kernel, rfl⟩
theorem d_C_firm_27 : cd_D_istore b_C_firm 27 4 29 := Or.inl ⟨by decide +kernel, rfl⟩
theorem d_C_firm_29 : cd_Dk b_C_firm 29 (nI 0) 30 := Or.inl ⟨0, ⟨by decide +kernel, rfl⟩, by decide +kernel⟩
theorem d_C_firm_30 : cd_D_istore b_C_firm 30 5 32 := Or.inl ⟨by decide +kernel, rfl⟩
theorem d_C_firm_32 : cd_D_iload b_C_firm 32 5 34 := Or.inl ⟨by decide +kernel, rfl⟩
theorem d_C_firm_34 : cd_Dk b_C_firm 34 (nI 99) 36 := Or.inr (Or.inl ⟨99, ⟨by decide +kernel, rfl⟩, by decide +kernel⟩)
theorem d_C_firm_36 : cd_D_icmp_gt b_C_firm 36 98 39 := ⟨62, by decide +kernel, by decide, rfl⟩
theorem d_C_firm_39 : cd_D_aload b_C_firm 39 0 40 := Or.inr ⟨0, ⟨by decide +kernel, rfl⟩, rfl⟩
theorem d_C_firm_40 : cd_D 3 b_C_firm 40 (.getfield 16) 43 := ⟨by decide +kernel, rfl⟩
theorem d_C_firm_43 : cd_D_aload b_C_firm 43 0 44 := Or.inr ⟨0, ⟨by decide +kernel, rfl⟩, rfl⟩
theorem d_C_firm_44 : cd_D 3 b_C_firm 44 (.getfield 10) 47 := ⟨by decide +kernel, rfl⟩
theorem d_C_firm_47 : cd_D 3 b_C_firm 47 (.invokevirtual 156) 50 := ⟨by decide +kernel, rfl⟩
theorem d_C_firm_50 : cd_D_aload b_C_firm 50 0 51 := Or.inr ⟨0, ⟨by decide +kernel, rfl⟩, rfl⟩
theorem d_C_firm_51 : cd_D 3 b_C_firm 51 (.getfield 16) 54 := ⟨by decide +kernel, rfl⟩
theorem d_C_firm_54 : cd_D 3 b_C_firm 54 (.getfield 123) 57 := ⟨by decide +kernel, rfl⟩
theorem d_C_firm_57 : cd_Dk b_C_firm 57 (nI 0) 58 := Or.inl ⟨0, ⟨by decide +kernel, rfl⟩, by decide +kernel⟩
theorem d_C_firm_58 : cd_D_iload b_C_firm 58 5 60 := Or.inl ⟨by decide +kernel, rfl⟩
theorem d_C_firm_60 : cd_D 1 b_C_firm 60 .iastore 61 := ⟨by decide +kernel, rfl⟩
theorem d_C_firm_61 : cd_D_aload b_C_firm 61 0 62 := Or.inr ⟨0, ⟨by decide +kernel, rfl⟩, rfl⟩
theorem d_C_firm_62 : cd_D 3 b_C_firm 62 (.getfield 16) 65 := ⟨by decide +kernel, rfl⟩
theorem d_C_firm_65 : cd_D_iload b_C_firm 65 1 66 := Or.inr ⟨1, ⟨by decide +kernel, rfl⟩, rfl⟩
theorem d_C_firm_66 : cd_D 3 b_C_firm 66 (.invokevirtual 146) 69 := ⟨by decide +kernel, rfl⟩
theorem d_C_firm_69 : cd_D_aload b_C_firm 69 0 70 := Or.inr ⟨0, ⟨by decide +kernel, rfl⟩, rfl⟩
theorem d_C_firm_70 : cd_D 3 b_C_firm 70 (.getfield 16) 73 := ⟨by decide +kernel, rfl⟩
theorem d_C_firm_73 : cd_D 3 b_C_firm 73 (.invokevirtual 150) 76 := ⟨by decide +kernel, rfl⟩
theorem d_C_firm_76 : cd_D_istore b_C_firm 76 6 78 := Or.inl ⟨by decide +kernel, rfl⟩
theorem d_C_firm_78 : cd_D_iload b_C_firm 78 6 80 := Or.inl ⟨by decide +kernel, rfl⟩
theorem d_C_firm_80 : cd_D_iload b_C_firm 80 4 82 := Or.inl ⟨by decide +kernel, rfl⟩
theorem d_C_firm_82 : cd_D_icmp_ge b_C_firm 82 92 85 := ⟨10, by decide +kernel, by decide, rfl⟩
theorem d_C_firm_85 : cd_D_iload b_C_firm 85 6 87 := Or.inl ⟨by decide +kernel, rfl⟩
theorem d_C_firm_87 : cd_D_istore b_C_firm 87 4 89 := Or.inl ⟨by decide +kernel, rfl⟩
theorem d_C_firm_89 : cd_D_iload b_C_firm 89 5 91 := Or.inl ⟨by decide +kernel, rfl⟩
theorem d_C_firm_91 : cd_D_istore b_C_firm 91 3 92 := Or.inr ⟨3, ⟨by decide +kernel, rfl⟩, rfl⟩
theorem d_C_firm_92 : cd_D 3 b_C_firm 92 (.iinc 5 (1)) 95 := ⟨by decide +kernel, rfl⟩
theorem d_C_firm_95 : cd_D_goto b_C_firm 95 32 := ⟨-63, by decide +kernel, by decide⟩
theorem d_C_firm_98 : cd_D_iload b_C_firm 98 2 99 := Or.inr ⟨2, ⟨by decide +kernel, rfl⟩, rfl⟩
theorem d_C_firm_99 : cd_D_if_ne b_C_firm 99 106 102 := ⟨7, by decide +kernel, by decide, rfl⟩
theorem d_C_firm_102 : cd_D_iload b_C_firm 102 3 103 := Or.inr ⟨3, ⟨by decide +kernel, rfl⟩, rfl⟩
theorem d_C_firm_103 : cd_D_goto b_C_firm 103 108 := ⟨5, by decide +kernel, by decide⟩
theorem d_C_firm_106 : cd_D_iload b_C_firm 106 4 108 := Or.inl ⟨by decide +kernel, rfl⟩
theorem d_C_firm_108 : cd_D 1 b_C_firm 108 .ireturn 109 := ⟨by decide +kernel, rfl⟩
theorem c_C_firm {l : Launch} {w : cd_WT} {S : cd_Sp} {I : cd_Mem} (hC : cd_CD w S) {mm tc : Nat} {N : Nat → Int32} (hG : cd_HG w S I (w.1 + 1) N mm tc) (n z : Int32) : cd_C l w m_C_firm 6 0 0 [.ref w.1, .int n, .int z] S I (cd_Pth w S I (sp_firm N mm tc n z)) := by
  refine cd_intro (by decide) (by simp [Value.category]) (Nat.le_of_ble_eq_true rfl) ?_
  intro X hO hE
  show cd_J w X 0 0 S I 0 [some (.ref w.1), some (.int n), some (.int z), none, none, none, none] []
  obtain ⟨hH, hhd, hV, hIV, hR⟩ := id hG
  have hmm := hV.2.1
  have hm1 : I (w.1 + 1) 3 = nI mm := (hR.at 1 (by omega) rfl rfl).trans hV.1
  refine r_iload hO d_C_firm_0 rfl ?_
  refine r_k hO d_C_firm_1 ?_
  refine r_icmp_lt hO d_C_firm_2 (fun c_2 => ?_) (fun c_2 => ?_)
  · refine r_ldc hO k_C_62 d_C_firm_20 ?_
    refine r_iret hO hE (Nat.zero_le _) (Nat.zero_le _) d_C_firm_22 ?_
    exact ⟨by unfold sp_firm; rw [if_neg (c := nI 1 ≤ n ∧ n ≤ nI 48) (by rintro ⟨q1, q2⟩; simp only [Int32.lt_iff_toInt_lt, Int32.le_iff_toInt_le] at *; omega)], cd_TH.rf _ _ _⟩
  · refine r_iload hO d_C_firm_5 rfl ?_
    refine r_k hO d_C_firm_6 ?_
    refine r_icmp_gt hO d_C_firm_8 (fun c_8 => ?_) (fun c_8 => ?_)
    · refine r_ldc hO k_C_62 d_C_firm_20 ?_
      refine r_iret hO hE (Nat.zero_le _) (Nat.zero_le _) d_C_firm_22 ?_
      exact ⟨by unfold sp_firm; rw [if_neg (c := nI 1 ≤ n ∧ n ≤ nI 48) (by rintro ⟨q1, q2⟩; simp only [Int32.lt_iff_toInt_lt, Int32.le_iff_toInt_le] at *; omega)], cd_TH.rf _ _ _⟩
    · refine r_iload hO d_C_firm_11 rfl ?_
      refine r_if_lt hO d_C_firm_12 (fun c_12 => ?_) (fun c_12 => ?_)
      · refine r_ldc hO k_C_62 d_C_firm_20 ?_
        refine r_iret hO hE (Nat.zero_le _) (Nat.zero_le _) d_C_firm_22 ?_
        exact ⟨by unfold sp_firm; rw [if_neg (c := nI 0 ≤ z ∧ z ≤ nI 1) (by rintro ⟨q1, q2⟩; have e0 : (nI 0).toInt = 0 := rfl; have e1 : (0 : Int32).toInt = 0 := rfl; simp only [Int32.lt_iff_toInt_lt, Int32.le_iff_toInt_le] at *; omega), ite_self], cd_TH.rf _ _ _⟩
      · refine r_iload hO d_C_firm_15 rfl ?_
        refine r_k hO d_C_firm_16 ?_
        refine r_icmp_le hO d_C_firm_17 (fun c_17 => ?_) (fun c_17 => ?_)
        · have c2 : nI 1 ≤ n := (by simp only [Int32.lt_iff_toInt_lt, Int32.le_iff_toInt_le] at *; omega)
          have hc8 : n ≤ nI 48 := (by simp only [Int32.lt_iff_toInt_lt, Int32.le_iff_toInt_le] at *; omega)
          have hz : nI 0 ≤ z ∧ z ≤ nI 1 := ⟨cd_le0 c_12, c_17⟩
          obtain ⟨q, hq1, hq, rfl⟩ := cd_in_ex ⟨c2, hc8⟩ (by decide) (by decide)
          have loop : ∀ (r p : Nat) (S1 : cd_Sp) (I1 : cd_Mem) (b e : Int32) (x6 : Option Value), p + r = 100 → cd_bi (fun p => cd_hb (cd_hs (upd N 3 (nI p)) mm tc q) mm) p b e → cd_TH w S I S1 I1 → cd_J w X 0 0 S1 I1 32 [some (.ref w.1), some (.int (nI q)), some (.int z), some (.int b), some (.int e), some (.int (nI p)), x6] [] := by
            intro r
            induction r with
            | zero =>
              intro p S1 I1 b e x6 hp hb hT1
              have hp1 : p = 100 := by omega
              subst hp1
              obtain ⟨k, -, -, hk⟩ := hb.resolve_left (fun q => absurd q.1 (by decide))
              refine r_iload hO d_C_firm_32 rfl ?_
              refine r_k hO d_C_firm_34 ?_
              refine r_icmp_gt hO d_C_firm_36 (fun c_36 => ?_) (fun c_36 => ?_)
              · refine r_iload hO d_C_firm_98 rfl ?_
                refine r_if_ne hO d_C_firm_99 (fun c_99 => ?_) (fun c_99 => ?_)
                · refine r_iload hO d_C_firm_106 rfl ?_
                  refine r_iret hO hE (Nat.zero_le _) (Nat.zero_le _) d_C_firm_108 ?_
                  exact ⟨by unfold sp_firm; rw [if_pos ⟨c2, hc8⟩, if_pos hz, cd_tn_nI (show _ < 2 ^ 31 by omega), if_neg c_99, hk], hT1⟩
                · refine r_iload hO d_C_firm_102 rfl ?_
                  refine r_goto hO d_C_firm_103 ?_
                  refine r_iret hO hE (Nat.zero_le _) (Nat.zero_le _) d_C_firm_108 ?_
                  exact ⟨by unfold sp_firm; rw [if_pos ⟨c2, hc8⟩, if_pos hz, cd_tn_nI (show _ < 2 ^ 31 by omega), if_pos c_99, hk], hT1⟩
              · exact absurd (nI_lt (by omega) (by omega)) c_36
            | succ r ih =>
              intro p S1 I1 b e x6 hp hb hT1
              have hC1 := hT1.cd hC
              have hN1 := hT1.now hG
              have hO1 : cd_HO w S1 (w.1 + 19) := hC1.2.2.2.2.2.2.2.2.2.2.1
              refine r_iload hO d_C_firm_32 rfl ?_
              refine r_k hO d_C_firm_34 ?_
              refine r_icmp_gt hO d_C_firm_36 (fun c_36 => ?_) (fun c_36 => ?_)
              · exact absurd c_36 (nI_nlt (by omega) (by omega))
              · refine r_aload hO d_C_firm_39 rfl ?_
                refine r_getR hO f_C_16 rfl hC1.1 hC1.2.2.1 d_C_firm_40 ?_
                refine r_aload hO d_C_firm_43 rfl ?_
                refine r_getR hO f_C_10 rfl hC1.1 hC1.2.1 d_C_firm_44 ?_
                refine r_think hO hE lk_C_156 (by decide) rfl (Nat.le_of_ble_eq_true rfl) d_C_firm_47 (Nat.zero_le _) (Nat.zero_le _) hC hG hT1 ?_
                intro S3 I3 hT3 hG3
                have hC3 := hT3.cd hC
                have hN3 := hT3.now hG
                refine r_aload hO d_C_firm_50 rfl ?_
                refine r_getR hO f_C_16 rfl hC3.1 hC3.2.2.1 d_C_firm_51 ?_
                refine r_getR hO f_C_123 rfl hG3.1.2.1 hG3.1.2.2.1.1 d_C_firm_54 ?_
                refine r_k hO d_C_firm_57 ?_
                refine r_iload hO d_C_firm_58 rfl ?_
                refine r_iast hO hG3.1.2.2.1.2 (Nat.le_trans hG3.1.1 (Nat.le_add_right _ _)) (by omega) (by decide) d_C_firm_60 ?_
                have hGa := cd_HG_w hG3 3 (by decide) (by decide) (by decide) (a := w.1 + 19 + 1) (k := 0) rfl rfl (nI p) (cd_IV_rule hG3.2.2.2.1 (q := 0) (by decide) ⟨nI_le (by omega) (by omega), nI_le (b := 99) (by omega) (by omega)⟩)
                refine r_aload hO d_C_firm_61 rfl ?_
                refine r_getR hO f_C_16 rfl hC3.1 hC3.2.2.1 d_C_firm_62 ?_
                refine r_iload hO d_C_firm_65 rfl ?_
                refine r_cV1v hO hE (c_H_passHours hGa _ (by omega)) mf_H_passHours lk_C_146 hG3.1.2.1 rfl (by decide) rfl (Nat.le_of_ble_eq_true rfl) d_C_firm_66 (Nat.zero_le _) (Nat.zero_le _) ?_
                rintro I4 ⟨hG4, ho4⟩
                refine r_aload hO d_C_firm_69 rfl ?_
                refine r_getR hO f_C_16 rfl hC3.1 hC3.2.2.1 d_C_firm_70 ?_
                refine r_cV0fi hO hE (c_H_habitSum hG4) mf_H_habitSum lk_C_150 hG3.1.2.1 rfl (by decide) rfl (Nat.le_of_ble_eq_true rfl) d_C_firm_73 (Nat.zero_le _) (Nat.zero_le _) ?_
                obtain ⟨v, hv, ev⟩ := cd_hb_ex hG4.2.2.2.1 mm (Nat.le_refl _)
                have hbs := cd_bi_s hb (by omega) (x := cd_hb (cd_hs (upd N 3 (nI p)) mm tc q) mm) rfl ev (by omega)
                refine r_sI6 hO d_C_firm_76 rfl ?_
                refine r_iload hO d_C_firm_78 rfl ?_
                refine r_iload hO d_C_firm_80 rfl ?_
                refine r_icmp_ge hO d_C_firm_82 (fun c_82 => ?_) (fun c_82 => ?_)
                · refine r_incN5 hO d_C_firm_92 rfl ?_
                  refine r_goto hO d_C_firm_95 ?_
                  exact ih (p + 1) S3 I4 _ _ _ (by omega) (hbs.1 c_82) ((hT3.of (cd_ofh.set _ _ (cd_wr_in (by omega) (by omega)))).of ho4)
                · refine r_iload hO d_C_firm_85 rfl ?_
                  refine r_sI4 hO d_C_firm_87 rfl ?_
                  refine r_iload hO d_C_firm_89 rfl ?_
                  refine r_sI3 hO d_C_firm_91 rfl ?_
                  refine r_incN5 hO d_C_firm_92 rfl ?_
                  refine r_goto hO d_C_firm_95 ?_
                  exact ih (p + 1) S3 I4 _ _ _ (by omega) (hbs.2 c_82) ((hT3.of (cd_ofh.set _ _ (cd_wr_in (by omega) (by omega)))).of ho4)
          refine r_k hO d_C_firm_23 ?_
          refine r_sI3 hO d_C_firm_24 rfl ?_
          refine r_ldc hO k_C_163 d_C_firm_25 ?_
          refine r_sI4 hO d_C_firm_27 rfl ?_
          refine r_k hO d_C_firm_29 ?_
          refine r_sI5 hO d_C_firm_30 rfl ?_
          exact loop 100 0 S I _ _ _ (by omega) (Or.inl ⟨rfl, rfl, rfl⟩) (cd_TH.rf _ _ _)
        · refine r_ldc hO k_C_62 d_C_firm_20 ?_
          refine r_iret hO hE (Nat.zero_le _) (Nat.zero_le _) d_C_firm_22 ?_
          exact ⟨by unfold sp_firm; rw [if_neg (c := nI 0 ≤ z ∧ z ≤ nI 1) (by rintro ⟨q1, q2⟩; have e0 : (nI 0).toInt = 0 := rfl; have e1 : (0 : Int32).toInt = 0 := rfl; simp only [Int32.lt_iff_toInt_lt, Int32.le_iff_toInt_le] at *; omega), ite_self], cd_TH.rf _ _ _⟩
theorem d_C_heard_0 : cd_D_iload b_C_heard 0 1 1 := Or.inr ⟨1, ⟨by decide +kernel, rfl⟩, rfl⟩
theorem d_C_heard_1 : cd_Dk b_C_heard 1 (nI 1) 2 := Or.inl ⟨1, ⟨by decide +kernel, rfl⟩, by decide +kernel⟩
theorem d_C_heard_2 : cd_D_icmp_lt b_C_heard 2 20 5 := ⟨18, by decide +kernel, by decide, rfl⟩
theorem d_C_heard_5 : cd_D_iload b_C_heard 5 1 6 := Or.inr ⟨1, ⟨by decide +kernel, rfl⟩, rfl⟩
theorem d_C_heard_6 : cd_Dk b_C_heard 6 (nI 100) 8 := Or.inr (Or.inl ⟨100, ⟨by decide +kernel, rfl⟩, by decide +kernel⟩)
theorem d_C_heard_8 : cd_D_icmp_gt b_C_heard 8 20 11 := ⟨12, by decide +kernel, by decide, rfl⟩
theorem d_C_heard_11 : cd_D_iload b_C_heard 11 2 12 := Or.inr ⟨2, ⟨by decide +kernel, rfl⟩, rfl⟩
theorem d_C_heard_12 : cd_D_if_lt b_C_heard 12 20 15 := ⟨8, by decide +kernel, by decide, rfl⟩
theorem d_C_heard_15 : cd_D_iload b_C_heard 15 2 16 := Or.inr ⟨2, ⟨by decide +kernel, rfl⟩, rfl⟩
theorem d_C_heard_16 : cd_Dk b_C_heard 16 (nI 1) 17 := Or.inl ⟨1, ⟨by decide +kernel, rfl⟩, by decide +kernel⟩
theorem d_C_heard_17 : cd_D_icmp_le b_C_heard 17 23 20 := ⟨6, by decide +kernel, by decide, rfl⟩
theorem d_C_heard_20 : cd_D 2 b_C_heard 20 (.ldc 62) 22 := ⟨by decide +kernel, rfl⟩
theorem d_C_heard_22 : cd_D 1 b_C_heard 22 .ireturn 23 := ⟨by decide +kernel, rfl⟩
theorem d_C_heard_23 : cd_D_aload b_C_heard 23 0 24 := Or.inr ⟨0, ⟨by decide +kernel, rfl⟩, rfl⟩
theorem d_C_heard_24 : cd_D 3 b_C_heard 24 (.getfield 10) 27 := ⟨by decide +kernel, rfl⟩
theorem d_C_heard_27 : cd_D 3 b_C_heard 27 (.getfield 63) 30 := ⟨by decide +kernel, rfl⟩
theorem d_C_heard_30 : cd_D_if_ne b_C_heard 30 36 33 := ⟨6, by decide +kernel, by decide, rfl⟩
theorem d_C_heard_33 : cd_D 2 b_C_heard 33 (.ldc 160) 35 := ⟨by decide +kernel, rfl⟩
theorem d_C_heard_35 : cd_D 1 b_C_heard 35 .ireturn 36 := ⟨by decide +kernel, rfl⟩
theorem d_C_heard_36 : cd_Dk b_C_heard 36 (nI 0) 37 := Or.inl ⟨0, ⟨by decide +kernel, rfl⟩, by decide +kernel⟩
theorem d_C_heard_37 : cd_D_istore b_C_heard 37 3 38 := Or.inr ⟨3, ⟨by decide +kernel, rfl⟩, rfl⟩
theorem d_C_heard_38 : cd_D 2 b_C_heard 38 (.ldc 163) 40 := ⟨by decide +kernel, rfl⟩
theorem d_C_heard_40 : cd_D_istore b_C_heard 40 4 42 := Or.inl ⟨by decide +kernel, rfl⟩
theorem d_C_heard_42 : cd_Dk b_C_heard 42 (nI 0) 43 := Or.inl ⟨0, ⟨by decide +kernel, rfl⟩, by decide +kernel⟩
theorem d_C_heard_43 : cd_D_istore b_C_heard 43 5 45 := Or.inl ⟨by decide +kernel, rfl⟩
theorem d_C_heard_45 : cd_D_iload b_C_heard 45 5 47 := Or.inl ⟨by decide +kernel, rfl⟩
theorem d_C_heard_47 : cd_D_aload b_C_heard 47 0 48 := Or.inr ⟨0, ⟨by decide +kernel, rfl⟩, rfl⟩
theorem d_C_heard_48 : cd_D 3 b_C_heard 48 (.getfield 10) 51 := ⟨by decide +kernel, rfl⟩
theorem d_C_heard_51 : cd_D 3 b_C_heard 51 (.getfield 63) 54 := ⟨by decide +kernel, rfl⟩
theorem d_C_heard_54 : cd_D_icmp_ge b_C_heard 54 121 57 := ⟨67, by decide +kernel, by decide, rfl⟩
theorem d_C_heard_57 : cd_D_aload b_C_heard 57 0 58 := Or.inr ⟨0, ⟨by decide +kernel, rfl⟩, rfl⟩
theorem d_C_heard_58 : cd_D 3 b_C_heard 58 (.getfield 16) 61 := ⟨by decide +kernel, rfl⟩
theorem d_C_heard_61 : cd_D_aload b_C_heard 61 0 62 := Or.inr ⟨0, ⟨by decide +kernel, rfl⟩, rfl⟩
theorem d_C_heard_62 : cd_D 3 b_C_heard 62 (.getfield 10) 65 := ⟨by decide +kernel, rfl⟩
theorem d_C_heard_65 : cd_D 3 b_C_heard 65 (.invokevirtual 156) 68 := ⟨by decide +kernel, rfl⟩
theorem d_C_heard_68 : cd_D_aload b_C_heard 68 0 69 := Or.inr ⟨0, ⟨by decide +kernel, rfl⟩, rfl⟩
theorem d_C_heard_69 : cd_D 3 b_C_heard 69 (.getfield 16) 72 := ⟨by decide +kernel, rfl⟩
theorem d_C_heard_72 : cd_D 3 b_C_heard 72 (.getfield 75) 75 := ⟨by decide +kernel, rfl⟩
theorem d_C_heard_75 : cd_D_iload b_C_heard 75 5 77 := Or.inl ⟨by decide +kernel, rfl⟩
theorem d_C_heard_77 : cd_D 1 b_C_heard 77 .aaload 78 := ⟨by decide +kernel, rfl⟩
theorem d_C_heard_78 : cd_Dk b_C_heard 78 (nI 0) 79 := Or.inl ⟨0, ⟨by decide +kernel, rfl⟩, by decide +kernel⟩
theorem d_C_heard_79 : cd_D 3 b_C_heard 79 (.putfield 87) 82 := ⟨by decide +kernel, rfl⟩
theorem d_C_heard_82 : cd_D_aload b_C_heard 82 0 83 := Or.inr ⟨0, ⟨by decide +kernel, rfl⟩, rfl⟩
theorem d_C_heard_83 : cd_D 3 b_C_heard 83 (.getfield 16) 86 := ⟨by decide +kernel, rfl⟩
theorem d_C_heard_86 : cd_D_iload b_C_heard 86 1 87 := Or.inr ⟨1, ⟨by decide +kernel, rfl⟩, rfl⟩
theorem d_C_heard_87 : cd_D 3 b_C_heard 87 (.invokevirtual 146) 90 := ⟨by decide +kernel, rfl⟩
theorem d_C_heard_90 : cd_D_aload b_C_heard 90 0 91 := Or.inr ⟨0, ⟨by decide +kernel, rfl⟩, rfl⟩
theorem d_C_heard_91 : cd_D 3 b_C_heard 91 (.getfield 16) 94 := ⟨by decide +kernel, rfl⟩
theorem d_C_heard_94 : cd_D 3 b_C_heard 94 (.getfield 142) 97 := ⟨by decide +kernel, rfl⟩
theorem d_C_heard_97 : cd_Dk b_C_heard 97 (nI 0) 98 := Or.inl ⟨0, ⟨by decide +kernel, rfl⟩, by decide +kernel⟩
theorem d_C_heard_98 : cd_D 1 b_C_heard 98 .iaload 99 := ⟨by decide +kernel, rfl⟩
theorem d_C_heard_99 : cd_D_istore b_C_heard 99 6 101 := Or.inl ⟨by decide +kernel, rfl⟩
theorem d_C_heard_101 : cd_D_iload b_C_heard 101 6 103 := Or.inl ⟨by decide +kernel, rfl⟩
theorem d_C_heard_103 : cd_D_iload b_C_heard 103 4 105 := Or.inl ⟨by decide +kernel, rfl⟩
theorem d_C_heard_105 : cd_D_icmp_ge b_C_heard 105 115 108 := ⟨10, by decide +kernel, by decide, rfl⟩
theorem d_C_heard_108 : cd_D_iload b_C_heard 108 6 110 := Or.inl ⟨by decide +kernel, rfl⟩
theorem d_C_heard_110 : cd_D_istore b_C_heard 110 4 112 := Or.inl ⟨by decide +kernel, rfl⟩
theorem d_C_heard_112 : cd_D_iload b_C_heard 112 5 114 := Or.inl ⟨by decide +kernel, rfl⟩
theorem d_C_heard_114 : cd_D_istore b_C_heard 114 3 115 := Or.inr ⟨3, ⟨by decide +kernel, rfl⟩, rfl⟩
theorem d_C_heard_115 : cd_D 3 b_C_heard 115 (.iinc 5 (1)) 118 := ⟨by decide +kernel, rfl⟩
theorem d_C_heard_118 : cd_D_goto b_C_heard 118 45 := ⟨-73, by decide +kernel, by decide⟩
theorem d_C_heard_121 : cd_D_iload b_C_heard 121 2 122 := Or.inr ⟨2, ⟨by decide +kernel, rfl⟩, rfl⟩
theorem d_C_heard_122 : cd_D_if_ne b_C_heard 122 129 125 := ⟨7, by decide +kernel, by decide, rfl⟩
theorem d_C_heard_125 : cd_D_iload b_C_heard 125 3 126 := Or.inr ⟨3, ⟨by decide +kernel, rfl⟩, rfl⟩
theorem d_C_heard_126 : cd_D_goto b_C_heard 126 131 := ⟨5, by decide +kernel, by decide⟩
theorem d_C_heard_129 : cd_D_iload b_C_heard 129 4 131 := Or.inl ⟨by decide +kernel, rfl⟩
theorem d_C_heard_131 : cd_D 1 b_C_heard 131 .ireturn 132 := ⟨by decide +kernel, rfl⟩
theorem c_C_heard {l : Launch} {w : cd_WT} {S : cd_Sp} {I : cd_Mem} (hC : cd_CD w S) {mm tc : Nat} {N : Nat → Int32} (hG : cd_HG w S I (w.1 + 1) N mm tc) {rr : Nat} (h10 : N 10 = nI rr) (hrr : rr < 2 ^ 30) (n z : Int32) : cd_C l w m_C_heard 6 0 0 [.ref w.1, .int n, .int z] S I (cd_Pth w S I (sp_heard N mm tc n z)) := by
  refine cd_intro (by decide) (by simp [Value.category]) (Nat.le_of_ble_eq_true rfl) ?_
  intro X hO hE
  show cd_J w X 0 0 S I 0 [some (.ref w.1), some (.int n), some (.int z), none, none, none, none] []
  obtain ⟨hH, hhd, hV, hIV, hR⟩ := id hG
  have hmm := hV.2.1
  have hm1 : I (w.1 + 1) 3 = nI mm := (hR.at 1 (by omega) rfl rfl).trans hV.1
  refine r_iload hO d_C_heard_0 rfl ?_
  refine r_k hO d_C_heard_1 ?_
  refine r_icmp_lt hO d_C_heard_2 (fun c_2 => ?_) (fun c_2 => ?_)
  · refine r_ldc hO k_C_62 d_C_heard_20 ?_
    refine r_iret hO hE (Nat.zero_le _) (Nat.zero_le _) d_C_heard_22 ?_
    exact ⟨by unfold sp_heard; rw [if_neg (c := nI 1 ≤ n ∧ n ≤ nI 100) (by rintro ⟨q1, q2⟩; simp only [Int32.lt_iff_toInt_lt, Int32.le_iff_toInt_le] at *; omega)], cd_TH.rf _ _ _⟩
  · refine r_iload hO d_C_heard_5 rfl ?_
    refine r_k hO d_C_heard_6 ?_
    refine r_icmp_gt hO d_C_heard_8 (fun c_8 => ?_) (fun c_8 => ?_)
    · refine r_ldc hO k_C_62 d_C_heard_20 ?_
      refine r_iret hO hE (Nat.zero_le _) (Nat.zero_le _) d_C_heard_22 ?_
      exact ⟨by unfold sp_heard; rw [if_neg (c := nI 1 ≤ n ∧ n ≤ nI 100) (by rintro ⟨q1, q2⟩; simp only [Int32.lt_iff_toInt_lt, Int32.le_iff_toInt_le] at *; omega)], cd_TH.rf _ _ _⟩
    · refine r_iload hO d_C_heard_11 rfl ?_
      refine r_if_lt hO d_C_heard_12 (fun c_12 => ?_) (fun c_12 => ?_)
      · refine r_ldc hO k_C_62 d_C_heard_20 ?_
        refine r_iret hO hE (Nat.zero_le _) (Nat.zero_le _) d_C_heard_22 ?_
        exact ⟨by unfold sp_heard; rw [if_neg (c := nI 0 ≤ z ∧ z ≤ nI 1) (by rintro ⟨q1, q2⟩; have e0 : (nI 0).toInt = 0 := rfl; have e1 : (0 : Int32).toInt = 0 := rfl; simp only [Int32.lt_iff_toInt_lt, Int32.le_iff_toInt_le] at *; omega), ite_self], cd_TH.rf _ _ _⟩
      · refine r_iload hO d_C_heard_15 rfl ?_
        refine r_k hO d_C_heard_16 ?_
        refine r_icmp_le hO d_C_heard_17 (fun c_17 => ?_) (fun c_17 => ?_)
        · have c2 : nI 1 ≤ n := (by simp only [Int32.lt_iff_toInt_lt, Int32.le_iff_toInt_le] at *; omega)
          have hc8 : n ≤ nI 100 := (by simp only [Int32.lt_iff_toInt_lt, Int32.le_iff_toInt_le] at *; omega)
          have hz : nI 0 ≤ z ∧ z ≤ nI 1 := ⟨cd_le0 c_12, c_17⟩
          obtain ⟨q, hq1, hq, rfl⟩ := cd_in_ex ⟨c2, hc8⟩ (by decide) (by decide)
          refine r_aload hO d_C_heard_23 rfl ?_
          refine r_getR hO f_C_10 rfl hC.1 hC.2.1 d_C_heard_24 ?_
          refine r_getI hO f_C_63 rfl hH.2.1 d_C_heard_27 ?_
          refine r_tops hm1 ?_
          refine r_if_ne hO d_C_heard_30 (fun c_30 => ?_) (fun c_30 => ?_)
          · have hm0 : 0 < mm := Nat.pos_of_ne_zero (fun q => c_30 (by rw [q]; rfl))
            have loop : ∀ (r p : Nat) (S1 : cd_Sp) (I1 : cd_Mem) (b e : Int32) (x6 : Option Value), p + r = mm → cd_bi (fun p => cd_hs (upd N (16 + 5 * p + 2) (nI 0)) mm tc q 10) p b e → cd_TH w S I S1 I1 → cd_J w X 0 0 S1 I1 45 [some (.ref w.1), some (.int (nI q)), some (.int z), some (.int b), some (.int e), some (.int (nI p)), x6] [] := by
              intro r
              induction r with
              | zero =>
                intro p S1 I1 b e x6 hp hb hT1
                have hp1 : p = mm := by omega
                subst hp1
                have hC1 := hT1.cd hC
                have hN1 := hT1.now hG
                have hm3 : I1 (w.1 + 1) 3 = nI p := (hN1.2.2.2.2.at 1 (by omega) rfl rfl).trans hV.1
                obtain ⟨k, hk1, hk2, hk⟩ := hb.resolve_left (fun q => by omega)
                refine r_iload hO d_C_heard_45 rfl ?_
                refine r_aload hO d_C_heard_47 rfl ?_
                refine r_getR hO f_C_10 rfl hC1.1 hC1.2.1 d_C_heard_48 ?_
                refine r_getI hO f_C_63 rfl hN1.1.2.1 d_C_heard_51 ?_
                refine r_tops hm3 ?_
                refine r_icmp_ge hO d_C_heard_54 (fun c_54 => ?_) (fun c_54 => ?_)
                · refine r_iload hO d_C_heard_121 rfl ?_
                  refine r_if_ne hO d_C_heard_122 (fun c_122 => ?_) (fun c_122 => ?_)
                  · refine r_iload hO d_C_heard_129 rfl ?_
                    refine r_iret hO hE (Nat.zero_le _) (Nat.zero_le _) d_C_heard_131 ?_
                    exact ⟨by unfold sp_heard; rw [if_pos ⟨c2, hc8⟩, if_pos hz, cd_tn_nI (show _ < 2 ^ 31 by omega), hk, hk2, if_pos (show (0 : Int32) ≤ nI k from nI_le (a := 0) (by omega) (by omega)), if_neg c_122], hT1⟩
                  · refine r_iload hO d_C_heard_125 rfl ?_
                    refine r_goto hO d_C_heard_126 ?_
                    refine r_iret hO hE (Nat.zero_le _) (Nat.zero_le _) d_C_heard_131 ?_
                    exact ⟨by unfold sp_heard; rw [if_pos ⟨c2, hc8⟩, if_pos hz, cd_tn_nI (show _ < 2 ^ 31 by omega), hk, hk2, if_pos (show (0 : Int32) ≤ nI k from nI_le (a := 0) (by omega) (by omega)), if_pos c_122], hT1⟩
                · exact absurd (nI_le (Nat.le_refl _) (by omega)) c_54
              | succ r ih =>
                intro p S1 I1 b e x6 hp hb hT1
                have hpm : p < mm := by omega
                have hC1 := hT1.cd hC
                have hN1 := hT1.now hG
                have hO1 : cd_HO w S1 (w.1 + 19) := hC1.2.2.2.2.2.2.2.2.2.2.1
                have hm3 : I1 (w.1 + 1) 3 = nI mm := (hN1.2.2.2.2.at 1 (by omega) rfl rfl).trans hV.1
                obtain ⟨v, hv, ev⟩ := cd_10_hs (upd N (16 + 5 * p + 2) (nI 0)) mm tc q
                have hvq : mm * q ≤ 12 * 100 := Nat.mul_le_mul hmm hq
                rw [cd_10_a _ _ (by omega), h10, nI_add] at ev
                have hbs := cd_bi_s hb (by omega) (x := cd_hs (upd N (16 + 5 * p + 2) (nI 0)) mm tc q 10) rfl ev (by omega)
                refine r_iload hO d_C_heard_45 rfl ?_
                refine r_aload hO d_C_heard_47 rfl ?_
                refine r_getR hO f_C_10 rfl hC1.1 hC1.2.1 d_C_heard_48 ?_
                refine r_getI hO f_C_63 rfl hN1.1.2.1 d_C_heard_51 ?_
                refine r_tops hm3 ?_
                refine r_icmp_ge hO d_C_heard_54 (fun c_54 => ?_) (fun c_54 => ?_)
                · exact absurd c_54 (nI_ge (by omega) (by omega))
                · refine r_aload hO d_C_heard_57 rfl ?_
                  refine r_getR hO f_C_16 rfl hC1.1 hC1.2.2.1 d_C_heard_58 ?_
                  refine r_aload hO d_C_heard_61 rfl ?_
                  refine r_getR hO f_C_10 rfl hC1.1 hC1.2.1 d_C_heard_62 ?_
                  refine r_think hO hE lk_C_156 (by decide) rfl (Nat.le_of_ble_eq_true rfl) d_C_heard_65 (Nat.zero_le _) (Nat.zero_le _) hC hG hT1 ?_
                  intro S3 I3 hT3 hG3
                  have hC3 := hT3.cd hC
                  have hN3 := hT3.now hG
                  refine r_aload hO d_C_heard_68 rfl ?_
                  refine r_getR hO f_C_16 rfl hC3.1 hC3.2.2.1 d_C_heard_69 ?_
                  refine r_getR hO f_C_75 rfl hG3.1.2.1 hG3.1.2.2.2.2.1.1 d_C_heard_72 ?_
                  refine r_iload hO d_C_heard_75 rfl ?_
                  refine r_aald (t := 4) hO hG3.1.2.2.2.2.1.2 (by decide) (by decide) (by omega) (by decide) (hG3.1.2.2.2.2.2.2.2 _ (by omega)).1 d_C_heard_77 ?_
                  refine r_k hO d_C_heard_78 ?_
                  refine r_putI hO f_C_87 rfl (hG3.1.2.2.2.2.2.2.2 _ (by omega)).2 (Nat.le_trans hG3.1.1 (Nat.le_trans (Nat.le_add_right _ 6) (Nat.le_add_right _ _))) d_C_heard_79 ?_
                  have hGa := cd_HG_ask hG3 hpm 2 (by decide) (nI 0) ⟨0, by decide, rfl⟩
                  refine r_aload hO d_C_heard_82 rfl ?_
                  refine r_getR hO f_C_16 rfl hC3.1 hC3.2.2.1 d_C_heard_83 ?_
                  refine r_iload hO d_C_heard_86 rfl ?_
                  refine r_cV1v hO hE (c_H_passHours hGa _ (by omega)) mf_H_passHours lk_C_146 hG3.1.2.1 rfl (by decide) rfl (Nat.le_of_ble_eq_true rfl) d_C_heard_87 (Nat.zero_le _) (Nat.zero_le _) ?_
                  rintro I4 ⟨hG4, ho4⟩
                  refine r_aload hO d_C_heard_90 rfl ?_
                  refine r_getR hO f_C_16 rfl hC3.1 hC3.2.2.1 d_C_heard_91 ?_
                  refine r_getR hO f_C_142 rfl hG3.1.2.1 hG3.1.2.2.2.1.1 d_C_heard_94 ?_
                  refine r_k hO d_C_heard_97 ?_
                  refine r_iald hO hG3.1.2.2.2.1.2 (by omega) (by decide) d_C_heard_98 ?_
                  refine r_tops (hG4.2.2.2.2.at 10 (by omega) rfl rfl) ?_
                  refine r_sI6 hO d_C_heard_99 rfl ?_
                  refine r_iload hO d_C_heard_101 rfl ?_
                  refine r_iload hO d_C_heard_103 rfl ?_
                  refine r_icmp_ge hO d_C_heard_105 (fun c_105 => ?_) (fun c_105 => ?_)
                  · refine r_incN5 hO d_C_heard_115 rfl ?_
                    refine r_goto hO d_C_heard_118 ?_
                    exact ih (p + 1) S3 I4 _ _ _ (by omega) (hbs.1 c_105) ((hT3.of (cd_ofh.set _ _ (cd_wr_in (by omega) (by omega)))).of ho4)
                  · refine r_iload hO d_C_heard_108 rfl ?_
                    refine r_sI4 hO d_C_heard_110 rfl ?_
                    refine r_iload hO d_C_heard_112 rfl ?_
                    refine r_sI3 hO d_C_heard_114 rfl ?_
                    refine r_incN5 hO d_C_heard_115 rfl ?_
                    refine r_goto hO d_C_heard_118 ?_
                    exact ih (p + 1) S3 I4 _ _ _ (by omega) (hbs.2 c_105) ((hT3.of (cd_ofh.set _ _ (cd_wr_in (by omega) (by omega)))).of ho4)
            refine r_k hO d_C_heard_36 ?_
            refine r_sI3 hO d_C_heard_37 rfl ?_
            refine r_ldc hO k_C_163 d_C_heard_38 ?_
            refine r_sI4 hO d_C_heard_40 rfl ?_
            refine r_k hO d_C_heard_42 ?_
            refine r_sI5 hO d_C_heard_43 rfl ?_
            exact loop mm 0 S I _ _ _ (by omega) (Or.inl ⟨rfl, rfl, rfl⟩) (cd_TH.rf _ _ _)
          · have hmm0 : mm = 0 := by
              rcases Nat.eq_zero_or_pos mm with q | q
              · exact q
              · exact absurd c_30 (nI_ne0 q (by omega))
            refine r_ldc hO k_C_160 d_C_heard_33 ?_
            refine r_iret hO hE (Nat.zero_le _) (Nat.zero_le _) d_C_heard_35 ?_
            exact ⟨by unfold sp_heard; rw [if_pos ⟨c2, hc8⟩, if_pos hz, hmm0]; rfl, cd_TH.rf _ _ _⟩
        · refine r_ldc hO k_C_62 d_C_heard_20 ?_
          refine r_iret hO hE (Nat.zero_le _) (Nat.zero_le _) d_C_heard_22 ?_
          exact ⟨by unfold sp_heard; rw [if_neg (c := nI 0 ≤ z ∧ z ≤ nI 1) (by rintro ⟨q1, q2⟩; have e0 : (nI 0).toInt = 0 := rfl; have e1 : (0 : Int32).toInt = 0 := rfl; simp only [Int32.lt_iff_toInt_lt, Int32.le_iff_toInt_le] at *; omega), ite_self], cd_TH.rf _ _ _⟩
