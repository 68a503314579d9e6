/-- risings grow by no more than one an asking and an hour -/
theorem cd_10_a (N : Nat → Int32) (v : Int32) {j : Nat} (h : 10 ≠ j) : upd N j v 10 = N 10 := if_neg h
theorem cd_p0 (x : Int32) : x = x + nI 0 := by rw [nI_0, Int32.add_zero]
theorem cd_10_go (N : Nat → Int32) : cd_go N 10 = N 10 := by
  unfold cd_go
  split
  · rw [cd_10_a _ _ (by omega), cd_10_a _ _ (by omega)]
  · rw [cd_10_a _ _ (by omega), cd_10_a _ _ (by omega)]
theorem cd_10_dr (N : Nat → Int32) : cd_dr N 10 = N 10 := by
  unfold cd_dr upd
  exact if_neg (by decide)
theorem cd_gm_2 (N : Nat → Int32) (i : Nat) : (cd_gm N i).2 = cd_dr N ∨ (cd_gm N i).2 = cd_go (cd_dr N) := by
  unfold cd_gm
  split
  · exact Or.inl rfl
  · exact Or.inr rfl
theorem cd_10_gm (N : Nat → Int32) (i : Nat) : (cd_gm N i).2 10 = N 10 :=
  (cd_gm_2 N i).elim (fun h => (congrFun h 10).trans (cd_10_dr N)) (fun h => (congrFun h 10).trans ((cd_10_go _).trans (cd_10_dr N)))
theorem cd_10_le (N : Nat → Int32) (i : Nat) : cd_le N i 10 = N 10 := by
  unfold cd_le cd_le1
  rw [cd_10_a _ _ (by omega), cd_10_a _ _ (by omega)]
theorem cd_10_up (N : Nat → Int32) (v : Int32) : upd N 10 v 10 = v := if_pos rfl
theorem cd_ri_2 (N : Nat → Int32) (i : Nat) : cd_ri N i = cd_gm (cd_le (upd N 10 (N 10 + nI 1)) i) i := by unfold cd_ri; rfl
theorem cd_10_ri (N : Nat → Int32) (i : Nat) : (cd_ri N i).2 10 = N 10 + nI 1 := by
  rw [cd_ri_2, cd_10_gm, cd_10_le, cd_10_up]
theorem cd_10_ak (N : Nat → Int32) (i tc : Nat) : ∃ k, k ≤ 1 ∧ cd_ak N i tc 10 = N 10 + nI k := by
  unfold cd_ak
  split
  · exact ⟨0, by omega, (cd_10_gm N i).trans (cd_p0 _)⟩
  · split
    · refine ⟨0, by omega, ?_⟩
      rw [cd_10_a _ _ (by omega), cd_10_a _ _ (by omega)]
      exact cd_p0 _
    · exact ⟨1, by omega, cd_10_ri N i⟩
theorem cd_10_one (N : Nat → Int32) (i tc : Nat) : ∃ k, k ≤ 1 ∧ cd_one N i tc 10 = N 10 + nI k := by
  unfold cd_one
  split
  · split
    · exact ⟨0, by omega, (cd_10_dr N).trans (cd_p0 _)⟩
    · obtain ⟨k, k1, k2⟩ := cd_10_ak (cd_dr N) i tc
      exact ⟨k, k1, by rw [k2, cd_10_dr]⟩
  · exact ⟨0, by omega, cd_p0 _⟩
theorem cd_10_lp (N : Nat → Int32) (tc : Nat) : ∀ i, ∃ k, k ≤ i ∧ cd_lp N tc i 10 = N 10 + nI k
  | 0 => ⟨0, by omega, cd_p0 _⟩
  | i + 1 => by
    obtain ⟨k, k1, k2⟩ := cd_10_lp N tc i
    obtain ⟨z, z1, z2⟩ := cd_10_one (cd_lp N tc i) i tc
    refine ⟨k + z, by omega, ?_⟩
    show cd_one (cd_lp N tc i) i tc 10 = _
    rw [z2, k2, Int32.add_assoc, nI_add]
theorem cd_10_hr (N : Nat → Int32) (mm tc : Nat) : ∃ k, k ≤ mm ∧ cd_hr N mm tc 10 = N 10 + nI k := by
  obtain ⟨k, k1, k2⟩ := cd_10_lp (cd_w2 (cd_w1 N)) tc mm
  refine ⟨k, k1, ?_⟩
  unfold cd_hr cd_ed
  rw [cd_10_a _ _ (by omega), cd_10_a _ _ (by omega), k2]
  unfold cd_w2 cd_w1
  rw [cd_10_a _ _ (by omega), cd_10_dr, cd_10_a _ _ (by omega), cd_10_dr]
theorem cd_10_hs (N : Nat → Int32) (mm tc : Nat) : ∀ n, ∃ k, k ≤ mm * n ∧ cd_hs N mm tc n 10 = N 10 + nI k
  | 0 => ⟨0, by omega, cd_p0 _⟩
  | n + 1 => by
    obtain ⟨k, k1, k2⟩ := cd_10_hs N mm tc n
    obtain ⟨z, z1, z2⟩ := cd_10_hr (cd_hs N mm tc n) mm tc
    refine ⟨k + z, by rw [Nat.mul_succ]; omega, ?_⟩
    show cd_hr (cd_hs N mm tc n) mm tc 10 = _
    rw [z2, k2, Int32.add_assoc, nI_add]
/-- the best so far -/
def cd_bi (f : Nat → Int32) (p : Nat) (b l : Int32) : Prop := p = 0 ∨ ∃ k, k < p ∧ b = nI k ∧ cd_bm f p = (b, l)
theorem cd_bi_z {f : Nat → Int32} {p : Nat} {x : Int32} (hp : p < 2 ^ 30) (hz : nI p = 0) (hx : x = f p) : cd_bi f (p + 1) (nI p) x := by
  rcases Nat.eq_zero_or_pos p with q | q
  · subst q
    exact Or.inr ⟨0, by omega, rfl, cd_bm_a (b := -1) (l := nI 0) rfl hx (by decide)⟩
  · exact absurd hz (nI_ne0 q (by omega))
theorem cd_bi_s {f : Nat → Int32} {p : Nat} {b l x : Int32} (h : cd_bi f p b l) (hp : p < 2 ^ 30) (hz : ¬ nI p = 0) (hx : x = f p) : (l ≤ x → cd_bi f (p + 1) b l) ∧ (¬ l ≤ x → cd_bi f (p + 1) (nI p) x) := by
  rcases h with rfl | ⟨k, k1, rfl, k3⟩
  · exact absurd rfl hz
  · exact ⟨fun h => Or.inr ⟨k, by omega, rfl, cd_bm_b k3 hx (nI_pos (by omega)) h⟩, fun h => Or.inr ⟨p, by omega, rfl, cd_bm_c k3 hx (nI_pos (by omega)) h⟩⟩
theorem d_C_firm_0 : cd_D_iload b_C_firm 0 1 1 := Or.inr ⟨1, ⟨by decide +kernel, rfl⟩, rfl⟩
theorem d_C_firm_1 : cd_Dk b_C_firm 1 (nI 1) 2 := Or.inl ⟨1, ⟨by decide +kernel, rfl⟩, by decide +kernel⟩
theorem d_C_firm_2 : cd_D_icmp_lt b_C_firm 2 20 5 := ⟨18, by decide +kernel, by decide, rfl⟩
theorem d_C_firm_5 : cd_D_iload b_C_firm 5 1 6 := Or.inr ⟨1, ⟨by decide +kernel, rfl⟩, rfl⟩
theorem d_C_firm_6 : cd_Dk b_C_firm 6 (nI 48) 8 := Or.inr (Or.inl ⟨48, ⟨by decide +kernel, rfl⟩, by decide +kernel⟩)
theorem d_C_firm_8 : cd_D_icmp_gt b_C_firm 8 20 11 := ⟨12, by decide +kernel, by decide, rfl⟩
theorem d_C_firm_11 : cd_D_iload b_C_firm 11 2 12 := Or.inr ⟨2, ⟨by decide +kernel, rfl⟩, rfl⟩
theorem d_C_firm_12 : cd_D_if_lt b_C_firm 12 20 15 := ⟨8, by decide +kernel, by decide, rfl⟩
theorem d_C_firm_15 : cd_D_iload b_C_firm 15 2 16 := Or.inr ⟨2, ⟨by decide +kernel, rfl⟩, rfl⟩
theorem d_C_firm_16 : cd_Dk b_C_firm 16 (nI 1) 17 := Or.inl ⟨1, ⟨by decide +kernel, rfl⟩, by decide +kernel⟩
theorem d_C_firm_17 : cd_D_icmp_le b_C_firm 17 23 20 := ⟨6, by decide +kernel, by decide, rfl⟩
theorem d_C_firm_20 : cd_D 2 b_C_firm 20 (.ldc 62) 22 := ⟨by decide +kernel, rfl⟩
theorem d_C_firm_22 : cd_D 1 b_C_firm 22 .ireturn 23 := ⟨by decide +kernel, rfl⟩
theorem d_C_firm_23 : cd_Dk b_C_firm 23 (nI 0) 24 := Or.inl ⟨0, ⟨by decide +kernel, rfl⟩, by decide +kernel⟩
theorem d_C_firm_24 : cd_D_istore b_C_firm 24 3 25 := Or.inr ⟨3, ⟨by decide +kernel, rfl⟩, rfl⟩
theorem d_C_firm_25 : cd_Dk b_C_firm 25 (nI 0) 26 := Or.inl ⟨0, ⟨by decide +kernel, rfl⟩, by decide +kernel⟩
theorem d_C_firm_26 : cd_D_istore b_C_firm 26 4 28 := Or.inl ⟨by decide +kernel, rfl⟩
theorem d_C_firm_28 : cd_Dk b_C_firm 28 (nI 0) 29 := Or.inl ⟨0, ⟨by decide +kernel, rfl⟩, by decide +kernel⟩
theorem d_C_firm_29 : cd_D_istore b_C_firm 29 5 31 := Or.inl ⟨by decide +kernel, rfl⟩
theorem d_C_firm_31 : cd_D_iload b_C_firm 31 5 33 := Or.inl ⟨by decide +kernel, rfl⟩
theorem d_C_firm_33 : cd_Dk b_C_firm 33 (nI 99) 35 := Or.inr (Or.inl ⟨99, ⟨by decide +kernel, rfl⟩, by decide +kernel⟩)
theorem d_C_firm_35 : cd_D_icmp_gt b_C_firm 35 102 38 := ⟨67, by decide +kernel, by decide, rfl⟩
theorem d_C_firm_38 : cd_D_aload b_C_firm 38 0 39 := Or.inr ⟨0, ⟨by decide +kernel, rfl⟩, rfl⟩
theorem d_C_firm_39 : cd_D 3 b_C_firm 39 (.getfield 16) 42 := ⟨by decide +kernel, rfl⟩
theorem d_C_firm_42 : cd_D_aload b_C_firm 42 0 43 := Or.inr ⟨0, ⟨by decide +kernel, rfl⟩, rfl⟩
theorem d_C_firm_43 : cd_D 3 b_C_firm 43 (.getfield 10) 46 := ⟨by decide +kernel, rfl⟩
theorem d_C_firm_46 : cd_D 3 b_C_firm 46 (.invokevirtual 156) 49 := ⟨by decide +kernel, rfl⟩
theorem d_C_firm_49 : cd_D_aload b_C_firm 49 0 50 := Or.inr ⟨0, ⟨by decide +kernel, rfl⟩, rfl⟩
theorem d_C_firm_50 : cd_D 3 b_C_firm 50 (.getfield 16) 53 := ⟨by decide +kernel, rfl⟩
theorem d_C_firm_53 : cd_D 3 b_C_firm 53 (.getfield 123) 56 := ⟨by decide +kernel, rfl⟩
theorem d_C_firm_56 : cd_Dk b_C_firm 56 (nI 0) 57 := Or.inl ⟨0, ⟨by decide +kernel, rfl⟩, by decide +kernel⟩
theorem d_C_firm_57 : cd_D_iload b_C_firm 57 5 59 := Or.inl ⟨by decide +kernel, rfl⟩
theorem d_C_firm_59 : cd_D 1 b_C_firm 59 .iastore 60 := ⟨by decide +kernel, rfl⟩
theorem d_C_firm_60 : cd_D_aload b_C_firm 60 0 61 := Or.inr ⟨0, ⟨by decide +kernel, rfl⟩, rfl⟩
theorem d_C_firm_61 : cd_D 3 b_C_firm 61 (.getfield 16) 64 := ⟨by decide +kernel, rfl⟩
theorem d_C_firm_64 : cd_D_iload b_C_firm 64 1 65 := Or.inr ⟨1, ⟨by decide +kernel, rfl⟩, rfl⟩
theorem d_C_firm_65 : cd_D 3 b_C_firm 65 (.invokevirtual 146) 68 := ⟨by decide +kernel, rfl⟩
theorem d_C_firm_68 : cd_D_aload b_C_firm 68 0 69 := Or.inr ⟨0, ⟨by decide +kernel, rfl⟩, rfl⟩
theorem d_C_firm_69 : cd_D 3 b_C_firm 69 (.getfield 16) 72 := ⟨by decide +kernel, rfl⟩
theorem d_C_firm_72 : cd_D 3 b_C_firm 72 (.invokevirtual 150) 75 := ⟨by decide +kernel, rfl⟩
theorem d_C_firm_75 : cd_D_istore b_C_firm 75 6 77 := Or.inl ⟨by decide +kernel, rfl⟩
theorem d_C_firm_77 : cd_D_iload b_C_firm 77 5 79 := Or.inl ⟨by decide +kernel, rfl⟩
theorem d_C_firm_79 : cd_D_if_eq b_C_firm 79 89 82 := ⟨10, by decide +kernel, by decide, rfl⟩
theorem d_C_firm_82 : cd_D_iload b_C_firm 82 6 84 := Or.inl ⟨by decide +kernel, rfl⟩
theorem d_C_firm_84 : cd_D_iload b_C_firm 84 4 86 := Or.inl ⟨by decide +kernel, rfl⟩
theorem d_C_firm_86 : cd_D_icmp_ge b_C_firm 86 96 89 := ⟨10, by decide +kernel, by decide, rfl⟩
theorem d_C_firm_89 : cd_D_iload b_C_firm 89 6 91 := Or.inl ⟨by decide +kernel, rfl⟩
theorem d_C_firm_91 : cd_D_istore b_C_firm 91 4 93 := Or.inl ⟨by decide +kernel, rfl⟩
theorem d_C_firm_93 : cd_D_iload b_C_firm 93 5 95 := Or.inl ⟨by decide +kernel, rfl⟩
theorem d_C_firm_95 : cd_D_istore b_C_firm 95 3 96 := Or.inr ⟨3, ⟨by decide +kernel, rfl⟩, rfl⟩
theorem d_C_firm_96 : cd_D 3 b_C_firm 96 (.iinc 5 (1)) 99 := ⟨by decide +kernel, rfl⟩
theorem d_C_firm_99 : cd_D_goto b_C_firm 99 31 := ⟨-68, by decide +kernel, by decide⟩
theorem d_C_firm_102 : cd_D_iload b_C_firm 102 2 103 := Or.inr ⟨2, ⟨by decide +kernel, rfl⟩, rfl⟩
theorem d_C_firm_103 : cd_D_if_ne b_C_firm 103 110 106 := ⟨7, by decide +kernel, by decide, rfl⟩
theorem d_C_firm_106 : cd_D_iload b_C_firm 106 3 107 := Or.inr ⟨3, ⟨by decide +kernel, rfl⟩, rfl⟩
theorem d_C_firm_107 : cd_D_goto b_C_firm 107 112 := ⟨5, by decide +kernel, by decide⟩
theorem d_C_firm_110 : cd_D_iload b_C_firm 110 4 112 := Or.inl ⟨by decide +kernel, rfl⟩
theorem d_C_firm_112 : cd_D 1 b_C_firm 112 .ireturn 113 := ⟨by decide +kernel, rfl⟩
theorem c_C_firm {l : Launch} {w : cd_WT} {S : cd_Sp} {I : cd_Mem} (hC : cd_CD w S) {mm tc : Nat} {N : Nat → Int32} (hG : cd_HG w S I (w.1 + 1) N mm tc) (n z : Int32) : cd_C l w m_C_firm 6 0 0 [.ref w.1, .int n, .int z] S I (cd_Pth w S I (sp_firm N mm tc n z)) := by
  refine cd_intro (by decide) (by simp [Value.category]) (Nat.le_of_ble_eq_true rfl) ?_
  intro X hO hE
  show cd_J w X 0 0 S I 0 [some (.ref w.1), some (.int n), some (.int z), none, none, none, none] []
  obtain ⟨hH, hhd, hV, hIV, hR⟩ := id hG
  have hmm := hV.2.1
  have hm1 : I (w.1 + 1) 3 = nI mm := (hR.at 1 (by omega) rfl rfl).trans hV.1
  refine r_iload hO d_C_firm_0 rfl ?_
  refine r_k hO d_C_firm_1 ?_
  refine r_icmp_lt hO d_C_firm_2 (fun c_2 => ?_) (fun c_2 => ?_)
  · refine r_ldc hO k_C_62 d_C_firm_20 ?_
    refine r_iret hO hE (Nat.zero_le _) (Nat.zero_le _) d_C_firm_22 ?_
    exact ⟨by unfold sp_firm; rw [if_neg (c := nI 1 ≤ n ∧ n ≤ nI 48) (by rintro ⟨q1, q2⟩; simp only [Int32.lt_iff_toInt_lt, Int32.le_iff_toInt_le] at *; omega)], cd_TH.rf _ _ _⟩
  · refine r_iload hO d_C_firm_5 rfl ?_
    refine r_k hO d_C_firm_6 ?_
    refine r_icmp_gt hO d_C_firm_8 (fun c_8 => ?_) (fun c_8 => ?_)
    · refine r_ldc hO k_C_62 d_C_firm_20 ?_
      refine r_iret hO hE (Nat.zero_le _) (Nat.zero_le _) d_C_firm_22 ?_
      exact ⟨by unfold sp_firm; rw [if_neg (c := nI 1 ≤ n ∧ n ≤ nI 48) (by rintro ⟨q1, q2⟩; simp only [Int32.lt_iff_toInt_lt, Int32.le_iff_toInt_le] at *; omega)], cd_TH.rf _ _ _⟩
    · refine r_iload hO d_C_firm_11 rfl ?_
      refine r_if_lt hO d_C_firm_12 (fun c_12 => ?_) (fun c_12 => ?_)
      · refine r_ldc hO k_C_62 d_C_firm_20 ?_
        refine r_iret hO hE (Nat.zero_le _) (Nat.zero_le _) d_C_firm_22 ?_
        exact ⟨by unfold sp_firm; rw [if_neg (c := nI 0 ≤ z ∧ z ≤ nI 1) (by rintro ⟨q1, q2⟩; have e0 : (nI 0).toInt = 0 := rfl; have e1 : (0 : Int32).toInt = 0 := rfl; simp only [Int32.lt_iff_toInt_lt, Int32.le_iff_toInt_le] at *; omega), ite_self], cd_TH.rf _ _ _⟩
      · refine r_iload hO d_C_firm_15 rfl ?_
        refine r_k hO d_C_firm_16 ?_
        refine r_icmp_le hO d_C_firm_17 (fun c_17 => ?_) (fun c_17 => ?_)
        · have c2 : nI 1 ≤ n := (by simp only [Int32.lt_iff_toInt_lt, Int32.le_iff_toInt_le] at *; omega)
          have hc8 : n ≤ nI 48 := (by simp only [Int32.lt_iff_toInt_lt, Int32.le_iff_toInt_le] at *; omega)
          have hz : nI 0 ≤ z ∧ z ≤ nI 1 := ⟨cd_le0 c_12, c_17⟩
          obtain ⟨q, hq1, hq, rfl⟩ := cd_in_ex ⟨c2, hc8⟩ (by decide) (by decide)
          have loop : ∀ (r p : Nat) (S1 : cd_Sp) (I1 : cd_Mem) (b e : Int32) (x6 : Option Value), p + r = 100 → cd_bi (fun p => cd_hb (cd_hs (upd N 3 (nI p)) mm tc q) mm) p b e → cd_TH w S I S1 I1 → cd_J w X 0 0 S1 I1 31 [some (.ref w.1), some (.int (nI q)), some (.int z), some (.int b), some (.int e), some (.int (nI p)), x6] [] := by
            intro r
            induction r with
            | zero =>
              intro p S1 I1 b e x6 hp hb hT1
              have hp1 : p = 100 := by omega
              subst hp1
              obtain ⟨k, -, -, hk⟩ := hb.resolve_left (by decide)
              refine r_iload hO d_C_firm_31 rfl ?_
              refine r_k hO d_C_firm_33 ?_
              refine r_icmp_gt hO d_C_firm_35 (fun c_35 => ?_) (fun c_35 => ?_)
              · refine r_iload hO d_C_firm_102 rfl ?_
                refine r_if_ne hO d_C_firm_103 (fun c_103 => ?_) (fun c_103 => ?_)
                · refine r_iload hO d_C_firm_110 rfl ?_
                  refine r_iret hO hE (Nat.zero_le _) (Nat.zero_le _) d_C_firm_112 ?_
                  exact ⟨by unfold sp_firm; rw [if_pos ⟨c2, hc8⟩, if_pos hz, cd_tn_nI (show _ < 2 ^ 31 by omega), if_neg c_103, hk], hT1⟩
                · refine r_iload hO d_C_firm_106 rfl ?_
                  refine r_goto hO d_C_firm_107 ?_
                  refine r_iret hO hE (Nat.zero_le _) (Nat.zero_le _) d_C_firm_112 ?_
                  exact ⟨by unfold sp_firm; rw [if_pos ⟨c2, hc8⟩, if_pos hz, cd_tn_nI (show _ < 2 ^ 31 by omega), if_pos c_103, hk], hT1⟩
              · exact absurd (nI_lt (by omega) (by omega)) c_35
            | succ r ih =>
              intro p S1 I1 b e x6 hp hb hT1
              have hC1 := hT1.cd hC
              have hN1 := hT1.now hG
              have hO1 : cd_HO w S1 (w.1 + 19) := hC1.2.2.2.2.2.2.2.2.2.2.1
              refine r_iload hO d_C_firm_31 rfl ?_
              refine r_k hO d_C_firm_33 ?_
              refine r_icmp_gt hO d_C_firm_35 (fun c_35 => ?_) (fun c_35 => ?_)
              · exact absurd c_35 (nI_nlt (by omega) (by omega))
              · refine r_aload hO d_C_firm_38 rfl ?_
                refine r_getR hO f_C_16 rfl hC1.1 hC1.2.2.1 d_C_firm_39 ?_
                refine r_aload hO d_C_firm_42 rfl ?_
                refine r_getR hO f_C_10 rfl hC1.1 hC1.2.1 d_C_firm_43 ?_
                refine r_think hO hE lk_C_156 (by decide) rfl (Nat.le_of_ble_eq_true rfl) d_C_firm_46 (Nat.zero_le _) (Nat.zero_le _) hC hG hT1 ?_
                intro S3 I3 hT3 hG3
                have hC3 := hT3.cd hC
                have hN3 := hT3.now hG
                refine r_aload hO d_C_firm_49 rfl ?_
                refine r_getR hO f_C_16 rfl hC3.1 hC3.2.2.1 d_C_firm_50 ?_
                refine r_getR hO f_C_123 rfl hG3.1.2.1 hG3.1.2.2.1.1 d_C_firm_53 ?_
                refine r_k hO d_C_firm_56 ?_
                refine r_iload hO d_C_firm_57 rfl ?_
                refine r_iast hO hG3.1.2.2.1.2 (Nat.le_trans hG3.1.1 (Nat.le_add_right _ _)) (by omega) (by decide) d_C_firm_59 ?_
                have hGa := cd_HG_w hG3 3 (by decide) (by decide) (by decide) (a := w.1 + 19 + 1) (k := 0) rfl rfl (nI p) (cd_IV_rule hG3.2.2.2.1 (q := 0) (by decide) ⟨nI_le (by omega) (by omega), nI_le (b := 99) (by omega) (by omega)⟩)
                refine r_aload hO d_C_firm_60 rfl ?_
                refine r_getR hO f_C_16 rfl hC3.1 hC3.2.2.1 d_C_firm_61 ?_
                refine r_iload hO d_C_firm_64 rfl ?_
                refine r_cV1v hO hE (c_H_passHours hGa _ (by omega)) mf_H_passHours lk_C_146 hG3.1.2.1 rfl (by decide) rfl (Nat.le_of_ble_eq_true rfl) d_C_firm_65 (Nat.zero_le _) (Nat.zero_le _) ?_
                rintro I4 ⟨hG4, ho4⟩
                refine r_aload hO d_C_firm_68 rfl ?_
                refine r_getR hO f_C_16 rfl hC3.1 hC3.2.2.1 d_C_firm_69 ?_
                refine r_cV0fi hO hE (c_H_habitSum hG4) mf_H_habitSum lk_C_150 hG3.1.2.1 rfl (by decide) rfl (Nat.le_of_ble_eq_true rfl) d_C_firm_72 (Nat.zero_le _) (Nat.zero_le _) ?_
                refine r_sI6 hO d_C_firm_75 rfl ?_
                refine r_iload hO d_C_firm_77 rfl ?_
                refine r_if_eq hO d_C_firm_79 (fun c_79 => ?_) (fun c_79 => ?_)
                · refine r_iload hO d_C_firm_89 rfl ?_
                  refine r_sI4 hO d_C_firm_91 rfl ?_
                  refine r_iload hO d_C_firm_93 rfl ?_
                  refine r_sI3 hO d_C_firm_95 rfl ?_
                  refine r_incN5 hO d_C_firm_96 rfl ?_
                  refine r_goto hO d_C_firm_99 ?_
                  exact ih (p + 1) S3 I4 _ _ _ (by omega) (cd_bi_z (by omega) c_79 rfl) ((hT3.of (cd_ofh.set _ _ (cd_wr_in (by omega) (by omega)))).of ho4)
                · have hbs := cd_bi_s hb (by omega) c_79 (x := cd_hb (cd_hs (upd N 3 (nI p)) mm tc q) mm) rfl
                  refine r_iload hO d_C_firm_82 rfl ?_
                  refine r_iload hO d_C_firm_84 rfl ?_
                  refine r_icmp_ge hO d_C_firm_86 (fun c_86 => ?_) (fun c_86 => ?_)
                  · refine r_incN5 hO d_C_firm_96 rfl ?_
                    refine r_goto hO d_C_firm_99 ?_
                    exact ih (p + 1) S3 I4 _ _ _ (by omega) (hbs.1 c_86) ((hT3.of (cd_ofh.set _ _ (cd_wr_in (by omega) (by omega)))).of ho4)
                  · refine r_iload hO d_C_firm_89 rfl ?_
                    refine r_sI4 hO d_C_firm_91 rfl ?_
                    refine r_iload hO d_C_firm_93 rfl ?_
                    refine r_sI3 hO d_C_firm_95 rfl ?_
                    refine r_incN5 hO d_C_firm_96 rfl ?_
                    refine r_goto hO d_C_firm_99 ?_
                    exact ih (p + 1) S3 I4 _ _ _ (by omega) (hbs.2 c_86) ((hT3.of (cd_ofh.set _ _ (cd_wr_in (by omega) (by omega)))).of ho4)
          refine r_k hO d_C_firm_23 ?_
          refine r_sI3 hO d_C_firm_24 rfl ?_
          refine r_k hO d_C_firm_25 ?_
          refine r_sI4 hO d_C_firm_26 rfl ?_
          refine r_k hO d_C_firm_28 ?_
          refine r_sI5 hO d_C_firm_29 rfl ?_
          exact loop 100 0 S I _ _ _ (by omega) (Or.inl rfl) (cd_TH.rf _ _ _)
        · refine r_ldc hO k_C_62 d_C_firm_20 ?_
          refine r_iret hO hE (Nat.zero_le _) (Nat.zero_le _) d_C_firm_22 ?_
          exact ⟨by unfold sp_firm; rw [if_neg (c := nI 0 ≤ z ∧ z ≤ nI 1) (by rintro ⟨q1, q2⟩; have e0 : (nI 0).toInt = 0 := rfl; have e1 : (0 : Int32).toInt = 0 := rfl; simp only [Int32.lt_iff_toInt_lt, Int32.le_iff_toInt_le] at *; omega), ite_self], cd_TH.rf _ _ _⟩
theorem d_C_heard_0 : cd_D_iload b_C_heard 0 1 1 := Or.inr ⟨1, ⟨by decide +kernel, rfl⟩, rfl⟩
theorem d_C_heard_1 : cd_Dk b_C_heard 1 (nI 1) 2 := Or.inl ⟨1, ⟨by decide +kernel, rfl⟩, by decide +kernel⟩
theorem d_C_heard_2 : cd_D_icmp_lt b_C_heard 2 20 5 := ⟨18, by decide +kernel, by decide, rfl⟩
theorem d_C_heard_5 : cd_D_iload b_C_heard 5 1 6 := Or.inr ⟨1, ⟨by decide +kernel, rfl⟩, rfl⟩
theorem d_C_heard_6 : cd_Dk b_C_heard 6 (nI 100) 8 := Or.inr (Or.inl ⟨100, ⟨by decide +kernel, rfl⟩, by decide +kernel⟩)
theorem d_C_heard_8 : cd_D_icmp_gt b_C_heard 8 20 11 := ⟨12, by decide +kernel, by decide, rfl⟩
theorem d_C_heard_11 : cd_D_iload b_C_heard 11 2 12 := Or.inr ⟨2, ⟨by decide +kernel, rfl⟩, rfl⟩
theorem d_C_heard_12 : cd_D_if_lt b_C_heard 12 20 15 := ⟨8, by decide +kernel, by decide, rfl⟩
theorem d_C_heard_15 : cd_D_iload b_C_heard 15 2 16 := Or.inr ⟨2, ⟨by decide +kernel, rfl⟩, rfl⟩
theorem d_C_heard_16 : cd_Dk b_C_heard 16 (nI 1) 17 := Or.inl ⟨1, ⟨by decide +kernel, rfl⟩, by decide +kernel⟩
theorem d_C_heard_17 : cd_D_icmp_le b_C_heard 17 23 20 := ⟨6, by decide +kernel, by decide, rfl⟩
theorem d_C_heard_20 : cd_D 2 b_C_heard 20 (.ldc 62) 22 := ⟨by decide +kernel, rfl⟩
theorem d_C_heard_22 : cd_D 1 b_C_heard 22 .ireturn 23 := ⟨by decide +kernel, rfl⟩
theorem d_C_heard_23 : cd_D_aload b_C_heard 23 0 24 := Or.inr ⟨0, ⟨by decide +kernel, rfl⟩, rfl⟩
theorem d_C_heard_24 : cd_D 3 b_C_heard 24 (.getfield 10) 27 := ⟨by decide +kernel, rfl⟩
theorem d_C_heard_27 : cd_D 3 b_C_heard 27 (.getfield 63) 30 := ⟨by decide +kernel, rfl⟩
theorem d_C_heard_30 : cd_D_if_ne b_C_heard 30 36 33 := ⟨6, by decide +kernel, by decide, rfl⟩
theorem d_C_heard_33 : cd_D 2 b_C_heard 33 (.ldc 160) 35 := ⟨by decide +kernel, rfl⟩
theorem d_C_heard_35 : cd_D 1 b_C_heard 35 .ireturn 36 := ⟨by decide +kernel, rfl⟩
theorem d_C_heard_36 : cd_Dk b_C_heard 36 (nI 0) 37 := Or.inl ⟨0, ⟨by decide +kernel, rfl⟩, by decide +kernel⟩
theorem d_C_heard_37 : cd_D_istore b_C_heard 37 3 38 := Or.inr ⟨3, ⟨by decide +kernel, rfl⟩, rfl⟩
theorem d_C_heard_38 : cd_Dk b_C_heard 38 (nI 0) 39 := Or.inl ⟨0, ⟨by decide +kernel, rfl⟩, by decide +kernel⟩
theorem d_C_heard_39 : cd_D_istore b_C_heard 39 4 41 := Or.inl ⟨by decide +kernel, rfl⟩
theorem d_C_heard_41 : cd_Dk b_C_heard 41 (nI 0) 42 := Or.inl ⟨0, ⟨by decide +kernel, rfl⟩, by decide +kernel⟩
theorem d_C_heard_42 : cd_D_istore b_C_heard 42 5 44 := Or.inl ⟨by decide +kernel, rfl⟩
theorem d_C_heard_44 : cd_D_iload b_C_heard 44 5 46 := Or.inl ⟨by decide +kernel, rfl⟩
theorem d_C_heard_46 : cd_D_aload b_C_heard 46 0 47 := Or.inr ⟨0, ⟨by decide +kernel, rfl⟩, rfl⟩
theorem d_C_heard_47 : cd_D 3 b_C_heard 47 (.getfield 10) 50 := ⟨by decide +kernel, rfl⟩
theorem d_C_heard_50 : cd_D 3 b_C_heard 50 (.getfield 63) 53 := ⟨by decide +kernel, rfl⟩
theorem d_C_heard_53 : cd_D_icmp_ge b_C_heard 53 125 56 := ⟨72, by decide +kernel, by decide, rfl⟩
theorem d_C_heard_56 : cd_D_aload b_C_heard 56 0 57 := Or.inr ⟨0, ⟨by decide +kernel, rfl⟩, rfl⟩
theorem d_C_heard_57 : cd_D 3 b_C_heard 57 (.getfield 16) 60 := ⟨by decide +kernel, rfl⟩
theorem d_C_heard_60 : cd_D_aload b_C_heard 60 0 61 := Or.inr ⟨0, ⟨by decide +kernel, rfl⟩, rfl⟩
theorem d_C_heard_61 : cd_D 3 b_C_heard 61 (.getfield 10) 64 := ⟨by decide +kernel, rfl⟩
theorem d_C_heard_64 : cd_D 3 b_C_heard 64 (.invokevirtual 156) 67 := ⟨by decide +kernel, rfl⟩
theorem d_C_heard_67 : cd_D_aload b_C_heard 67 0 68 := Or.inr ⟨0, ⟨by decide +kernel, rfl⟩, rfl⟩
theorem d_C_heard_68 : cd_D 3 b_C_heard 68 (.getfield 16) 71 := ⟨by decide +kernel, rfl⟩
theorem d_C_heard_71 : cd_D 3 b_C_heard 71 (.getfield 75) 74 := ⟨by decide +kernel, rfl⟩
theorem d_C_heard_74 : cd_D_iload b_C_heard 74 5 76 := Or.inl ⟨by decide +kernel, rfl⟩
theorem d_C_heard_76 : cd_D 1 b_C_heard 76 .aaload 77 := ⟨by decide +kernel, rfl⟩
theorem d_C_heard_77 : cd_Dk b_C_heard 77 (nI 0) 78 := Or.inl ⟨0, ⟨by decide +kernel, rfl⟩, by decide +kernel⟩
theorem d_C_heard_78 : cd_D 3 b_C_heard 78 (.putfield 87) 81 := ⟨by decide +kernel, rfl⟩
theorem d_C_heard_81 : cd_D_aload b_C_heard 81 0 82 := Or.inr ⟨0, ⟨by decide +kernel, rfl⟩, rfl⟩
theorem d_C_heard_82 : cd_D 3 b_C_heard 82 (.getfield 16) 85 := ⟨by decide +kernel, rfl⟩
theorem d_C_heard_85 : cd_D_iload b_C_heard 85 1 86 := Or.inr ⟨1, ⟨by decide +kernel, rfl⟩, rfl⟩
theorem d_C_heard_86 : cd_D 3 b_C_heard 86 (.invokevirtual 146) 89 := ⟨by decide +kernel, rfl⟩
theorem d_C_heard_89 : cd_D_aload b_C_heard 89 0 90 := Or.inr ⟨0, ⟨by decide +kernel, rfl⟩, rfl⟩
theorem d_C_heard_90 : cd_D 3 b_C_heard 90 (.getfield 16) 93 := ⟨by decide +kernel, rfl⟩
theorem d_C_heard_93 : cd_D 3 b_C_heard 93 (.getfield 142) 96 := ⟨by decide +kernel, rfl⟩
theorem d_C_heard_96 : cd_Dk b_C_heard 96 (nI 0) 97 := Or.inl ⟨0, ⟨by decide +kernel, rfl⟩, by decide +kernel⟩
theorem d_C_heard_97 : cd_D 1 b_C_heard 97 .iaload 98 := ⟨by decide +kernel, rfl⟩
theorem d_C_heard_98 : cd_D_istore b_C_heard 98 6 100 := Or.inl ⟨by decide +kernel, rfl⟩
theorem d_C_heard_100 : cd_D_iload b_C_heard 100 5 102 := Or.inl ⟨by decide +kernel, rfl⟩
theorem d_C_heard_102 : cd_D_if_eq b_C_heard 102 112 105 := ⟨10, by decide +kernel, by decide, rfl⟩
theorem d_C_heard_105 : cd_D_iload b_C_heard 105 6 107 := Or.inl ⟨by decide +kernel, rfl⟩
theorem d_C_heard_107 : cd_D_iload b_C_heard 107 4 109 := Or.inl ⟨by decide +kernel, rfl⟩
theorem d_C_heard_109 : cd_D_icmp_ge b_C_heard 109 119 112 := ⟨10, by decide +kernel, by decide, rfl⟩
theorem d_C_heard_112 : cd_D_iload b_C_heard 112 6 114 := Or.inl ⟨by decide +kernel, rfl⟩
theorem d_C_heard_114 : cd_D_istore b_C_heard 114 4 116 := Or.inl ⟨by decide +kernel, rfl⟩
theorem d_C_heard_116 : cd_D_iload b_C_heard 116 5 118 := Or.inl ⟨by decide +kernel, rfl⟩
theorem d_C_heard_118 : cd_D_istore b_C_heard 118 3 119 := Or.inr ⟨3, ⟨by decide +kernel, rfl⟩, rfl⟩
theorem d_C_heard_119 : cd_D 3 b_C_heard 119 (.iinc 5 (1)) 122 := ⟨by decide +kernel, rfl⟩
theorem d_C_heard_122 : cd_D_goto b_C_heard 122 44 := ⟨-78, by decide +kernel, by decide⟩
theorem d_C_heard_125 : cd_D_iload b_C_heard 125 2 126 := Or.inr ⟨2, ⟨by decide +kernel, rfl⟩, rfl⟩
theorem d_C_heard_126 : cd_D_if_ne b_C_heard 126 133 129 := ⟨7, by decide +kernel, by decide, rfl⟩
theorem d_C_heard_129 : cd_D_iload b_C_heard 129 3 130 := Or.inr ⟨3, ⟨by decide +kernel, rfl⟩, rfl⟩
theorem d_C_heard_130 : cd_D_goto b_C_heard 130 135 := ⟨5, by decide +kernel, by decide⟩
theorem d_C_heard_133 : cd_D_iload b_C_heard 133 4 135 := Or.inl ⟨by decide +kernel, rfl⟩
theorem d_C_heard_135 : cd_D 1 b_C_heard 135 .ireturn 136 := ⟨by decide +kernel, rfl⟩
theorem c_C_heard {l : Launch} {w : cd_WT} {S : cd_Sp} {I : cd_Mem} (hC : cd_CD w S) {mm tc : Nat} {N : Nat → Int32} (hG : cd_HG w S I (w.1 + 1) N mm tc) {rr : Nat} (h10 : N 10 = nI rr) (hrr : rr < 2 ^ 30) (n z : Int32) : cd_C l w m_C_heard 6 0 0 [.ref w.1, .int n, .int z] S I (cd_Pth w S I (sp_heard N mm tc n z)) := by
  refine cd_intro (by decide) (by simp [Value.category]) (Nat.le_of_ble_eq_true rfl) ?_
  intro X hO hE
  show cd_J w X 0 0 S I 0 [some (.ref w.1), some (.int n), some (.int z), none, none, none, none] []
  obtain ⟨hH, hhd, hV, hIV, hR⟩ := id hG
  have hmm := hV.2.1
  have hm1 : I (w.1 + 1) 3 = nI mm := (hR.at 1 (by omega) rfl rfl).trans hV.1
  refine r_iload hO d_C_heard_0 rfl ?_
  refine r_k hO d_C_heard_1 ?_
  refine r_icmp_lt hO d_C_heard_2 (fun c_2 => ?_) (fun c_2 => ?_)
  · refine r_ldc hO k_C_62 d_C_heard_20 ?_
    refine r_iret hO hE (Nat.zero_le _) (Nat.zero_le _) d_C_heard_22 ?_
    exact ⟨by unfold sp_heard; rw [if_neg (c := nI 1 ≤ n ∧ n ≤ nI 100) (by rintro ⟨q1, q2⟩; simp only [Int32.lt_iff_toInt_lt, Int32.le_iff_toInt_le] at *; omega)], cd_TH.rf _ _ _⟩
  · refine r_iload hO d_C_heard_5 rfl ?_
    refine r_k hO d_C_heard_6 ?_
    refine r_icmp_gt hO d_C_heard_8 (fun c_8 => ?_) (fun c_8 => ?_)
    · refine r_ldc hO k_C_62 d_C_heard_20 ?_
      refine r_iret hO hE (Nat.zero_le _) (Nat.zero_le _) d_C_heard_22 ?_
      exact ⟨by unfold sp_heard; rw [if_neg (c := nI 1 ≤ n ∧ n ≤ nI 100) (by rintro ⟨q1, q2⟩; simp only [Int32.lt_iff_toInt_lt, Int32.le_iff_toInt_le] at *; omega)], cd_TH.rf _ _ _⟩
    · refine r_iload hO d_C_heard_11 rfl ?_
      refine r_if_lt hO d_C_heard_12 (fun c_12 => ?_) (fun c_12 => ?_)
      · refine r_ldc hO k_C_62 d_C_heard_20 ?_
        refine r_iret hO hE (Nat.zero_le _) (Nat.zero_le _) d_C_heard_22 ?_
        exact ⟨by unfold sp_heard; rw [if_neg (c := nI 0 ≤ z ∧ z ≤ nI 1) (by rintro ⟨q1, q2⟩; have e0 : (nI 0).toInt = 0 := rfl; have e1 : (0 : Int32).toInt = 0 := rfl; simp only [Int32.lt_iff_toInt_lt, Int32.le_iff_toInt_le] at *; omega), ite_self], cd_TH.rf _ _ _⟩
      · refine r_iload hO d_C_heard_15 rfl ?_
        refine r_k hO d_C_heard_16 ?_
        refine r_icmp_le hO d_C_heard_17 (fun c_17 => ?_) (fun c_17 => ?_)
        · have c2 : nI 1 ≤ n := (by simp only [Int32.lt_iff_toInt_lt, Int32.le_iff_toInt_le] at *; omega)
          have hc8 : n ≤ nI 100 := (by simp only [Int32.lt_iff_toInt_lt, Int32.le_iff_toInt_le] at *; omega)
          have hz : nI 0 ≤ z ∧ z ≤ nI 1 := ⟨cd_le0 c_12, c_17⟩
          obtain ⟨q, hq1, hq, rfl⟩ := cd_in_ex ⟨c2, hc8⟩ (by decide) (by decide)
          refine r_aload hO d_C_heard_23 rfl ?_
          refine r_getR hO f_C_10 rfl hC.1 hC.2.1 d_C_heard_24 ?_
          refine r_getI hO f_C_63 rfl hH.2.1 d_C_heard_27 ?_
          refine r_tops hm1 ?_
          refine r_if_ne hO d_C_heard_30 (fun c_30 => ?_) (fun c_30 => ?_)
          · have hm0 : 0 < mm := Nat.pos_of_ne_zero (fun q => c_30 (by rw [q]; rfl))
            have loop : ∀ (r p : Nat) (S1 : cd_Sp) (I1 : cd_Mem) (b e : Int32) (x6 : Option Value), p + r = mm → cd_bi (fun p => cd_hs (upd N (16 + 5 * p + 2) (nI 0)) mm tc q 10) p b e → cd_TH w S I S1 I1 → cd_J w X 0 0 S1 I1 44 [some (.ref w.1), some (.int (nI q)), some (.int z), some (.int b), some (.int e), some (.int (nI p)), x6] [] := by
              intro r
              induction r with
              | zero =>
                intro p S1 I1 b e x6 hp hb hT1
                have hp1 : p = mm := by omega
                subst hp1
                have hC1 := hT1.cd hC
                have hN1 := hT1.now hG
                have hm3 : I1 (w.1 + 1) 3 = nI p := (hN1.2.2.2.2.at 1 (by omega) rfl rfl).trans hV.1
                obtain ⟨k, hk1, hk2, hk⟩ := hb.resolve_left (fun q => by omega)
                refine r_iload hO d_C_heard_44 rfl ?_
                refine r_aload hO d_C_heard_46 rfl ?_
                refine r_getR hO f_C_10 rfl hC1.1 hC1.2.1 d_C_heard_47 ?_
                refine r_getI hO f_C_63 rfl hN1.1.2.1 d_C_heard_50 ?_
                refine r_tops hm3 ?_
                refine r_icmp_ge hO d_C_heard_53 (fun c_53 => ?_) (fun c_53 => ?_)
                · refine r_iload hO d_C_heard_125 rfl ?_
                  refine r_if_ne hO d_C_heard_126 (fun c_126 => ?_) (fun c_126 => ?_)
                  · refine r_iload hO d_C_heard_133 rfl ?_
                    refine r_iret hO hE (Nat.zero_le _) (Nat.zero_le _) d_C_heard_135 ?_
                    exact ⟨by unfold sp_heard; rw [if_pos ⟨c2, hc8⟩, if_pos hz, cd_tn_nI (show _ < 2 ^ 31 by omega), hk, hk2, if_pos (show (0 : Int32) ≤ nI k from nI_le (a := 0) (by omega) (by omega)), if_neg c_126], hT1⟩
                  · refine r_iload hO d_C_heard_129 rfl ?_
                    refine r_goto hO d_C_heard_130 ?_
                    refine r_iret hO hE (Nat.zero_le _) (Nat.zero_le _) d_C_heard_135 ?_
                    exact ⟨by unfold sp_heard; rw [if_pos ⟨c2, hc8⟩, if_pos hz, cd_tn_nI (show _ < 2 ^ 31 by omega), hk, hk2, if_pos (show (0 : Int32) ≤ nI k from nI_le (a := 0) (by omega) (by omega)), if_pos c_126], hT1⟩
                · exact absurd (nI_le (Nat.le_refl _) (by omega)) c_53
              | succ r ih =>
                intro p S1 I1 b e x6 hp hb hT1
                have hpm : p < mm := by omega
                have hC1 := hT1.cd hC
                have hN1 := hT1.now hG
                have hO1 : cd_HO w S1 (w.1 + 19) := hC1.2.2.2.2.2.2.2.2.2.2.1
                have hm3 : I1 (w.1 + 1) 3 = nI mm := (hN1.2.2.2.2.at 1 (by omega) rfl rfl).trans hV.1
                refine r_iload hO d_C_heard_44 rfl ?_
                refine r_aload hO d_C_heard_46 rfl ?_
                refine r_getR hO f_C_10 rfl hC1.1 hC1.2.1 d_C_heard_47 ?_
                refine r_getI hO f_C_63 rfl hN1.1.2.1 d_C_heard_50 ?_
                refine r_tops hm3 ?_
                refine r_icmp_ge hO d_C_heard_53 (fun c_53 => ?_) (fun c_53 => ?_)
                · exact absurd c_53 (nI_ge (by omega) (by omega))
                · refine r_aload hO d_C_heard_56 rfl ?_
                  refine r_getR hO f_C_16 rfl hC1.1 hC1.2.2.1 d_C_heard_57 ?_
                  refine r_aload hO d_C_heard_60 rfl ?_
                  refine r_getR hO f_C_10 rfl hC1.1 hC1.2.1 d_C_heard_61 ?_
                  refine r_think hO hE lk_C_156 (by decide) rfl (Nat.le_of_ble_eq_true rfl) d_C_heard_64 (Nat.zero_le _) (Nat.zero_le _) hC hG hT1 ?_
                  intro S3 I3 hT3 hG3
                  have hC3 := hT3.cd hC
                  have hN3 := hT3.now hG
                  refine r_aload hO d_C_heard_67 rfl ?_
                  refine r_getR hO f_C_16 rfl hC3.1 hC3.2.2.1 d_C_heard_68 ?_
                  refine r_getR hO f_C_75 rfl hG3.1.2.1 hG3.1.2.2.2.2.1.1 d_C_heard_71 ?_
                  refine r_iload hO d_C_heard_74 rfl ?_
                  refine r_aald (t := 4) hO hG3.1.2.2.2.2.1.2 (by decide) (by decide) (by omega) (by decide) (hG3.1.2.2.2.2.2.2.2 _ (by omega)).1 d_C_heard_76 ?_
                  refine r_k hO d_C_heard_77 ?_
                  refine r_putI hO f_C_87 rfl (hG3.1.2.2.2.2.2.2.2 _ (by omega)).2 (Nat.le_trans hG3.1.1 (Nat.le_trans (Nat.le_add_right _ 6) (Nat.le_add_right _ _))) d_C_heard_78 ?_
                  have hGa := cd_HG_ask hG3 hpm 2 (by decide) (nI 0) ⟨0, by decide, rfl⟩
                  refine r_aload hO d_C_heard_81 rfl ?_
                  refine r_getR hO f_C_16 rfl hC3.1 hC3.2.2.1 d_C_heard_82 ?_
                  refine r_iload hO d_C_heard_85 rfl ?_
                  refine r_cV1v hO hE (c_H_passHours hGa _ (by omega)) mf_H_passHours lk_C_146 hG3.1.2.1 rfl (by decide) rfl (Nat.le_of_ble_eq_true rfl) d_C_heard_86 (Nat.zero_le _) (Nat.zero_le _) ?_
                  rintro I4 ⟨hG4, ho4⟩
                  refine r_aload hO d_C_heard_89 rfl ?_
                  refine r_getR hO f_C_16 rfl hC3.1 hC3.2.2.1 d_C_heard_90 ?_
                  refine r_getR hO f_C_142 rfl hG3.1.2.1 hG3.1.2.2.2.1.1 d_C_heard_93 ?_
                  refine r_k hO d_C_heard_96 ?_
                  refine r_iald hO hG3.1.2.2.2.1.2 (by omega) (by decide) d_C_heard_97 ?_
                  refine r_tops (hG4.2.2.2.2.at 10 (by omega) rfl rfl) ?_
                  refine r_sI6 hO d_C_heard_98 rfl ?_
                  refine r_iload hO d_C_heard_100 rfl ?_
                  refine r_if_eq hO d_C_heard_102 (fun c_102 => ?_) (fun c_102 => ?_)
                  · refine r_iload hO d_C_heard_112 rfl ?_
                    refine r_sI4 hO d_C_heard_114 rfl ?_
                    refine r_iload hO d_C_heard_116 rfl ?_
                    refine r_sI3 hO d_C_heard_118 rfl ?_
                    refine r_incN5 hO d_C_heard_119 rfl ?_
                    refine r_goto hO d_C_heard_122 ?_
                    exact ih (p + 1) S3 I4 _ _ _ (by omega) (cd_bi_z (by omega) c_102 rfl) ((hT3.of (cd_ofh.set _ _ (cd_wr_in (by omega) (by omega)))).of ho4)
                  · have hbs := cd_bi_s hb (by omega) c_102 (x := cd_hs (upd N (16 + 5 * p + 2) (nI 0)) mm tc q 10) rfl
                    refine r_iload hO d_C_heard_105 rfl ?_
                    refine r_iload hO d_C_heard_107 rfl ?_
                    refine r_icmp_ge hO d_C_heard_109 (fun c_109 => ?_) (fun c_109 => ?_)
                    · refine r_incN5 hO d_C_heard_119 rfl ?_
                      refine r_goto hO d_C_heard_122 ?_
                      exact ih (p + 1) S3 I4 _ _ _ (by omega) (hbs.1 c_109) ((hT3.of (cd_ofh.set _ _ (cd_wr_in (by omega) (by omega)))).of ho4)
                    · refine r_iload hO d_C_heard_112 rfl ?_
                      refine r_sI4 hO d_C_heard_114 rfl ?_
                      refine r_iload hO d_C_heard_116 rfl ?_
                      refine r_sI3 hO d_C_heard_118 rfl ?_
                      refine r_incN5 hO d_C_heard_119 rfl ?_
                      refine r_goto hO d_C_heard_122 ?_
                      exact ih (p + 1) S3 I4 _ _ _ (by omega) (hbs.2 c_109) ((hT3.of (cd_ofh.set _ _ (cd_wr_in (by omega) (by omega)))).of ho4)
            refine r_k hO d_C_heard_36 ?_
            refine r_sI3 hO d_C_heard_37 rfl ?_
            refine r_k hO d_C_heard_38 ?_
            refine r_sI4 hO d_C_heard_39 rfl ?_
            refine r_k hO d_C_heard_41 ?_
            refine r_sI5 hO d_C_heard_42 rfl ?_
            exact loop mm 0 S I _ _ _ (by omega) (Or.inl rfl) (cd_TH.rf _ _ _)
          · have hmm0 : mm = 0 := by
              rcases Nat.eq_zero_or_pos mm with q | q
              · exact q
              · exact absurd c_30 (nI_ne0 q (by omega))
            refine r_ldc hO k_C_160 d_C_heard_33 ?_
            refine r_iret hO hE (Nat.zero_le _) (Nat.zero_le _) d_C_heard_35 ?_
            exact ⟨by unfold sp_heard; rw [if_pos ⟨c2, hc8⟩, if_pos hz, hmm0]; rfl, cd_TH.rf _ _ _⟩
        · refine r_ldc hO k_C_62 d_C_heard_20 ?_
          refine r_iret hO hE (Nat.zero_le _) (Nat.zero_le _) d_C_heard_22 ?_
          exact ⟨by unfold sp_heard; rw [if_neg (c := nI 0 ≤ z ∧ z ≤ nI 1) (by rintro ⟨q1, q2⟩; have e0 : (nI 0).toInt = 0 := rfl; have e1 : (0 : Int32).toInt = 0 := rfl; simp only [Int32.lt_iff_toInt_lt, Int32.le_iff_toInt_le] at *; omega), ite_self], cd_TH.rf _ _ _⟩
