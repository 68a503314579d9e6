def px_TP (T : Nat → Int32) (B : Nat → Nat) (L : Nat) : Prop := L ≤ 96 ∧ ∀ j, j < L → T j = nI (B j) ∧ B j < 256
/-- what go leaves of the reference's own row -/
def px_GO (R0 R : Nat → Int32) (B : Nat → Nat) (t : px_Tok) : Prop := (∀ k, k ≠ 7 → k ≠ 8 → k ≠ 9 → k ≠ 10 → k ≠ 11 → R k = R0 k) ∧ R 8 = nI t.1 ∧ R 9 = nI t.2.1 ∧ R 7 = nI t.2.2 ∧ (t.2.1 = 1 ∨ t.2.1 = 3 → R 10 = nI (B t.1)) ∧ (t.2.1 = 2 → R 10 = nI (px_nm B t.1 (t.2.2 - t.1))) ∧ (t.2.1 = 1 ∨ t.2.1 = 2 → R 11 = nI t.2.2) ∧ (t.2.1 = 3 → ∀ q, t.2.2 ≤ q → q ≤ 96 → R 11 ≠ nI q)
/-- what stands behind the last word, before go -/
def px_bw (R : Nat → Int32) (bw : Prop) (p : Nat) : Prop := (bw → R 11 = nI p) ∧ (¬ bw → ∀ q, p ≤ q → q ≤ 96 → R 11 ≠ nI q)
theorem d_M_isLetter_0 : cd_D_iload b_M_isLetter 0 1 1 := Or.inr ⟨1, ⟨by decide +kernel, rfl⟩, rfl⟩
theorem d_M_isLetter_1 : cd_D_aload b_M_isLetter 1 0 2 := Or.inr ⟨0, ⟨by decide +kernel, rfl⟩, rfl⟩
theorem d_M_isLetter_2 : cd_D 3 b_M_isLetter 2 (.getfield 191) 5 := ⟨by decide +kernel, rfl⟩
theorem d_M_isLetter_5 : cd_D_icmp_ge b_M_isLetter 5 34 8 := ⟨29, by decide +kernel, by decide, rfl⟩
theorem d_M_isLetter_8 : cd_D_aload b_M_isLetter 8 0 9 := Or.inr ⟨0, ⟨by decide +kernel, rfl⟩, rfl⟩
theorem d_M_isLetter_9 : cd_D 3 b_M_isLetter 9 (.getfield 22) 12 := ⟨by decide +kernel, rfl⟩
theorem d_M_isLetter_12 : cd_D_iload b_M_isLetter 12 1 13 := Or.inr ⟨1, ⟨by decide +kernel, rfl⟩, rfl⟩
theorem d_M_isLetter_13 : cd_D 1 b_M_isLetter 13 .iaload 14 := ⟨by decide +kernel, rfl⟩
theorem d_M_isLetter_14 : cd_Dk b_M_isLetter 14 (nI 97) 16 := Or.inr (Or.inl ⟨97, ⟨by decide +kernel, rfl⟩, by decide +kernel⟩)
theorem d_M_isLetter_16 : cd_D_icmp_lt b_M_isLetter 16 34 19 := ⟨18, by decide +kernel, by decide, rfl⟩
theorem d_M_isLetter_19 : cd_D_aload b_M_isLetter 19 0 20 := Or.inr ⟨0, ⟨by decide +kernel, rfl⟩, rfl⟩
theorem d_M_isLetter_20 : cd_D 3 b_M_isLetter 20 (.getfield 22) 23 := ⟨by decide +kernel, rfl⟩
theorem d_M_isLetter_23 : cd_D_iload b_M_isLetter 23 1 24 := Or.inr ⟨1, ⟨by decide +kernel, rfl⟩, rfl⟩
theorem d_M_isLetter_24 : cd_D 1 b_M_isLetter 24 .iaload 25 := ⟨by decide +kernel, rfl⟩
theorem d_M_isLetter_25 : cd_Dk b_M_isLetter 25 (nI 122) 27 := Or.inr (Or.inl ⟨122, ⟨by decide +kernel, rfl⟩, by decide +kernel⟩)
theorem d_M_isLetter_27 : cd_D_icmp_gt b_M_isLetter 27 34 30 := ⟨7, by decide +kernel, by decide, rfl⟩
theorem d_M_isLetter_30 : cd_Dk b_M_isLetter 30 (nI 1) 31 := Or.inl ⟨1, ⟨by decide +kernel, rfl⟩, by decide +kernel⟩
theorem d_M_isLetter_31 : cd_D_goto b_M_isLetter 31 35 := ⟨4, by decide +kernel, by decide⟩
theorem d_M_isLetter_34 : cd_Dk b_M_isLetter 34 (nI 0) 35 := Or.inl ⟨0, ⟨by decide +kernel, rfl⟩, by decide +kernel⟩
theorem d_M_isLetter_35 : cd_D 1 b_M_isLetter 35 .ireturn 36 := ⟨by decide +kernel, rfl⟩
theorem c_M_isLetter {l : Launch} {w : cd_WT} {S : cd_Sp} {I : cd_Mem} {m : Nat} (hM : cd_MO w S m) {B : Nat → Nat} {L : Nat} (hL : I m 6 = nI L) (hT : px_TP (I (m + 5)) B L) (k : Nat) (hk : k ≤ L) : cd_C l w m_M_isLetter 0 0 0 [.ref m, .int (nI k)] S I (cd_Fi S (cd_bI (px_ltr B L k)) I) := by
  refine cd_intro (by decide) (by simp [Value.category]) (Nat.le_of_ble_eq_true rfl) ?_
  intro X hO hE
  show cd_J w X 0 0 S I 0 [some (.ref m), some (.int (nI k))] []
  have hT1 := hT.1
  have hT2 := hT.2 k
  refine r_iload hO d_M_isLetter_0 rfl ?_
  refine r_aload hO d_M_isLetter_1 rfl ?_
  refine r_getI hO f_M_191 rfl hM.2.1 d_M_isLetter_2 ?_
  refine r_tops (show _ = nI L from hL) ?_
  refine r_icmp_ge hO d_M_isLetter_5 (fun c_5 => ?_) (fun c_5 => ?_)
  · rw [nI_leI (by omega) (by omega)] at c_5
    refine r_k hO d_M_isLetter_34 ?_
    refine r_zret hO hE (by first | exact Or.inl rfl | exact Or.inr rfl) (Nat.zero_le _) (Nat.zero_le _) d_M_isLetter_35 ?_
    first | exact cd_ret1 ⟨by omega, by omega, by omega⟩ | exact cd_ret0 (fun q => by have q1 := q.1; have q2 := q.2.1; have q3 := q.2.2; omega)
  · rw [nI_leI (by omega) (by omega)] at c_5
    obtain ⟨hT3, hT4⟩ := hT2 (by omega)
    refine r_aload hO d_M_isLetter_8 rfl ?_
    refine r_getR hO f_M_22 rfl hM.2.1 (mo_r5 hM) d_M_isLetter_9 ?_
    refine r_iload hO d_M_isLetter_12 rfl ?_
    refine r_iald hO (mo_s5 hM) (by omega) (by decide) d_M_isLetter_13 ?_
    rw [hT3]
    refine r_k hO d_M_isLetter_14 ?_
    refine r_icmp_lt hO d_M_isLetter_16 (fun c_16 => ?_) (fun c_16 => ?_)
    · rw [nI_ltI (by omega) (by omega)] at c_16
      refine r_k hO d_M_isLetter_34 ?_
      refine r_zret hO hE (by first | exact Or.inl rfl | exact Or.inr rfl) (Nat.zero_le _) (Nat.zero_le _) d_M_isLetter_35 ?_
      first | exact cd_ret1 ⟨by omega, by omega, by omega⟩ | exact cd_ret0 (fun q => by have q1 := q.1; have q2 := q.2.1; have q3 := q.2.2; omega)
    · rw [nI_ltI (by omega) (by omega)] at c_16
      refine r_aload hO d_M_isLetter_19 rfl ?_
      refine r_getR hO f_M_22 rfl hM.2.1 (mo_r5 hM) d_M_isLetter_20 ?_
      refine r_iload hO d_M_isLetter_23 rfl ?_
      refine r_iald hO (mo_s5 hM) (by omega) (by decide) d_M_isLetter_24 ?_
      rw [hT3]
      refine r_k hO d_M_isLetter_25 ?_
      refine r_icmp_gt hO d_M_isLetter_27 (fun c_27 => ?_) (fun c_27 => ?_)
      · rw [nI_ltI (by omega) (by omega)] at c_27
        refine r_k hO d_M_isLetter_34 ?_
        refine r_zret hO hE (by first | exact Or.inl rfl | exact Or.inr rfl) (Nat.zero_le _) (Nat.zero_le _) d_M_isLetter_35 ?_
        first | exact cd_ret1 ⟨by omega, by omega, by omega⟩ | exact cd_ret0 (fun q => by have q1 := q.1; have q2 := q.2.1; have q3 := q.2.2; omega)
      · rw [nI_ltI (by omega) (by omega)] at c_27
        refine r_k hO d_M_isLetter_30 ?_
        refine r_goto hO d_M_isLetter_31 ?_
        refine r_zret hO hE (by first | exact Or.inl rfl | exact Or.inr rfl) (Nat.zero_le _) (Nat.zero_le _) d_M_isLetter_35 ?_
        first | exact cd_ret1 ⟨by omega, by omega, by omega⟩ | exact cd_ret0 (fun q => by have q1 := q.1; have q2 := q.2.1; have q3 := q.2.2; omega)
theorem d_M_isFigure_0 : cd_D_iload b_M_isFigure 0 1 1 := Or.inr ⟨1, ⟨by decide +kernel, rfl⟩, rfl⟩
theorem d_M_isFigure_1 : cd_D_aload b_M_isFigure 1 0 2 := Or.inr ⟨0, ⟨by decide +kernel, rfl⟩, rfl⟩
theorem d_M_isFigure_2 : cd_D 3 b_M_isFigure 2 (.getfield 191) 5 := ⟨by decide +kernel, rfl⟩
theorem d_M_isFigure_5 : cd_D_icmp_ge b_M_isFigure 5 34 8 := ⟨29, by decide +kernel, by decide, rfl⟩
theorem d_M_isFigure_8 : cd_D_aload b_M_isFigure 8 0 9 := Or.inr ⟨0, ⟨by decide +kernel, rfl⟩, rfl⟩
theorem d_M_isFigure_9 : cd_D 3 b_M_isFigure 9 (.getfield 22) 12 := ⟨by decide +kernel, rfl⟩
theorem d_M_isFigure_12 : cd_D_iload b_M_isFigure 12 1 13 := Or.inr ⟨1, ⟨by decide +kernel, rfl⟩, rfl⟩
theorem d_M_isFigure_13 : cd_D 1 b_M_isFigure 13 .iaload 14 := ⟨by decide +kernel, rfl⟩
theorem d_M_isFigure_14 : cd_Dk b_M_isFigure 14 (nI 48) 16 := Or.inr (Or.inl ⟨48, ⟨by decide +kernel, rfl⟩, by decide +kernel⟩)
theorem d_M_isFigure_16 : cd_D_icmp_lt b_M_isFigure 16 34 19 := ⟨18, by decide +kernel, by decide, rfl⟩
theorem d_M_isFigure_19 : cd_D_aload b_M_isFigure 19 0 20 := Or.inr ⟨0, ⟨by decide +kernel, rfl⟩, rfl⟩
theorem d_M_isFigure_20 : cd_D 3 b_M_isFigure 20 (.getfield 22) 23 := ⟨by decide +kernel, rfl⟩
theorem d_M_isFigure_23 : cd_D_iload b_M_isFigure 23 1 24 := Or.inr ⟨1, ⟨by decide +kernel, rfl⟩, rfl⟩
theorem d_M_isFigure_24 : cd_D 1 b_M_isFigure 24 .iaload 25 := ⟨by decide +kernel, rfl⟩
theorem d_M_isFigure_25 : cd_Dk b_M_isFigure 25 (nI 57) 27 := Or.inr (Or.inl ⟨57, ⟨by decide +kernel, rfl⟩, by decide +kernel⟩)
theorem d_M_isFigure_27 : cd_D_icmp_gt b_M_isFigure 27 34 30 := ⟨7, by decide +kernel, by decide, rfl⟩
theorem d_M_isFigure_30 : cd_Dk b_M_isFigure 30 (nI 1) 31 := Or.inl ⟨1, ⟨by decide +kernel, rfl⟩, by decide +kernel⟩
theorem d_M_isFigure_31 : cd_D_goto b_M_isFigure 31 35 := ⟨4, by decide +kernel, by decide⟩
theorem d_M_isFigure_34 : cd_Dk b_M_isFigure 34 (nI 0) 35 := Or.inl ⟨0, ⟨by decide +kernel, rfl⟩, by decide +kernel⟩
theorem d_M_isFigure_35 : cd_D 1 b_M_isFigure 35 .ireturn 36 := ⟨by decide +kernel, rfl⟩
theorem c_M_isFigure {l : Launch} {w : cd_WT} {S : cd_Sp} {I : cd_Mem} {m : Nat} (hM : cd_MO w S m) {B : Nat → Nat} {L : Nat} (hL : I m 6 = nI L) (hT : px_TP (I (m + 5)) B L) (k : Nat) (hk : k ≤ L) : cd_C l w m_M_isFigure 0 0 0 [.ref m, .int (nI k)] S I (cd_Fi S (cd_bI (px_fig B L k)) I) := by
  refine cd_intro (by decide) (by simp [Value.category]) (Nat.le_of_ble_eq_true rfl) ?_
  intro X hO hE
  show cd_J w X 0 0 S I 0 [some (.ref m), some (.int (nI k))] []
  have hT1 := hT.1
  have hT2 := hT.2 k
  refine r_iload hO d_M_isFigure_0 rfl ?_
  refine r_aload hO d_M_isFigure_1 rfl ?_
  refine r_getI hO f_M_191 rfl hM.2.1 d_M_isFigure_2 ?_
  refine r_tops (show _ = nI L from hL) ?_
  refine r_icmp_ge hO d_M_isFigure_5 (fun c_5 => ?_) (fun c_5 => ?_)
  · rw [nI_leI (by omega) (by omega)] at c_5
    refine r_k hO d_M_isFigure_34 ?_
    refine r_zret hO hE (by first | exact Or.inl rfl | exact Or.inr rfl) (Nat.zero_le _) (Nat.zero_le _) d_M_isFigure_35 ?_
    first | exact cd_ret1 ⟨by omega, by omega, by omega⟩ | exact cd_ret0 (fun q => by have q1 := q.1; have q2 := q.2.1; have q3 := q.2.2; omega)
  · rw [nI_leI (by omega) (by omega)] at c_5
    obtain ⟨hT3, hT4⟩ := hT2 (by omega)
    refine r_aload hO d_M_isFigure_8 rfl ?_
    refine r_getR hO f_M_22 rfl hM.2.1 (mo_r5 hM) d_M_isFigure_9 ?_
    refine r_iload hO d_M_isFigure_12 rfl ?_
    refine r_iald hO (mo_s5 hM) (by omega) (by decide) d_M_isFigure_13 ?_
    rw [hT3]
    refine r_k hO d_M_isFigure_14 ?_
    refine r_icmp_lt hO d_M_isFigure_16 (fun c_16 => ?_) (fun c_16 => ?_)
    · rw [nI_ltI (by omega) (by omega)] at c_16
      refine r_k hO d_M_isFigure_34 ?_
      refine r_zret hO hE (by first | exact Or.inl rfl | exact Or.inr rfl) (Nat.zero_le _) (Nat.zero_le _) d_M_isFigure_35 ?_
      first | exact cd_ret1 ⟨by omega, by omega, by omega⟩ | exact cd_ret0 (fun q => by have q1 := q.1; have q2 := q.2.1; have q3 := q.2.2; omega)
    · rw [nI_ltI (by omega) (by omega)] at c_16
      refine r_aload hO d_M_isFigure_19 rfl ?_
      refine r_getR hO f_M_22 rfl hM.2.1 (mo_r5 hM) d_M_isFigure_20 ?_
      refine r_iload hO d_M_isFigure_23 rfl ?_
      refine r_iald hO (mo_s5 hM) (by omega) (by decide) d_M_isFigure_24 ?_
      rw [hT3]
      refine r_k hO d_M_isFigure_25 ?_
      refine r_icmp_gt hO d_M_isFigure_27 (fun c_27 => ?_) (fun c_27 => ?_)
      · rw [nI_ltI (by omega) (by omega)] at c_27
        refine r_k hO d_M_isFigure_34 ?_
        refine r_zret hO hE (by first | exact Or.inl rfl | exact Or.inr rfl) (Nat.zero_le _) (Nat.zero_le _) d_M_isFigure_35 ?_
        first | exact cd_ret1 ⟨by omega, by omega, by omega⟩ | exact cd_ret0 (fun q => by have q1 := q.1; have q2 := q.2.1; have q3 := q.2.2; omega)
      · rw [nI_ltI (by omega) (by omega)] at c_27
        refine r_k hO d_M_isFigure_30 ?_
        refine r_goto hO d_M_isFigure_31 ?_
        refine r_zret hO hE (by first | exact Or.inl rfl | exact Or.inr rfl) (Nat.zero_le _) (Nat.zero_le _) d_M_isFigure_35 ?_
        first | exact cd_ret1 ⟨by omega, by omega, by omega⟩ | exact cd_ret0 (fun q => by have q1 := q.1; have q2 := q.2.1; have q3 := q.2.2; omega)
