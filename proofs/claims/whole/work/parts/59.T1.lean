/-- a byte as the component holds it -/
def px_sx (b : Nat) : Int32 := (nI b).toInt8.toInt32
theorem px_sx_p : ∀ b, b < 128 → px_sx b = nI b := by decide +kernel
theorem px_sx_n : ∀ b, b < 256 → 128 ≤ b → px_sx b < 0 := by decide +kernel
theorem px_sx_eq {b c : Nat} (hb : b < 256) (hc : c < 128) : px_sx b = nI c ↔ b = c := by
  rcases Nat.lt_or_ge b 128 with h | h
  · rw [px_sx_p b h, nI_eq (by omega) (by omega)]
  · exact ⟨fun q => absurd (px_sx_n b hb h) (by rw [q]; exact nI_pos (by omega)), fun q => by omega⟩
theorem px_sx_lt {b c : Nat} (hb : b < 256) (hc : c < 128) : px_sx b < nI c ↔ b < c ∨ 128 ≤ b := by
  rcases Nat.lt_or_ge b 128 with h | h
  · rw [px_sx_p b h, nI_ltI (by omega) (by omega)]
    omega
  · refine ⟨fun _ => Or.inr h, fun _ => ?_⟩
    have h1 := px_sx_n b hb h
    have h2 : (0 : Int32) ≤ nI c := Int32.not_lt.mp (nI_pos (by omega))
    exact Int32.lt_of_lt_of_le h1 h2
theorem px_sx_gt {b c : Nat} (hb : b < 256) (hc : c < 128) : nI c < px_sx b ↔ c < b ∧ b < 128 := by
  rcases Nat.lt_or_ge b 128 with h | h
  · rw [px_sx_p b h, nI_ltI (by omega) (by omega)]
    omega
  · refine ⟨fun q => ?_, fun q => by omega⟩
    have h1 := px_sx_n b hb h
    exact absurd (Int32.lt_trans q h1) (nI_pos (by omega))
/-- the component's tape holds the bytes B -/
def px_CP (I : cd_Mem) (w : cd_WT) (B : Nat → Nat) (L : Nat) : Prop := I (w.1 + 55) 0 = nI L ∧ L ≤ 96 ∧ ∀ j, j < L → B j < 256 ∧ I (w.1 + 56) j = px_sx (B j)
def px_so (B : Nat → Nat) (L p : Nat) : Nat := if L ≤ p then 0 else if px_ltr B L p then 1 else if px_fig B L p then 2 else 3
theorem px_so_b (B : Nat → Nat) (L p : Nat) : px_so B L p ≤ 3 := by
  unfold px_so
  repeat' split
  all_goals decide
theorem px_so_1 {B : Nat → Nat} {L p : Nat} (h : p < L) : px_so B L p = 1 ↔ px_ltr B L p := by
  unfold px_so
  rw [if_neg (by omega)]
  by_cases h1 : px_ltr B L p
  · rw [if_pos h1]; exact ⟨fun _ => h1, fun _ => rfl⟩
  · rw [if_neg h1]
    refine ⟨fun q => ?_, fun q => absurd q h1⟩
    split at q <;> cases q
theorem px_so_2 {B : Nat → Nat} {L p : Nat} (h : p < L) : px_so B L p = 2 ↔ px_fig B L p := by
  unfold px_so
  rw [if_neg (by omega)]
  by_cases h1 : px_ltr B L p
  · rw [if_pos h1]; exact ⟨fun q => (by cases q), fun q => by have := q.2.2; have := h1.2.1; omega⟩
  · rw [if_neg h1]
    by_cases h2 : px_fig B L p
    · rw [if_pos h2]; exact ⟨fun _ => h2, fun _ => rfl⟩
    · rw [if_neg h2]; exact ⟨fun q => (by cases q), fun q => absurd q h2⟩
theorem d_T_sortAt_0 : cd_D_iload b_T_sortAt 0 1 1 := Or.inr ⟨1, ⟨by decide +kernel, rfl⟩, rfl⟩
theorem d_T_sortAt_1 : cd_D_aload b_T_sortAt 1 0 2 := Or.inr ⟨0, ⟨by decide +kernel, rfl⟩, rfl⟩
theorem d_T_sortAt_2 : cd_D 3 b_T_sortAt 2 (.getfield 9) 5 := ⟨by decide +kernel, rfl⟩
theorem d_T_sortAt_5 : cd_D_icmp_lt b_T_sortAt 5 10 8 := ⟨5, by decide +kernel, by decide, rfl⟩
theorem d_T_sortAt_8 : cd_Dk b_T_sortAt 8 (nI 0) 9 := Or.inl ⟨0, ⟨by decide +kernel, rfl⟩, by decide +kernel⟩
theorem d_T_sortAt_9 : cd_D 1 b_T_sortAt 9 .ireturn 10 := ⟨by decide +kernel, rfl⟩
theorem d_T_sortAt_10 : cd_D_aload b_T_sortAt 10 0 11 := Or.inr ⟨0, ⟨by decide +kernel, rfl⟩, rfl⟩
theorem d_T_sortAt_11 : cd_D 3 b_T_sortAt 11 (.getfield 33) 14 := ⟨by decide +kernel, rfl⟩
theorem d_T_sortAt_14 : cd_D_iload b_T_sortAt 14 1 15 := Or.inr ⟨1, ⟨by decide +kernel, rfl⟩, rfl⟩
theorem d_T_sortAt_15 : cd_D 1 b_T_sortAt 15 .baload 16 := ⟨by decide +kernel, rfl⟩
theorem d_T_sortAt_16 : cd_D_istore b_T_sortAt 16 2 17 := Or.inr ⟨2, ⟨by decide +kernel, rfl⟩, rfl⟩
theorem d_T_sortAt_17 : cd_D_iload b_T_sortAt 17 2 18 := Or.inr ⟨2, ⟨by decide +kernel, rfl⟩, rfl⟩
theorem d_T_sortAt_18 : cd_Dk b_T_sortAt 18 (nI 97) 20 := Or.inr (Or.inl ⟨97, ⟨by decide +kernel, rfl⟩, by decide +kernel⟩)
theorem d_T_sortAt_20 : cd_D_icmp_lt b_T_sortAt 20 31 23 := ⟨11, by decide +kernel, by decide, rfl⟩
theorem d_T_sortAt_23 : cd_D_iload b_T_sortAt 23 2 24 := Or.inr ⟨2, ⟨by decide +kernel, rfl⟩, rfl⟩
theorem d_T_sortAt_24 : cd_Dk b_T_sortAt 24 (nI 122) 26 := Or.inr (Or.inl ⟨122, ⟨by decide +kernel, rfl⟩, by decide +kernel⟩)
theorem d_T_sortAt_26 : cd_D_icmp_gt b_T_sortAt 26 31 29 := ⟨5, by decide +kernel, by decide, rfl⟩
theorem d_T_sortAt_29 : cd_Dk b_T_sortAt 29 (nI 1) 30 := Or.inl ⟨1, ⟨by decide +kernel, rfl⟩, by decide +kernel⟩
theorem d_T_sortAt_30 : cd_D 1 b_T_sortAt 30 .ireturn 31 := ⟨by decide +kernel, rfl⟩
theorem d_T_sortAt_31 : cd_D_iload b_T_sortAt 31 2 32 := Or.inr ⟨2, ⟨by decide +kernel, rfl⟩, rfl⟩
theorem d_T_sortAt_32 : cd_Dk b_T_sortAt 32 (nI 48) 34 := Or.inr (Or.inl ⟨48, ⟨by decide +kernel, rfl⟩, by decide +kernel⟩)
theorem d_T_sortAt_34 : cd_D_icmp_lt b_T_sortAt 34 47 37 := ⟨13, by decide +kernel, by decide, rfl⟩
theorem d_T_sortAt_37 : cd_D_iload b_T_sortAt 37 2 38 := Or.inr ⟨2, ⟨by decide +kernel, rfl⟩, rfl⟩
theorem d_T_sortAt_38 : cd_Dk b_T_sortAt 38 (nI 57) 40 := Or.inr (Or.inl ⟨57, ⟨by decide +kernel, rfl⟩, by decide +kernel⟩)
theorem d_T_sortAt_40 : cd_D_icmp_gt b_T_sortAt 40 47 43 := ⟨7, by decide +kernel, by decide, rfl⟩
theorem d_T_sortAt_43 : cd_Dk b_T_sortAt 43 (nI 2) 44 := Or.inl ⟨2, ⟨by decide +kernel, rfl⟩, by decide +kernel⟩
theorem d_T_sortAt_44 : cd_D_goto b_T_sortAt 44 48 := ⟨4, by decide +kernel, by decide⟩
theorem d_T_sortAt_47 : cd_Dk b_T_sortAt 47 (nI 3) 48 := Or.inl ⟨3, ⟨by decide +kernel, rfl⟩, by decide +kernel⟩
theorem d_T_sortAt_48 : cd_D 1 b_T_sortAt 48 .ireturn 49 := ⟨by decide +kernel, rfl⟩
theorem c_T_sortAt {l : Launch} {w : cd_WT} {S : cd_Sp} {I : cd_Mem} (hC : cd_CD w S) {B : Nat → Nat} {L : Nat} (hB : px_CP I w B L) (p : Nat) (hp : p ≤ 96) : cd_C l w m_T_sortAt 0 0 0 [.ref (w.1 + 55), .int (nI p)] S I (cd_Fi S (nI (px_so B L p)) I) := by
  refine cd_intro (by decide) (by simp [Value.category]) (Nat.le_of_ble_eq_true rfl) ?_
  intro X hO hE
  show cd_J w X 0 0 S I 0 [some (.ref (w.1 + 55)), some (.int (nI p)), none] []
  have hL := hB.2.1
  have hBp := hB.2.2 p
  refine r_iload hO d_T_sortAt_0 rfl ?_
  refine r_aload hO d_T_sortAt_1 rfl ?_
  refine r_getI hO f_T_9 rfl hC.2.2.2.2.2.2.2.2.2.2.2.2.1.1 d_T_sortAt_2 ?_
  refine r_tops (show _ = nI L from hB.1) ?_
  refine r_icmp_lt hO d_T_sortAt_5 (fun c_5 => ?_) (fun c_5 => ?_)
  · rw [nI_ltI (by omega) (by omega)] at c_5
    obtain ⟨hb, hby⟩ := hBp (by omega)
    refine r_aload hO d_T_sortAt_10 rfl ?_
    refine r_getR hO f_T_33 rfl hC.2.2.2.2.2.2.2.2.2.2.2.2.1.1 hC.2.2.2.2.2.2.2.2.2.2.2.2.1.2.1 d_T_sortAt_11 ?_
    refine r_iload hO d_T_sortAt_14 rfl ?_
    refine r_bald hO hC.2.2.2.2.2.2.2.2.2.2.2.2.1.2.2.2.1 (by omega) (by decide) d_T_sortAt_15 ?_
    rw [hby]
    refine r_sI2 hO d_T_sortAt_16 rfl ?_
    refine r_iload hO d_T_sortAt_17 rfl ?_
    refine r_k hO d_T_sortAt_18 ?_
    refine r_icmp_lt hO d_T_sortAt_20 (fun c_20 => ?_) (fun c_20 => ?_)
    · rw [px_sx_lt hb (by decide)] at c_20
      refine r_iload hO d_T_sortAt_31 rfl ?_
      refine r_k hO d_T_sortAt_32 ?_
      refine r_icmp_lt hO d_T_sortAt_34 (fun c_34 => ?_) (fun c_34 => ?_)
      · rw [px_sx_lt hb (by decide)] at c_34
        refine r_k hO d_T_sortAt_47 ?_
        refine r_iret hO hE (Nat.zero_le _) (Nat.zero_le _) d_T_sortAt_48 ?_
        exact ⟨by unfold px_so; rw [if_neg (by omega), if_neg (fun q => by have q1 := q.2.1; have q2 := q.2.2; omega), if_neg (fun q => by have q1 := q.2.1; have q2 := q.2.2; omega)], rfl, rfl⟩
      · rw [px_sx_lt hb (by decide)] at c_34
        refine r_iload hO d_T_sortAt_37 rfl ?_
        refine r_k hO d_T_sortAt_38 ?_
        refine r_icmp_gt hO d_T_sortAt_40 (fun c_40 => ?_) (fun c_40 => ?_)
        · rw [px_sx_gt hb (by decide)] at c_40
          refine r_k hO d_T_sortAt_47 ?_
          refine r_iret hO hE (Nat.zero_le _) (Nat.zero_le _) d_T_sortAt_48 ?_
          exact ⟨by unfold px_so; rw [if_neg (by omega), if_neg (fun q => by have q1 := q.2.1; have q2 := q.2.2; omega), if_neg (fun q => by have q1 := q.2.1; have q2 := q.2.2; omega)], rfl, rfl⟩
        · rw [px_sx_gt hb (by decide)] at c_40
          refine r_k hO d_T_sortAt_43 ?_
          refine r_goto hO d_T_sortAt_44 ?_
          refine r_iret hO hE (Nat.zero_le _) (Nat.zero_le _) d_T_sortAt_48 ?_
          exact ⟨by unfold px_so; rw [if_neg (by omega), if_neg (fun q => by have q1 := q.2.1; have q2 := q.2.2; omega), if_pos ⟨by omega, by omega, by omega⟩], rfl, rfl⟩
    · rw [px_sx_lt hb (by decide)] at c_20
      refine r_iload hO d_T_sortAt_23 rfl ?_
      refine r_k hO d_T_sortAt_24 ?_
      refine r_icmp_gt hO d_T_sortAt_26 (fun c_26 => ?_) (fun c_26 => ?_)
      · rw [px_sx_gt hb (by decide)] at c_26
        refine r_iload hO d_T_sortAt_31 rfl ?_
        refine r_k hO d_T_sortAt_32 ?_
        refine r_icmp_lt hO d_T_sortAt_34 (fun c_34 => ?_) (fun c_34 => ?_)
        · rw [px_sx_lt hb (by decide)] at c_34
          refine r_k hO d_T_sortAt_47 ?_
          refine r_iret hO hE (Nat.zero_le _) (Nat.zero_le _) d_T_sortAt_48 ?_
          exact ⟨by unfold px_so; rw [if_neg (by omega), if_neg (fun q => by have q1 := q.2.1; have q2 := q.2.2; omega), if_neg (fun q => by have q1 := q.2.1; have q2 := q.2.2; omega)], rfl, rfl⟩
        · rw [px_sx_lt hb (by decide)] at c_34
          refine r_iload hO d_T_sortAt_37 rfl ?_
          refine r_k hO d_T_sortAt_38 ?_
          refine r_icmp_gt hO d_T_sortAt_40 (fun c_40 => ?_) (fun c_40 => ?_)
          · rw [px_sx_gt hb (by decide)] at c_40
            refine r_k hO d_T_sortAt_47 ?_
            refine r_iret hO hE (Nat.zero_le _) (Nat.zero_le _) d_T_sortAt_48 ?_
            exact ⟨by unfold px_so; rw [if_neg (by omega), if_neg (fun q => by have q1 := q.2.1; have q2 := q.2.2; omega), if_neg (fun q => by have q1 := q.2.1; have q2 := q.2.2; omega)], rfl, rfl⟩
          · rw [px_sx_gt hb (by decide)] at c_40
            refine r_k hO d_T_sortAt_43 ?_
            refine r_goto hO d_T_sortAt_44 ?_
            refine r_iret hO hE (Nat.zero_le _) (Nat.zero_le _) d_T_sortAt_48 ?_
            exact ⟨by unfold px_so; rw [if_neg (by omega), if_neg (fun q => by have q1 := q.2.1; have q2 := q.2.2; omega), if_pos ⟨by omega, by omega, by omega⟩], rfl, rfl⟩
      · rw [px_sx_gt hb (by decide)] at c_26
        refine r_k hO d_T_sortAt_29 ?_
        refine r_iret hO hE (Nat.zero_le _) (Nat.zero_le _) d_T_sortAt_30 ?_
        exact ⟨by unfold px_so; rw [if_neg (by omega), if_pos ⟨by omega, by omega, by omega⟩], rfl, rfl⟩
  · rw [nI_ltI (by omega) (by omega)] at c_5
    refine r_k hO d_T_sortAt_8 ?_
    refine r_iret hO hE (Nat.zero_le _) (Nat.zero_le _) d_T_sortAt_9 ?_
    exact ⟨by unfold px_so; rw [if_pos (by omega)], rfl, rfl⟩
theorem d_T_advances_0 : cd_D_aload b_T_advances 0 0 1 := Or.inr ⟨0, ⟨by decide +kernel, rfl⟩, rfl⟩
theorem d_T_advances_1 : cd_D 3 b_T_advances 1 (.getfield 21) 4 := ⟨by decide +kernel, rfl⟩
theorem d_T_advances_4 : cd_Dk b_T_advances 4 (nI 1) 5 := Or.inl ⟨1, ⟨by decide +kernel, rfl⟩, by decide +kernel⟩
theorem d_T_advances_5 : cd_D_icmp_eq b_T_advances 5 16 8 := ⟨11, by decide +kernel, by decide, rfl⟩
theorem d_T_advances_8 : cd_D_aload b_T_advances 8 0 9 := Or.inr ⟨0, ⟨by decide +kernel, rfl⟩, rfl⟩
theorem d_T_advances_9 : cd_D 3 b_T_advances 9 (.getfield 21) 12 := ⟨by decide +kernel, rfl⟩
theorem d_T_advances_12 : cd_Dk b_T_advances 12 (nI 2) 13 := Or.inl ⟨2, ⟨by decide +kernel, rfl⟩, by decide +kernel⟩
theorem d_T_advances_13 : cd_D_icmp_ne b_T_advances 13 20 16 := ⟨7, by decide +kernel, by decide, rfl⟩
theorem d_T_advances_16 : cd_Dk b_T_advances 16 (nI 1) 17 := Or.inl ⟨1, ⟨by decide +kernel, rfl⟩, by decide +kernel⟩
theorem d_T_advances_17 : cd_D_goto b_T_advances 17 21 := ⟨4, by decide +kernel, by decide⟩
theorem d_T_advances_20 : cd_Dk b_T_advances 20 (nI 0) 21 := Or.inl ⟨0, ⟨by decide +kernel, rfl⟩, by decide +kernel⟩
theorem d_T_advances_21 : cd_D_istore b_T_advances 21 1 22 := Or.inr ⟨1, ⟨by decide +kernel, rfl⟩, rfl⟩
theorem d_T_advances_22 : cd_D_aload b_T_advances 22 0 23 := Or.inr ⟨0, ⟨by decide +kernel, rfl⟩, rfl⟩
theorem d_T_advances_23 : cd_D_aload b_T_advances 23 0 24 := Or.inr ⟨0, ⟨by decide +kernel, rfl⟩, rfl⟩
theorem d_T_advances_24 : cd_D 3 b_T_advances 24 (.getfield 18) 27 := ⟨by decide +kernel, rfl⟩
theorem d_T_advances_27 : cd_D 3 b_T_advances 27 (.putfield 15) 30 := ⟨by decide +kernel, rfl⟩
theorem d_T_advances_30 : cd_D_aload b_T_advances 30 0 31 := Or.inr ⟨0, ⟨by decide +kernel, rfl⟩, rfl⟩
theorem d_T_advances_31 : cd_D 3 b_T_advances 31 (.getfield 15) 34 := ⟨by decide +kernel, rfl⟩
theorem d_T_advances_34 : cd_D_aload b_T_advances 34 0 35 := Or.inr ⟨0, ⟨by decide +kernel, rfl⟩, rfl⟩
theorem d_T_advances_35 : cd_D 3 b_T_advances 35 (.getfield 9) 38 := ⟨by decide +kernel, rfl⟩
theorem d_T_advances_38 : cd_D_icmp_ge b_T_advances 38 68 41 := ⟨30, by decide +kernel, by decide, rfl⟩
theorem d_T_advances_41 : cd_D_aload b_T_advances 41 0 42 := Or.inr ⟨0, ⟨by decide +kernel, rfl⟩, rfl⟩
theorem d_T_advances_42 : cd_D 3 b_T_advances 42 (.getfield 33) 45 := ⟨by decide +kernel, rfl⟩
theorem d_T_advances_45 : cd_D_aload b_T_advances 45 0 46 := Or.inr ⟨0, ⟨by decide +kernel, rfl⟩, rfl⟩
theorem d_T_advances_46 : cd_D 3 b_T_advances 46 (.getfield 15) 49 := ⟨by decide +kernel, rfl⟩
theorem d_T_advances_49 : cd_D 1 b_T_advances 49 .baload 50 := ⟨by decide +kernel, rfl⟩
theorem d_T_advances_50 : cd_Dk b_T_advances 50 (nI 32) 52 := Or.inr (Or.inl ⟨32, ⟨by decide +kernel, rfl⟩, by decide +kernel⟩)
theorem d_T_advances_52 : cd_D_icmp_ne b_T_advances 52 68 55 := ⟨16, by decide +kernel, by decide, rfl⟩
theorem d_T_advances_55 : cd_D_aload b_T_advances 55 0 56 := Or.inr ⟨0, ⟨by decide +kernel, rfl⟩, rfl⟩
theorem d_T_advances_56 : cd_D 1 b_T_advances 56 .dup 57 := ⟨by decide +kernel, rfl⟩
theorem d_T_advances_57 : cd_D 3 b_T_advances 57 (.getfield 15) 60 := ⟨by decide +kernel, rfl⟩
theorem d_T_advances_60 : cd_Dk b_T_advances 60 (nI 1) 61 := Or.inl ⟨1, ⟨by decide +kernel, rfl⟩, by decide +kernel⟩
theorem d_T_advances_61 : cd_D 1 b_T_advances 61 .iadd 62 := ⟨by decide +kernel, rfl⟩
theorem d_T_advances_62 : cd_D 3 b_T_advances 62 (.putfield 15) 65 := ⟨by decide +kernel, rfl⟩
theorem d_T_advances_65 : cd_D_goto b_T_advances 65 30 := ⟨-35, by decide +kernel, by decide⟩
theorem d_T_advances_68 : cd_D_iload b_T_advances 68 1 69 := Or.inr ⟨1, ⟨by decide +kernel, rfl⟩, rfl⟩
theorem d_T_advances_69 : cd_D_if_eq b_T_advances 69 87 72 := ⟨18, by decide +kernel, by decide, rfl⟩
theorem d_T_advances_72 : cd_D_aload b_T_advances 72 0 73 := Or.inr ⟨0, ⟨by decide +kernel, rfl⟩, rfl⟩
theorem d_T_advances_73 : cd_D 3 b_T_advances 73 (.getfield 15) 76 := ⟨by decide +kernel, rfl⟩
theorem d_T_advances_76 : cd_D_aload b_T_advances 76 0 77 := Or.inr ⟨0, ⟨by decide +kernel, rfl⟩, rfl⟩
theorem d_T_advances_77 : cd_D 3 b_T_advances 77 (.getfield 18) 80 := ⟨by decide +kernel, rfl⟩
theorem d_T_advances_80 : cd_D_icmp_ne b_T_advances 80 87 83 := ⟨7, by decide +kernel, by decide, rfl⟩
theorem d_T_advances_83 : cd_Dk b_T_advances 83 (nI 1) 84 := Or.inl ⟨1, ⟨by decide +kernel, rfl⟩, by decide +kernel⟩
theorem d_T_advances_84 : cd_D_goto b_T_advances 84 88 := ⟨4, by decide +kernel, by decide⟩
theorem d_T_advances_87 : cd_Dk b_T_advances 87 (nI 0) 88 := Or.inl ⟨0, ⟨by decide +kernel, rfl⟩, by decide +kernel⟩
theorem d_T_advances_88 : cd_D_istore b_T_advances 88 2 89 := Or.inr ⟨2, ⟨by decide +kernel, rfl⟩, rfl⟩
theorem d_T_advances_89 : cd_D_aload b_T_advances 89 0 90 := Or.inr ⟨0, ⟨by decide +kernel, rfl⟩, rfl⟩
theorem d_T_advances_90 : cd_D_aload b_T_advances 90 0 91 := Or.inr ⟨0, ⟨by decide +kernel, rfl⟩, rfl⟩
theorem d_T_advances_91 : cd_D_aload b_T_advances 91 0 92 := Or.inr ⟨0, ⟨by decide +kernel, rfl⟩, rfl⟩
theorem d_T_advances_92 : cd_D 3 b_T_advances 92 (.getfield 15) 95 := ⟨by decide +kernel, rfl⟩
theorem d_T_advances_95 : cd_D 3 b_T_advances 95 (.invokevirtual 117) 98 := ⟨by decide +kernel, rfl⟩
theorem d_T_advances_98 : cd_D 3 b_T_advances 98 (.putfield 21) 101 := ⟨by decide +kernel, rfl⟩
theorem d_T_advances_101 : cd_D_aload b_T_advances 101 0 102 := Or.inr ⟨0, ⟨by decide +kernel, rfl⟩, rfl⟩
theorem d_T_advances_102 : cd_D_aload b_T_advances 102 0 103 := Or.inr ⟨0, ⟨by decide +kernel, rfl⟩, rfl⟩
theorem d_T_advances_103 : cd_D 3 b_T_advances 103 (.getfield 15) 106 := ⟨by decide +kernel, rfl⟩
theorem d_T_advances_106 : cd_D_aload b_T_advances 106 0 107 := Or.inr ⟨0, ⟨by decide +kernel, rfl⟩, rfl⟩
theorem d_T_advances_107 : cd_D 3 b_T_advances 107 (.getfield 9) 110 := ⟨by decide +kernel, rfl⟩
theorem d_T_advances_110 : cd_D_icmp_ge b_T_advances 110 122 113 := ⟨12, by decide +kernel, by decide, rfl⟩
theorem d_T_advances_113 : cd_D_aload b_T_advances 113 0 114 := Or.inr ⟨0, ⟨by decide +kernel, rfl⟩, rfl⟩
theorem d_T_advances_114 : cd_D 3 b_T_advances 114 (.getfield 15) 117 := ⟨by decide +kernel, rfl⟩
theorem d_T_advances_117 : cd_Dk b_T_advances 117 (nI 1) 118 := Or.inl ⟨1, ⟨by decide +kernel, rfl⟩, by decide +kernel⟩
theorem d_T_advances_118 : cd_D 1 b_T_advances 118 .iadd 119 := ⟨by decide +kernel, rfl⟩
theorem d_T_advances_119 : cd_D_goto b_T_advances 119 126 := ⟨7, by decide +kernel, by decide⟩
theorem d_T_advances_122 : cd_D_aload b_T_advances 122 0 123 := Or.inr ⟨0, ⟨by decide +kernel, rfl⟩, rfl⟩
theorem d_T_advances_123 : cd_D 3 b_T_advances 123 (.getfield 15) 126 := ⟨by decide +kernel, rfl⟩
theorem d_T_advances_126 : cd_D 3 b_T_advances 126 (.putfield 18) 129 := ⟨by decide +kernel, rfl⟩
theorem d_T_advances_129 : cd_D_aload b_T_advances 129 0 130 := Or.inr ⟨0, ⟨by decide +kernel, rfl⟩, rfl⟩
theorem d_T_advances_130 : cd_D 3 b_T_advances 130 (.getfield 21) 133 := ⟨by decide +kernel, rfl⟩
theorem d_T_advances_133 : cd_D_if_eq b_T_advances 133 144 136 := ⟨11, by decide +kernel, by decide, rfl⟩
theorem d_T_advances_136 : cd_D_aload b_T_advances 136 0 137 := Or.inr ⟨0, ⟨by decide +kernel, rfl⟩, rfl⟩
theorem d_T_advances_137 : cd_D 3 b_T_advances 137 (.getfield 21) 140 := ⟨by decide +kernel, rfl⟩
theorem d_T_advances_140 : cd_Dk b_T_advances 140 (nI 3) 141 := Or.inl ⟨3, ⟨by decide +kernel, rfl⟩, by decide +kernel⟩
theorem d_T_advances_141 : cd_D_icmp_ne b_T_advances 141 145 144 := ⟨4, by decide +kernel, by decide, rfl⟩
theorem d_T_advances_144 : cd_D 1 b_T_advances 144 .return_ 145 := ⟨by decide +kernel, rfl⟩
theorem d_T_advances_145 : cd_D_aload b_T_advances 145 0 146 := Or.inr ⟨0, ⟨by decide +kernel, rfl⟩, rfl⟩
theorem d_T_advances_146 : cd_D 3 b_T_advances 146 (.getfield 18) 149 := ⟨by decide +kernel, rfl⟩
theorem d_T_advances_149 : cd_D_aload b_T_advances 149 0 150 := Or.inr ⟨0, ⟨by decide +kernel, rfl⟩, rfl⟩
theorem d_T_advances_150 : cd_D 3 b_T_advances 150 (.getfield 9) 153 := ⟨by decide +kernel, rfl⟩
theorem d_T_advances_153 : cd_D_icmp_ge b_T_advances 153 184 156 := ⟨31, by decide +kernel, by decide, rfl⟩
theorem d_T_advances_156 : cd_D_aload b_T_advances 156 0 157 := Or.inr ⟨0, ⟨by decide +kernel, rfl⟩, rfl⟩
theorem d_T_advances_157 : cd_D_aload b_T_advances 157 0 158 := Or.inr ⟨0, ⟨by decide +kernel, rfl⟩, rfl⟩
theorem d_T_advances_158 : cd_D 3 b_T_advances 158 (.getfield 18) 161 := ⟨by decide +kernel, rfl⟩
theorem d_T_advances_161 : cd_D 3 b_T_advances 161 (.invokevirtual 117) 164 := ⟨by decide +kernel, rfl⟩
theorem d_T_advances_164 : cd_D_aload b_T_advances 164 0 165 := Or.inr ⟨0, ⟨by decide +kernel, rfl⟩, rfl⟩
theorem d_T_advances_165 : cd_D 3 b_T_advances 165 (.getfield 21) 168 := ⟨by decide +kernel, rfl⟩
theorem d_T_advances_168 : cd_D_icmp_ne b_T_advances 168 184 171 := ⟨16, by decide +kernel, by decide, rfl⟩
theorem d_T_advances_171 : cd_D_aload b_T_advances 171 0 172 := Or.inr ⟨0, ⟨by decide +kernel, rfl⟩, rfl⟩
theorem d_T_advances_172 : cd_D 1 b_T_advances 172 .dup 173 := ⟨by decide +kernel, rfl⟩
theorem d_T_advances_173 : cd_D 3 b_T_advances 173 (.getfield 18) 176 := ⟨by decide +kernel, rfl⟩
theorem d_T_advances_176 : cd_Dk b_T_advances 176 (nI 1) 177 := Or.inl ⟨1, ⟨by decide +kernel, rfl⟩, by decide +kernel⟩
theorem d_T_advances_177 : cd_D 1 b_T_advances 177 .iadd 178 := ⟨by decide +kernel, rfl⟩
theorem d_T_advances_178 : cd_D 3 b_T_advances 178 (.putfield 18) 181 := ⟨by decide +kernel, rfl⟩
theorem d_T_advances_181 : cd_D_goto b_T_advances 181 145 := ⟨-36, by decide +kernel, by decide⟩
theorem d_T_advances_184 : cd_D_iload b_T_advances 184 2 185 := Or.inr ⟨2, ⟨by decide +kernel, rfl⟩, rfl⟩
theorem d_T_advances_185 : cd_D_if_ne b_T_advances 185 209 188 := ⟨24, by decide +kernel, by decide, rfl⟩
theorem d_T_advances_188 : cd_D_aload b_T_advances 188 0 189 := Or.inr ⟨0, ⟨by decide +kernel, rfl⟩, rfl⟩
theorem d_T_advances_189 : cd_D 3 b_T_advances 189 (.getfield 21) 192 := ⟨by decide +kernel, rfl⟩
theorem d_T_advances_192 : cd_Dk b_T_advances 192 (nI 2) 193 := Or.inl ⟨2, ⟨by decide +kernel, rfl⟩, by decide +kernel⟩
theorem d_T_advances_193 : cd_D_icmp_ne b_T_advances 193 214 196 := ⟨21, by decide +kernel, by decide, rfl⟩
theorem d_T_advances_196 : cd_D_aload b_T_advances 196 0 197 := Or.inr ⟨0, ⟨by decide +kernel, rfl⟩, rfl⟩
theorem d_T_advances_197 : cd_D 3 b_T_advances 197 (.getfield 18) 200 := ⟨by decide +kernel, rfl⟩
theorem d_T_advances_200 : cd_D_aload b_T_advances 200 0 201 := Or.inr ⟨0, ⟨by decide +kernel, rfl⟩, rfl⟩
theorem d_T_advances_201 : cd_D 3 b_T_advances 201 (.getfield 15) 204 := ⟨by decide +kernel, rfl⟩
theorem d_T_advances_204 : cd_D 1 b_T_advances 204 .isub 205 := ⟨by decide +kernel, rfl⟩
theorem d_T_advances_205 : cd_Dk b_T_advances 205 (nI 4) 206 := Or.inl ⟨4, ⟨by decide +kernel, rfl⟩, by decide +kernel⟩
theorem d_T_advances_206 : cd_D_icmp_le b_T_advances 206 214 209 := ⟨8, by decide +kernel, by decide, rfl⟩
theorem d_T_advances_209 : cd_D_aload b_T_advances 209 0 210 := Or.inr ⟨0, ⟨by decide +kernel, rfl⟩, rfl⟩
theorem d_T_advances_210 : cd_Dk b_T_advances 210 (nI 4) 211 := Or.inl ⟨4, ⟨by decide +kernel, rfl⟩, by decide +kernel⟩
theorem d_T_advances_211 : cd_D 3 b_T_advances 211 (.putfield 21) 214 := ⟨by decide +kernel, rfl⟩
theorem d_T_advances_214 : cd_D 1 b_T_advances 214 .return_ 215 := ⟨by decide +kernel, rfl⟩
theorem c_T_advances {l : Launch} {w : cd_WT} {S : cd_Sp} {I : cd_Mem} (hC : cd_CD w S) {B : Nat → Nat} {L p s : Nat} (hB : px_CP I w B L) (he : I (w.1 + 55) 2 = nI p) (hpL : p ≤ L) (hs : I (w.1 + 55) 3 = nI s) (hs4 : s ≤ 4) : cd_C l w m_T_advances 1 0 0 [.ref (w.1 + 55)] S I (cd_Pv S (fun I' => ∃ Q, I' = cd_set I (w.1 + 55) Q ∧ (∀ k, k ≠ 1 → k ≠ 2 → k ≠ 3 → Q k = I (w.1 + 55) k) ∧ Q 1 = nI (px_tk B L (s = 1 ∨ s = 2) p).1 ∧ Q 2 = nI (px_tk B L (s = 1 ∨ s = 2) p).2.2 ∧ Q 3 = nI (px_tk B L (s = 1 ∨ s = 2) p).2.1)) := by
  refine cd_intro (by decide) (by simp [Value.category]) (Nat.le_of_ble_eq_true rfl) ?_
  intro X hO hE
  show cd_J w X 0 0 S I 0 [some (.ref (w.1 + 55)), none, none] []
  have hL := hB.2.1
  have hsb := px_sk_b B hpL
  obtain ⟨s0, hs0⟩ : ∃ s0, s0 = px_sk B L p := ⟨_, rfl⟩
  rw [← hs0] at hsb
  have main : ∀ Q : Nat → Int32, (∀ k, k ≠ 1 → Q k = I (w.1 + 55) k) → Q 1 = nI s0 → cd_J w X 0 0 S (cd_set I (w.1 + 55) Q) 89 [some (.ref (w.1 + 55)), some (.int (cd_bI (s = 1 ∨ s = 2))), some (.int (cd_bI ((s = 1 ∨ s = 2) ∧ s0 = p)))] [] := by
    intro Q hA h1
    have h0 : Q 0 = nI L := (hA 0 (by decide)).trans hB.1
    have fin1 : ∀ (n : Nat) (Q2 : Nat → Int32), s0 < L → px_ltr B L s0 → n = px_lr B L s0 → (∀ k, k ≠ 1 → k ≠ 2 → k ≠ 3 → Q2 k = I (w.1 + 55) k) → Q2 1 = nI s0 → Q2 2 = nI n → Q2 3 = nI 1 → cd_J w X 0 0 S (cd_set I (w.1 + 55) Q2) 184 [some (.ref (w.1 + 55)), some (.int (cd_bI (s = 1 ∨ s = 2))), some (.int (cd_bI ((s = 1 ∨ s = 2) ∧ s0 = p)))] [] := by
      intro n Q2 hsL hl hn hA2 h1 h2 h3
      have hbd := px_lr_b B hl
      have e : px_tk B L (s = 1 ∨ s = 2) p = (s0, if (s = 1 ∨ s = 2) ∧ s0 = p then 4 else 1, n) := by
        unfold px_tk
        rw [← hs0, if_neg (by omega), if_pos hl, hn]
      refine r_iload hO d_T_advances_184 rfl ?_
      refine r_if_neB hO d_T_advances_185 (fun c_185 => ?_) (fun c_185 => ?_)
      · refine r_aload hO d_T_advances_209 rfl ?_
        refine r_k hO d_T_advances_210 ?_
        refine r_putI hO f_T_21 rfl hC.2.2.2.2.2.2.2.2.2.2.2.2.1.1 (Nat.le_add_right _ _) d_T_advances_211 ?_
        try simp (disch := omega) only [cd_set_eq, cd_set_ne, cd_set_set]
        refine r_vret hO hE (Nat.zero_le _) (Nat.zero_le _) d_T_advances_214 ?_
        exact ⟨rfl, rfl, _, rfl, (fun k k1 k2 k3 => (px_un _ _ k3).trans (hA2 k k1 k2 k3)), by rw [e]; exact h1, by rw [e]; exact h2, by rw [e, if_pos c_185]; rfl⟩
      · refine r_aload hO d_T_advances_188 rfl ?_
        refine r_getI hO f_T_21 rfl hC.2.2.2.2.2.2.2.2.2.2.2.2.1.1 d_T_advances_189 ?_
        try simp (disch := omega) only [cd_set_eq, cd_set_ne, cd_set_set]
        refine r_tops (show _ = nI 1 from h3) ?_
        refine r_k hO d_T_advances_192 ?_
        refine r_icmp_ne hO d_T_advances_193 (fun c_193 => ?_) (fun c_193 => ?_)
        · refine r_vret hO hE (Nat.zero_le _) (Nat.zero_le _) d_T_advances_214 ?_
          exact ⟨rfl, rfl, _, rfl, hA2, by rw [e]; exact h1, by rw [e]; exact h2, by rw [e, if_neg c_185]; exact h3⟩
        · exact absurd c_193 (by decide)
    have loop1 : ∀ (r p' : Nat) (Q2 : Nat → Int32), s0 < L → px_ltr B L s0 → p' + r = L → px_rn (fun j => decide (px_ltr B L j)) r p' = px_lr B L s0 → (∀ k, k ≠ 1 → k ≠ 2 → k ≠ 3 → Q2 k = I (w.1 + 55) k) → Q2 1 = nI s0 → Q2 2 = nI p' → Q2 3 = nI 1 → cd_J w X 0 0 S (cd_set I (w.1 + 55) Q2) 145 [some (.ref (w.1 + 55)), some (.int (cd_bI (s = 1 ∨ s = 2))), some (.int (cd_bI ((s = 1 ∨ s = 2) ∧ s0 = p)))] [] := by
      intro r
      induction r with
      | zero =>
        intro p' Q2 hsL hl hp' hn hA2 h1 h2 h3
        have h0 : Q2 0 = nI L := (hA2 0 (by decide) (by decide) (by decide)).trans hB.1
        refine r_aload hO d_T_advances_145 rfl ?_
        refine r_getI hO f_T_18 rfl hC.2.2.2.2.2.2.2.2.2.2.2.2.1.1 d_T_advances_146 ?_
        try simp (disch := omega) only [cd_set_eq, cd_set_ne, cd_set_set]
        refine r_tops (show _ = nI p' from h2) ?_
        refine r_aload hO d_T_advances_149 rfl ?_
        refine r_getI hO f_T_9 rfl hC.2.2.2.2.2.2.2.2.2.2.2.2.1.1 d_T_advances_150 ?_
        try simp (disch := omega) only [cd_set_eq, cd_set_ne, cd_set_set]
        refine r_tops (show _ = nI L from h0) ?_
        refine r_icmp_ge hO d_T_advances_153 (fun c_153 => ?_) (fun c_153 => ?_)
        · exact fin1 _ Q2 hsL hl (by rw [← hn]; rfl) hA2 h1 h2 h3
        · exact absurd (nI_le (by omega) (by omega)) c_153
      | succ r ih =>
        intro p' Q2 hsL hl hp' hn hA2 h1 h2 h3
        have h0 : Q2 0 = nI L := (hA2 0 (by decide) (by decide) (by decide)).trans hB.1
        have hso := px_so_b B L p'
        refine r_aload hO d_T_advances_145 rfl ?_
        refine r_getI hO f_T_18 rfl hC.2.2.2.2.2.2.2.2.2.2.2.2.1.1 d_T_advances_146 ?_
        try simp (disch := omega) only [cd_set_eq, cd_set_ne, cd_set_set]
        refine r_tops (show _ = nI p' from h2) ?_
        refine r_aload hO d_T_advances_149 rfl ?_
        refine r_getI hO f_T_9 rfl hC.2.2.2.2.2.2.2.2.2.2.2.2.1.1 d_T_advances_150 ?_
        try simp (disch := omega) only [cd_set_eq, cd_set_ne, cd_set_set]
        refine r_tops (show _ = nI L from h0) ?_
        refine r_icmp_ge hO d_T_advances_153 (fun c_153 => ?_) (fun c_153 => ?_)
        · exact absurd c_153 (nI_ge (by omega) (by omega))
        · refine r_aload hO d_T_advances_156 rfl ?_
          refine r_aload hO d_T_advances_157 rfl ?_
          refine r_getI hO f_T_18 rfl hC.2.2.2.2.2.2.2.2.2.2.2.2.1.1 d_T_advances_158 ?_
          try simp (disch := omega) only [cd_set_eq, cd_set_ne, cd_set_set]
          refine r_tops (show _ = nI p' from h2) ?_
          refine r_cV1fi hO hE (c_T_sortAt hC (B := B) (L := L) (by rw [px_CP, cd_set_eq, cd_set_ne _ _ (by omega)]; exact ⟨h0, hB.2⟩) _ (by omega)) mf_T_sortAt lk_T_117 hC.2.2.2.2.2.2.2.2.2.2.2.2.1.1 rfl (by decide) rfl (Nat.le_of_ble_eq_true rfl) d_T_advances_161 (Nat.zero_le _) (Nat.zero_le _) ?_
          try simp (disch := omega) only [cd_set_eq, cd_set_ne, cd_set_set]
          refine r_aload hO d_T_advances_164 rfl ?_
          refine r_getI hO f_T_21 rfl hC.2.2.2.2.2.2.2.2.2.2.2.2.1.1 d_T_advances_165 ?_
          try simp (disch := omega) only [cd_set_eq, cd_set_ne, cd_set_set]
          refine r_tops (show _ = nI 1 from h3) ?_
          refine r_icmp_ne hO d_T_advances_168 (fun c_168 => ?_) (fun c_168 => ?_)
          · rw [nI_eq (by omega) (by omega), px_so_1 (by omega)] at c_168
            exact fin1 _ Q2 hsL hl (by rw [← hn, px_rn_n (by simpa using c_168)]) hA2 h1 h2 h3
          · rw [nI_eq (by omega) (by omega), px_so_1 (by omega)] at c_168
            refine r_aload hO d_T_advances_171 rfl ?_
            refine r_dup hO d_T_advances_172 rfl ?_
            refine r_getI hO f_T_18 rfl hC.2.2.2.2.2.2.2.2.2.2.2.2.1.1 d_T_advances_173 ?_
            try simp (disch := omega) only [cd_set_eq, cd_set_ne, cd_set_set]
            refine r_tops (show _ = nI p' from h2) ?_
            refine r_k hO d_T_advances_176 ?_
            refine r_iaddN hO d_T_advances_177 ?_
            refine r_putI hO f_T_18 rfl hC.2.2.2.2.2.2.2.2.2.2.2.2.1.1 (Nat.le_add_right _ _) d_T_advances_178 ?_
            try simp (disch := omega) only [cd_set_eq, cd_set_ne, cd_set_set]
            refine r_goto hO d_T_advances_181 ?_
            exact ih (p' + 1) _ hsL hl (by omega) (by rw [← hn, px_rn_y (by simpa using c_168)]) (fun k k1 k2 k3 => (px_un _ _ k2).trans (hA2 k k1 k2 k3)) h1 (px_ue _ _ _) h3
    have fin2 : ∀ (n : Nat) (Q2 : Nat → Int32), s0 < L → px_fig B L s0 → n = px_fr B L s0 → (∀ k, k ≠ 1 → k ≠ 2 → k ≠ 3 → Q2 k = I (w.1 + 55) k) → Q2 1 = nI s0 → Q2 2 = nI n → Q2 3 = nI 2 → cd_J w X 0 0 S (cd_set I (w.1 + 55) Q2) 184 [some (.ref (w.1 + 55)), some (.int (cd_bI (s = 1 ∨ s = 2))), some (.int (cd_bI ((s = 1 ∨ s = 2) ∧ s0 = p)))] [] := by
      intro n Q2 hsL hl hn hA2 h1 h2 h3
      have hbd := px_fr_b B hl
      have hnl : ¬ px_ltr B L s0 := fun q => by have := q.2.1; have := hl.2.2; omega
      have e : px_tk B L (s = 1 ∨ s = 2) p = (s0, if ((s = 1 ∨ s = 2) ∧ s0 = p) ∨ 4 < n - s0 then 4 else 2, n) := by
        unfold px_tk
        rw [← hs0, if_neg (by omega), if_neg hnl, if_pos hl, hn]
      refine r_iload hO d_T_advances_184 rfl ?_
      refine r_if_neB hO d_T_advances_185 (fun c_185 => ?_) (fun c_185 => ?_)
      · refine r_aload hO d_T_advances_209 rfl ?_
        refine r_k hO d_T_advances_210 ?_
        refine r_putI hO f_T_21 rfl hC.2.2.2.2.2.2.2.2.2.2.2.2.1.1 (Nat.le_add_right _ _) d_T_advances_211 ?_
        try simp (disch := omega) only [cd_set_eq, cd_set_ne, cd_set_set]
        refine r_vret hO hE (Nat.zero_le _) (Nat.zero_le _) d_T_advances_214 ?_
        exact ⟨rfl, rfl, _, rfl, (fun k k1 k2 k3 => (px_un _ _ k3).trans (hA2 k k1 k2 k3)), by rw [e]; exact h1, by rw [e]; exact h2, by rw [e, if_pos (Or.inl c_185)]; rfl⟩
      · refine r_aload hO d_T_advances_188 rfl ?_
        refine r_getI hO f_T_21 rfl hC.2.2.2.2.2.2.2.2.2.2.2.2.1.1 d_T_advances_189 ?_
        try simp (disch := omega) only [cd_set_eq, cd_set_ne, cd_set_set]
        refine r_tops (show _ = nI 2 from h3) ?_
        refine r_k hO d_T_advances_192 ?_
        refine r_icmp_ne hO d_T_advances_193 (fun c_193 => ?_) (fun c_193 => ?_)
        · exact absurd rfl c_193
        · refine r_aload hO d_T_advances_196 rfl ?_
          refine r_getI hO f_T_18 rfl hC.2.2.2.2.2.2.2.2.2.2.2.2.1.1 d_T_advances_197 ?_
          try simp (disch := omega) only [cd_set_eq, cd_set_ne, cd_set_set]
          refine r_tops (show _ = nI n from h2) ?_
          refine r_aload hO d_T_advances_200 rfl ?_
          refine r_getI hO f_T_15 rfl hC.2.2.2.2.2.2.2.2.2.2.2.2.1.1 d_T_advances_201 ?_
          try simp (disch := omega) only [cd_set_eq, cd_set_ne, cd_set_set]
          refine r_tops (show _ = nI s0 from h1) ?_
          refine r_isubN hO d_T_advances_204 (by omega) ?_
          refine r_k hO d_T_advances_205 ?_
          refine r_icmp_le hO d_T_advances_206 (fun c_206 => ?_) (fun c_206 => ?_)
          · rw [nI_leI (by omega) (by omega)] at c_206
            refine r_vret hO hE (Nat.zero_le _) (Nat.zero_le _) d_T_advances_214 ?_
            exact ⟨rfl, rfl, _, rfl, hA2, by rw [e]; exact h1, by rw [e]; exact h2, by rw [e, if_neg (fun q => by rcases q with q | q; exact c_185 q; omega)]; exact h3⟩
          · rw [nI_leI (by omega) (by omega)] at c_206
            refine r_aload hO d_T_advances_209 rfl ?_
            refine r_k hO d_T_advances_210 ?_
            refine r_putI hO f_T_21 rfl hC.2.2.2.2.2.2.2.2.2.2.2.2.1.1 (Nat.le_add_right _ _) d_T_advances_211 ?_
            try simp (disch := omega) only [cd_set_eq, cd_set_ne, cd_set_set]
            refine r_vret hO hE (Nat.zero_le _) (Nat.zero_le _) d_T_advances_214 ?_
            exact ⟨rfl, rfl, _, rfl, (fun k k1 k2 k3 => (px_un _ _ k3).trans (hA2 k k1 k2 k3)), by rw [e]; exact h1, by rw [e]; exact h2, by rw [e, if_pos (Or.inr (by omega))]; rfl⟩
    have loop2 : ∀ (r p' : Nat) (Q2 : Nat → Int32), s0 < L → px_fig B L s0 → p' + r = L → px_rn (fun j => decide (px_fig B L j)) r p' = px_fr B L s0 → (∀ k, k ≠ 1 → k ≠ 2 → k ≠ 3 → Q2 k = I (w.1 + 55) k) → Q2 1 = nI s0 → Q2 2 = nI p' → Q2 3 = nI 2 → cd_J w X 0 0 S (cd_set I (w.1 + 55) Q2) 145 [some (.ref (w.1 + 55)), some (.int (cd_bI (s = 1 ∨ s = 2))), some (.int (cd_bI ((s = 1 ∨ s = 2) ∧ s0 = p)))] [] := by
      intro r
      induction r with
      | zero =>
        intro p' Q2 hsL hl hp' hn hA2 h1 h2 h3
        have h0 : Q2 0 = nI L := (hA2 0 (by decide) (by decide) (by decide)).trans hB.1
        refine r_aload hO d_T_advances_145 rfl ?_
        refine r_getI hO f_T_18 rfl hC.2.2.2.2.2.2.2.2.2.2.2.2.1.1 d_T_advances_146 ?_
        try simp (disch := omega) only [cd_set_eq, cd_set_ne, cd_set_set]
        refine r_tops (show _ = nI p' from h2) ?_
        refine r_aload hO d_T_advances_149 rfl ?_
        refine r_getI hO f_T_9 rfl hC.2.2.2.2.2.2.2.2.2.2.2.2.1.1 d_T_advances_150 ?_
        try simp (disch := omega) only [cd_set_eq, cd_set_ne, cd_set_set]
        refine r_tops (show _ = nI L from h0) ?_
        refine r_icmp_ge hO d_T_advances_153 (fun c_153 => ?_) (fun c_153 => ?_)
        · exact fin2 _ Q2 hsL hl (by rw [← hn]; rfl) hA2 h1 h2 h3
        · exact absurd (nI_le (by omega) (by omega)) c_153
      | succ r ih =>
        intro p' Q2 hsL hl hp' hn hA2 h1 h2 h3
        have h0 : Q2 0 = nI L := (hA2 0 (by decide) (by decide) (by decide)).trans hB.1
        have hso := px_so_b B L p'
        refine r_aload hO d_T_advances_145 rfl ?_
        refine r_getI hO f_T_18 rfl hC.2.2.2.2.2.2.2.2.2.2.2.2.1.1 d_T_advances_146 ?_
        try simp (disch := omega) only [cd_set_eq, cd_set_ne, cd_set_set]
        refine r_tops (show _ = nI p' from h2) ?_
        refine r_aload hO d_T_advances_149 rfl ?_
        refine r_getI hO f_T_9 rfl hC.2.2.2.2.2.2.2.2.2.2.2.2.1.1 d_T_advances_150 ?_
        try simp (disch := omega) only [cd_set_eq, cd_set_ne, cd_set_set]
        refine r_tops (show _ = nI L from h0) ?_
        refine r_icmp_ge hO d_T_advances_153 (fun c_153 => ?_) (fun c_153 => ?_)
        · exact absurd c_153 (nI_ge (by omega) (by omega))
        · refine r_aload hO d_T_advances_156 rfl ?_
          refine r_aload hO d_T_advances_157 rfl ?_
          refine r_getI hO f_T_18 rfl hC.2.2.2.2.2.2.2.2.2.2.2.2.1.1 d_T_advances_158 ?_
          try simp (disch := omega) only [cd_set_eq, cd_set_ne, cd_set_set]
          refine r_tops (show _ = nI p' from h2) ?_
          refine r_cV1fi hO hE (c_T_sortAt hC (B := B) (L := L) (by rw [px_CP, cd_set_eq, cd_set_ne _ _ (by omega)]; exact ⟨h0, hB.2⟩) _ (by omega)) mf_T_sortAt lk_T_117 hC.2.2.2.2.2.2.2.2.2.2.2.2.1.1 rfl (by decide) rfl (Nat.le_of_ble_eq_true rfl) d_T_advances_161 (Nat.zero_le _) (Nat.zero_le _) ?_
          try simp (disch := omega) only [cd_set_eq, cd_set_ne, cd_set_set]
          refine r_aload hO d_T_advances_164 rfl ?_
          refine r_getI hO f_T_21 rfl hC.2.2.2.2.2.2.2.2.2.2.2.2.1.1 d_T_advances_165 ?_
          try simp (disch := omega) only [cd_set_eq, cd_set_ne, cd_set_set]
          refine r_tops (show _ = nI 2 from h3) ?_
          refine r_icmp_ne hO d_T_advances_168 (fun c_168 => ?_) (fun c_168 => ?_)
          · rw [nI_eq (by omega) (by omega), px_so_2 (by omega)] at c_168
            exact fin2 _ Q2 hsL hl (by rw [← hn, px_rn_n (by simpa using c_168)]) hA2 h1 h2 h3
          · rw [nI_eq (by omega) (by omega), px_so_2 (by omega)] at c_168
            refine r_aload hO d_T_advances_171 rfl ?_
            refine r_dup hO d_T_advances_172 rfl ?_
            refine r_getI hO f_T_18 rfl hC.2.2.2.2.2.2.2.2.2.2.2.2.1.1 d_T_advances_173 ?_
            try simp (disch := omega) only [cd_set_eq, cd_set_ne, cd_set_set]
            refine r_tops (show _ = nI p' from h2) ?_
            refine r_k hO d_T_advances_176 ?_
            refine r_iaddN hO d_T_advances_177 ?_
            refine r_putI hO f_T_18 rfl hC.2.2.2.2.2.2.2.2.2.2.2.2.1.1 (Nat.le_add_right _ _) d_T_advances_178 ?_
            try simp (disch := omega) only [cd_set_eq, cd_set_ne, cd_set_set]
            refine r_goto hO d_T_advances_181 ?_
            exact ih (p' + 1) _ hsL hl (by omega) (by rw [← hn, px_rn_y (by simpa using c_168)]) (fun k k1 k2 k3 => (px_un _ _ k2).trans (hA2 k k1 k2 k3)) h1 (px_ue _ _ _) h3
    by_cases hz : s0 = L
    · have e : px_tk B L (s = 1 ∨ s = 2) p = (s0, 0, s0) := by
        unfold px_tk
        rw [← hs0, if_pos hz]
      have eso : px_so B L s0 = 0 := if_pos (by omega)
      refine r_aload hO d_T_advances_89 rfl ?_
      refine r_aload hO d_T_advances_90 rfl ?_
      refine r_aload hO d_T_advances_91 rfl ?_
      refine r_getI hO f_T_15 rfl hC.2.2.2.2.2.2.2.2.2.2.2.2.1.1 d_T_advances_92 ?_
      try simp (disch := omega) only [cd_set_eq, cd_set_ne, cd_set_set]
      refine r_tops (show _ = nI s0 from h1) ?_
      refine r_cV1fi hO hE (c_T_sortAt hC (B := B) (L := L) (by rw [px_CP, cd_set_eq, cd_set_ne _ _ (by omega)]; exact ⟨h0, hB.2⟩) _ (by omega)) mf_T_sortAt lk_T_117 hC.2.2.2.2.2.2.2.2.2.2.2.2.1.1 rfl (by decide) rfl (Nat.le_of_ble_eq_true rfl) d_T_advances_95 (Nat.zero_le _) (Nat.zero_le _) ?_
      try simp (disch := omega) only [cd_set_eq, cd_set_ne, cd_set_set]
      refine r_putI hO f_T_21 rfl hC.2.2.2.2.2.2.2.2.2.2.2.2.1.1 (Nat.le_add_right _ _) d_T_advances_98 ?_
      try simp (disch := omega) only [cd_set_eq, cd_set_ne, cd_set_set]
      refine r_aload hO d_T_advances_101 rfl ?_
      refine r_aload hO d_T_advances_102 rfl ?_
      refine r_getI hO f_T_15 rfl hC.2.2.2.2.2.2.2.2.2.2.2.2.1.1 d_T_advances_103 ?_
      try simp (disch := omega) only [cd_set_eq, cd_set_ne, cd_set_set]
      refine r_tops (show _ = nI s0 from h1) ?_
      refine r_aload hO d_T_advances_106 rfl ?_
      refine r_getI hO f_T_9 rfl hC.2.2.2.2.2.2.2.2.2.2.2.2.1.1 d_T_advances_107 ?_
      try simp (disch := omega) only [cd_set_eq, cd_set_ne, cd_set_set]
      refine r_tops (show _ = nI L from h0) ?_
      refine r_icmp_ge hO d_T_advances_110 (fun c_110 => ?_) (fun c_110 => ?_)
      · refine r_aload hO d_T_advances_122 rfl ?_
        refine r_getI hO f_T_15 rfl hC.2.2.2.2.2.2.2.2.2.2.2.2.1.1 d_T_advances_123 ?_
        try simp (disch := omega) only [cd_set_eq, cd_set_ne, cd_set_set]
        refine r_tops (show _ = nI s0 from h1) ?_
        refine r_putI hO f_T_18 rfl hC.2.2.2.2.2.2.2.2.2.2.2.2.1.1 (Nat.le_add_right _ _) d_T_advances_126 ?_
        try simp (disch := omega) only [cd_set_eq, cd_set_ne, cd_set_set]
        refine r_aload hO d_T_advances_129 rfl ?_
        refine r_getI hO f_T_21 rfl hC.2.2.2.2.2.2.2.2.2.2.2.2.1.1 d_T_advances_130 ?_
        try simp (disch := omega) only [cd_set_eq, cd_set_ne, cd_set_set]
        refine r_tops (show _ = nI (px_so B L s0) from rfl) ?_
        refine r_if_eq hO d_T_advances_133 (fun c_133 => ?_) (fun c_133 => ?_)
        · refine r_vret hO hE (Nat.zero_le _) (Nat.zero_le _) d_T_advances_144 ?_
          exact ⟨rfl, rfl, _, rfl, (fun k k1 k2 k3 => by simp only [upd, k1, k2, k3, if_false]; exact hA k k1), by rw [e]; exact h1, by rw [e]; rfl, by rw [e]; exact (show nI (px_so B L s0) = nI 0 by rw [eso])⟩
        · exact absurd (by rw [eso]; rfl) c_133
      · exact absurd (nI_le (by omega) (by omega)) c_110
    · have hsL : s0 < L := by omega
      by_cases hl : px_ltr B L s0
      · have eso : px_so B L s0 = 1 := (px_so_1 hsL).mpr hl
        refine r_aload hO d_T_advances_89 rfl ?_
        refine r_aload hO d_T_advances_90 rfl ?_
        refine r_aload hO d_T_advances_91 rfl ?_
        refine r_getI hO f_T_15 rfl hC.2.2.2.2.2.2.2.2.2.2.2.2.1.1 d_T_advances_92 ?_
        try simp (disch := omega) only [cd_set_eq, cd_set_ne, cd_set_set]
        refine r_tops (show _ = nI s0 from h1) ?_
        refine r_cV1fi hO hE (c_T_sortAt hC (B := B) (L := L) (by rw [px_CP, cd_set_eq, cd_set_ne _ _ (by omega)]; exact ⟨h0, hB.2⟩) _ (by omega)) mf_T_sortAt lk_T_117 hC.2.2.2.2.2.2.2.2.2.2.2.2.1.1 rfl (by decide) rfl (Nat.le_of_ble_eq_true rfl) d_T_advances_95 (Nat.zero_le _) (Nat.zero_le _) ?_
        try simp (disch := omega) only [cd_set_eq, cd_set_ne, cd_set_set]
        refine r_putI hO f_T_21 rfl hC.2.2.2.2.2.2.2.2.2.2.2.2.1.1 (Nat.le_add_right _ _) d_T_advances_98 ?_
        try simp (disch := omega) only [cd_set_eq, cd_set_ne, cd_set_set]
        refine r_aload hO d_T_advances_101 rfl ?_
        refine r_aload hO d_T_advances_102 rfl ?_
        refine r_getI hO f_T_15 rfl hC.2.2.2.2.2.2.2.2.2.2.2.2.1.1 d_T_advances_103 ?_
        try simp (disch := omega) only [cd_set_eq, cd_set_ne, cd_set_set]
        refine r_tops (show _ = nI s0 from h1) ?_
        refine r_aload hO d_T_advances_106 rfl ?_
        refine r_getI hO f_T_9 rfl hC.2.2.2.2.2.2.2.2.2.2.2.2.1.1 d_T_advances_107 ?_
        try simp (disch := omega) only [cd_set_eq, cd_set_ne, cd_set_set]
        refine r_tops (show _ = nI L from h0) ?_
        refine r_icmp_ge hO d_T_advances_110 (fun c_110 => ?_) (fun c_110 => ?_)
        · exact absurd c_110 (nI_ge (by omega) (by omega))
        · refine r_aload hO d_T_advances_113 rfl ?_
          refine r_getI hO f_T_15 rfl hC.2.2.2.2.2.2.2.2.2.2.2.2.1.1 d_T_advances_114 ?_
          try simp (disch := omega) only [cd_set_eq, cd_set_ne, cd_set_set]
          refine r_tops (show _ = nI s0 from h1) ?_
          refine r_k hO d_T_advances_117 ?_
          refine r_iaddN hO d_T_advances_118 ?_
          refine r_goto hO d_T_advances_119 ?_
          refine r_putI hO f_T_18 rfl hC.2.2.2.2.2.2.2.2.2.2.2.2.1.1 (Nat.le_add_right _ _) d_T_advances_126 ?_
          try simp (disch := omega) only [cd_set_eq, cd_set_ne, cd_set_set]
          refine r_aload hO d_T_advances_129 rfl ?_
          refine r_getI hO f_T_21 rfl hC.2.2.2.2.2.2.2.2.2.2.2.2.1.1 d_T_advances_130 ?_
          try simp (disch := omega) only [cd_set_eq, cd_set_ne, cd_set_set]
          refine r_tops (show _ = nI (px_so B L s0) from rfl) ?_
          refine r_if_eq hO d_T_advances_133 (fun c_133 => ?_) (fun c_133 => ?_)
          · exact absurd c_133 (by rw [eso]; decide)
          · refine r_aload hO d_T_advances_136 rfl ?_
            refine r_getI hO f_T_21 rfl hC.2.2.2.2.2.2.2.2.2.2.2.2.1.1 d_T_advances_137 ?_
            try simp (disch := omega) only [cd_set_eq, cd_set_ne, cd_set_set]
            refine r_tops (show _ = nI (px_so B L s0) from rfl) ?_
            refine r_k hO d_T_advances_140 ?_
            refine r_icmp_ne hO d_T_advances_141 (fun c_141 => ?_) (fun c_141 => ?_)
            · exact loop1 (L - s0 - 1) (s0 + 1) _ hsL hl (by omega) (by unfold px_lr; rw [show L - s0 = L - s0 - 1 + 1 by omega, px_rn_y (by simpa using hl)]; rfl) (fun k k1 k2 k3 => by simp only [upd, k1, k2, k3, if_false]; exact hA k k1) h1 rfl (show nI (px_so B L s0) = nI 1 by rw [eso])
            · exact absurd c_141 (by rw [eso]; decide)
      · by_cases hl2 : px_fig B L s0
        · have hl := hl2
          have eso : px_so B L s0 = 2 := (px_so_2 hsL).mpr hl
          refine r_aload hO d_T_advances_89 rfl ?_
          refine r_aload hO d_T_advances_90 rfl ?_
          refine r_aload hO d_T_advances_91 rfl ?_
          refine r_getI hO f_T_15 rfl hC.2.2.2.2.2.2.2.2.2.2.2.2.1.1 d_T_advances_92 ?_
          try simp (disch := omega) only [cd_set_eq, cd_set_ne, cd_set_set]
          refine r_tops (show _ = nI s0 from h1) ?_
          refine r_cV1fi hO hE (c_T_sortAt hC (B := B) (L := L) (by rw [px_CP, cd_set_eq, cd_set_ne _ _ (by omega)]; exact ⟨h0, hB.2⟩) _ (by omega)) mf_T_sortAt lk_T_117 hC.2.2.2.2.2.2.2.2.2.2.2.2.1.1 rfl (by decide) rfl (Nat.le_of_ble_eq_true rfl) d_T_advances_95 (Nat.zero_le _) (Nat.zero_le _) ?_
          try simp (disch := omega) only [cd_set_eq, cd_set_ne, cd_set_set]
          refine r_putI hO f_T_21 rfl hC.2.2.2.2.2.2.2.2.2.2.2.2.1.1 (Nat.le_add_right _ _) d_T_advances_98 ?_
          try simp (disch := omega) only [cd_set_eq, cd_set_ne, cd_set_set]
          refine r_aload hO d_T_advances_101 rfl ?_
          refine r_aload hO d_T_advances_102 rfl ?_
          refine r_getI hO f_T_15 rfl hC.2.2.2.2.2.2.2.2.2.2.2.2.1.1 d_T_advances_103 ?_
          try simp (disch := omega) only [cd_set_eq, cd_set_ne, cd_set_set]
          refine r_tops (show _ = nI s0 from h1) ?_
          refine r_aload hO d_T_advances_106 rfl ?_
          refine r_getI hO f_T_9 rfl hC.2.2.2.2.2.2.2.2.2.2.2.2.1.1 d_T_advances_107 ?_
          try simp (disch := omega) only [cd_set_eq, cd_set_ne, cd_set_set]
          refine r_tops (show _ = nI L from h0) ?_
          refine r_icmp_ge hO d_T_advances_110 (fun c_110 => ?_) (fun c_110 => ?_)
          · exact absurd c_110 (nI_ge (by omega) (by omega))
          · refine r_aload hO d_T_advances_113 rfl ?_
            refine r_getI hO f_T_15 rfl hC.2.2.2.2.2.2.2.2.2.2.2.2.1.1 d_T_advances_114 ?_
            try simp (disch := omega) only [cd_set_eq, cd_set_ne, cd_set_set]
            refine r_tops (show _ = nI s0 from h1) ?_
            refine r_k hO d_T_advances_117 ?_
            refine r_iaddN hO d_T_advances_118 ?_
            refine r_goto hO d_T_advances_119 ?_
            refine r_putI hO f_T_18 rfl hC.2.2.2.2.2.2.2.2.2.2.2.2.1.1 (Nat.le_add_right _ _) d_T_advances_126 ?_
            try simp (disch := omega) only [cd_set_eq, cd_set_ne, cd_set_set]
            refine r_aload hO d_T_advances_129 rfl ?_
            refine r_getI hO f_T_21 rfl hC.2.2.2.2.2.2.2.2.2.2.2.2.1.1 d_T_advances_130 ?_
            try simp (disch := omega) only [cd_set_eq, cd_set_ne, cd_set_set]
            refine r_tops (show _ = nI (px_so B L s0) from rfl) ?_
            refine r_if_eq hO d_T_advances_133 (fun c_133 => ?_) (fun c_133 => ?_)
            · exact absurd c_133 (by rw [eso]; decide)
            · refine r_aload hO d_T_advances_136 rfl ?_
              refine r_getI hO f_T_21 rfl hC.2.2.2.2.2.2.2.2.2.2.2.2.1.1 d_T_advances_137 ?_
              try simp (disch := omega) only [cd_set_eq, cd_set_ne, cd_set_set]
              refine r_tops (show _ = nI (px_so B L s0) from rfl) ?_
              refine r_k hO d_T_advances_140 ?_
              refine r_icmp_ne hO d_T_advances_141 (fun c_141 => ?_) (fun c_141 => ?_)
              · exact loop2 (L - s0 - 1) (s0 + 1) _ hsL hl (by omega) (by unfold px_fr; rw [show L - s0 = L - s0 - 1 + 1 by omega, px_rn_y (by simpa using hl)]; rfl) (fun k k1 k2 k3 => by simp only [upd, k1, k2, k3, if_false]; exact hA k k1) h1 rfl (show nI (px_so B L s0) = nI 2 by rw [eso])
              · exact absurd c_141 (by rw [eso]; decide)
        · have eso : px_so B L s0 = 3 := by
            unfold px_so
            rw [if_neg (by omega), if_neg hl, if_neg hl2]
          have e : px_tk B L (s = 1 ∨ s = 2) p = (s0, 3, s0 + 1) := by
            unfold px_tk
            rw [← hs0, if_neg hz, if_neg hl, if_neg hl2]
          refine r_aload hO d_T_advances_89 rfl ?_
          refine r_aload hO d_T_advances_90 rfl ?_
          refine r_aload hO d_T_advances_91 rfl ?_
          refine r_getI hO f_T_15 rfl hC.2.2.2.2.2.2.2.2.2.2.2.2.1.1 d_T_advances_92 ?_
          try simp (disch := omega) only [cd_set_eq, cd_set_ne, cd_set_set]
          refine r_tops (show _ = nI s0 from h1) ?_
          refine r_cV1fi hO hE (c_T_sortAt hC (B := B) (L := L) (by rw [px_CP, cd_set_eq, cd_set_ne _ _ (by omega)]; exact ⟨h0, hB.2⟩) _ (by omega)) mf_T_sortAt lk_T_117 hC.2.2.2.2.2.2.2.2.2.2.2.2.1.1 rfl (by decide) rfl (Nat.le_of_ble_eq_true rfl) d_T_advances_95 (Nat.zero_le _) (Nat.zero_le _) ?_
          try simp (disch := omega) only [cd_set_eq, cd_set_ne, cd_set_set]
          refine r_putI hO f_T_21 rfl hC.2.2.2.2.2.2.2.2.2.2.2.2.1.1 (Nat.le_add_right _ _) d_T_advances_98 ?_
          try simp (disch := omega) only [cd_set_eq, cd_set_ne, cd_set_set]
          refine r_aload hO d_T_advances_101 rfl ?_
          refine r_aload hO d_T_advances_102 rfl ?_
          refine r_getI hO f_T_15 rfl hC.2.2.2.2.2.2.2.2.2.2.2.2.1.1 d_T_advances_103 ?_
          try simp (disch := omega) only [cd_set_eq, cd_set_ne, cd_set_set]
          refine r_tops (show _ = nI s0 from h1) ?_
          refine r_aload hO d_T_advances_106 rfl ?_
          refine r_getI hO f_T_9 rfl hC.2.2.2.2.2.2.2.2.2.2.2.2.1.1 d_T_advances_107 ?_
          try simp (disch := omega) only [cd_set_eq, cd_set_ne, cd_set_set]
          refine r_tops (show _ = nI L from h0) ?_
          refine r_icmp_ge hO d_T_advances_110 (fun c_110 => ?_) (fun c_110 => ?_)
          · exact absurd c_110 (nI_ge (by omega) (by omega))
          · refine r_aload hO d_T_advances_113 rfl ?_
            refine r_getI hO f_T_15 rfl hC.2.2.2.2.2.2.2.2.2.2.2.2.1.1 d_T_advances_114 ?_
            try simp (disch := omega) only [cd_set_eq, cd_set_ne, cd_set_set]
            refine r_tops (show _ = nI s0 from h1) ?_
            refine r_k hO d_T_advances_117 ?_
            refine r_iaddN hO d_T_advances_118 ?_
            refine r_goto hO d_T_advances_119 ?_
            refine r_putI hO f_T_18 rfl hC.2.2.2.2.2.2.2.2.2.2.2.2.1.1 (Nat.le_add_right _ _) d_T_advances_126 ?_
            try simp (disch := omega) only [cd_set_eq, cd_set_ne, cd_set_set]
            refine r_aload hO d_T_advances_129 rfl ?_
            refine r_getI hO f_T_21 rfl hC.2.2.2.2.2.2.2.2.2.2.2.2.1.1 d_T_advances_130 ?_
            try simp (disch := omega) only [cd_set_eq, cd_set_ne, cd_set_set]
            refine r_tops (show _ = nI (px_so B L s0) from rfl) ?_
            refine r_if_eq hO d_T_advances_133 (fun c_133 => ?_) (fun c_133 => ?_)
            · exact absurd c_133 (by rw [eso]; decide)
            · refine r_aload hO d_T_advances_136 rfl ?_
              refine r_getI hO f_T_21 rfl hC.2.2.2.2.2.2.2.2.2.2.2.2.1.1 d_T_advances_137 ?_
              try simp (disch := omega) only [cd_set_eq, cd_set_ne, cd_set_set]
              refine r_tops (show _ = nI (px_so B L s0) from rfl) ?_
              refine r_k hO d_T_advances_140 ?_
              refine r_icmp_ne hO d_T_advances_141 (fun c_141 => ?_) (fun c_141 => ?_)
              · exact absurd (by rw [eso]) c_141
              · refine r_vret hO hE (Nat.zero_le _) (Nat.zero_le _) d_T_advances_144 ?_
                exact ⟨rfl, rfl, _, rfl, (fun k k1 k2 k3 => by simp only [upd, k1, k2, k3, if_false]; exact hA k k1), by rw [e]; exact h1, by rw [e]; rfl, by rw [e]; exact (show nI (px_so B L s0) = nI 3 by rw [eso])⟩
  have loopA : ∀ (r p' : Nat) (Q : Nat → Int32), p' + r = L → (∀ k, k ≠ 1 → Q k = I (w.1 + 55) k) → Q 1 = nI p' → px_rn (fun j => decide (B j = 32)) r p' = s0 → cd_J w X 0 0 S (cd_set I (w.1 + 55) Q) 30 [some (.ref (w.1 + 55)), some (.int (cd_bI (s = 1 ∨ s = 2))), none] [] := by
    have mid : ∀ Q : Nat → Int32, (∀ k, k ≠ 1 → Q k = I (w.1 + 55) k) → Q 1 = nI s0 → cd_J w X 0 0 S (cd_set I (w.1 + 55) Q) 68 [some (.ref (w.1 + 55)), some (.int (cd_bI (s = 1 ∨ s = 2))), none] [] := by
      intro Q hA h1
      have h2 : Q 2 = nI p := (hA 2 (by decide)).trans he
      refine r_iload hO d_T_advances_68 rfl ?_
      refine r_jn1 (pcJ := 88) (fun v => v = cd_bI ((s = 1 ∨ s = 2) ∧ s0 = p)) (fun v_69 hv_69 => ?_) (fun hj_69 => ?_)
      · subst hv_69
        refine r_sI2 hO d_T_advances_88 rfl ?_
        exact main Q hA h1
      · refine r_if_eqB hO d_T_advances_69 (fun c_69 => ?_) (fun c_69 => ?_)
        · refine r_k hO d_T_advances_87 ?_
          exact hj_69 _ (by rw [cd_bI, if_neg (fun q => c_69 q.1)]; rfl)
        · refine r_aload hO d_T_advances_72 rfl ?_
          refine r_getI hO f_T_15 rfl hC.2.2.2.2.2.2.2.2.2.2.2.2.1.1 d_T_advances_73 ?_
          try simp (disch := omega) only [cd_set_eq, cd_set_ne, cd_set_set]
          refine r_tops (show _ = nI s0 from h1) ?_
          refine r_aload hO d_T_advances_76 rfl ?_
          refine r_getI hO f_T_18 rfl hC.2.2.2.2.2.2.2.2.2.2.2.2.1.1 d_T_advances_77 ?_
          try simp (disch := omega) only [cd_set_eq, cd_set_ne, cd_set_set]
          refine r_tops (show _ = nI p from h2) ?_
          refine r_icmp_ne hO d_T_advances_80 (fun c_80 => ?_) (fun c_80 => ?_)
          · rw [nI_eq (by omega) (by omega)] at c_80
            refine r_k hO d_T_advances_87 ?_
            exact hj_69 _ (by rw [cd_bI, if_neg (fun q => c_80 q.2)]; rfl)
          · rw [nI_eq (by omega) (by omega)] at c_80
            refine r_k hO d_T_advances_83 ?_
            refine r_goto hO d_T_advances_84 ?_
            exact hj_69 _ (by rw [cd_bI, if_pos ⟨c_69, c_80⟩]; rfl)
    intro r
    induction r with
    | zero =>
      intro p' Q hp' hA h1 hr
      have h0 : Q 0 = nI L := (hA 0 (by decide)).trans hB.1
      refine r_aload hO d_T_advances_30 rfl ?_
      refine r_getI hO f_T_15 rfl hC.2.2.2.2.2.2.2.2.2.2.2.2.1.1 d_T_advances_31 ?_
      try simp (disch := omega) only [cd_set_eq, cd_set_ne, cd_set_set]
      refine r_tops (show _ = nI p' from h1) ?_
      refine r_aload hO d_T_advances_34 rfl ?_
      refine r_getI hO f_T_9 rfl hC.2.2.2.2.2.2.2.2.2.2.2.2.1.1 d_T_advances_35 ?_
      try simp (disch := omega) only [cd_set_eq, cd_set_ne, cd_set_set]
      refine r_tops (show _ = nI L from h0) ?_
      refine r_icmp_ge hO d_T_advances_38 (fun c_38 => ?_) (fun c_38 => ?_)
      · exact mid Q hA (h1.trans (by rw [← hr]; rfl))
      · exact absurd (nI_le (by omega) (by omega)) c_38
    | succ r ih =>
      intro p' Q hp' hA h1 hr
      have h0 : Q 0 = nI L := (hA 0 (by decide)).trans hB.1
      obtain ⟨hb, hby⟩ := hB.2.2 p' (by omega)
      refine r_aload hO d_T_advances_30 rfl ?_
      refine r_getI hO f_T_15 rfl hC.2.2.2.2.2.2.2.2.2.2.2.2.1.1 d_T_advances_31 ?_
      try simp (disch := omega) only [cd_set_eq, cd_set_ne, cd_set_set]
      refine r_tops (show _ = nI p' from h1) ?_
      refine r_aload hO d_T_advances_34 rfl ?_
      refine r_getI hO f_T_9 rfl hC.2.2.2.2.2.2.2.2.2.2.2.2.1.1 d_T_advances_35 ?_
      try simp (disch := omega) only [cd_set_eq, cd_set_ne, cd_set_set]
      refine r_tops (show _ = nI L from h0) ?_
      refine r_icmp_ge hO d_T_advances_38 (fun c_38 => ?_) (fun c_38 => ?_)
      · exact absurd c_38 (nI_ge (by omega) (by omega))
      · refine r_aload hO d_T_advances_41 rfl ?_
        refine r_getR hO f_T_33 rfl hC.2.2.2.2.2.2.2.2.2.2.2.2.1.1 hC.2.2.2.2.2.2.2.2.2.2.2.2.1.2.1 d_T_advances_42 ?_
        try simp (disch := omega) only [cd_set_eq, cd_set_ne, cd_set_set]
        refine r_aload hO d_T_advances_45 rfl ?_
        refine r_getI hO f_T_15 rfl hC.2.2.2.2.2.2.2.2.2.2.2.2.1.1 d_T_advances_46 ?_
        try simp (disch := omega) only [cd_set_eq, cd_set_ne, cd_set_set]
        refine r_tops (show _ = nI p' from h1) ?_
        refine r_bald hO hC.2.2.2.2.2.2.2.2.2.2.2.2.1.2.2.2.1 (by omega) (by decide) d_T_advances_49 ?_
        try simp (disch := omega) only [cd_set_eq, cd_set_ne, cd_set_set]
        rw [hby]
        refine r_k hO d_T_advances_50 ?_
        refine r_icmp_ne hO d_T_advances_52 (fun c_52 => ?_) (fun c_52 => ?_)
        · rw [px_sx_eq hb (by decide)] at c_52
          exact mid Q hA (h1.trans (by rw [← hr, px_rn_n (by simpa using c_52)]))
        · rw [px_sx_eq hb (by decide)] at c_52
          refine r_aload hO d_T_advances_55 rfl ?_
          refine r_dup hO d_T_advances_56 rfl ?_
          refine r_getI hO f_T_15 rfl hC.2.2.2.2.2.2.2.2.2.2.2.2.1.1 d_T_advances_57 ?_
          try simp (disch := omega) only [cd_set_eq, cd_set_ne, cd_set_set]
          refine r_tops (show _ = nI p' from h1) ?_
          refine r_k hO d_T_advances_60 ?_
          refine r_iaddN hO d_T_advances_61 ?_
          refine r_putI hO f_T_15 rfl hC.2.2.2.2.2.2.2.2.2.2.2.2.1.1 (Nat.le_add_right _ _) d_T_advances_62 ?_
          try simp (disch := omega) only [cd_set_eq, cd_set_ne, cd_set_set]
          refine r_goto hO d_T_advances_65 ?_
          exact ih (p' + 1) _ (by omega) (fun k k1 => (px_un _ _ k1).trans (hA k k1)) (px_ue _ _ _) (by rw [← hr, px_rn_y (by simpa using c_52)])
  refine r_aload hO d_T_advances_0 rfl ?_
  refine r_getI hO f_T_21 rfl hC.2.2.2.2.2.2.2.2.2.2.2.2.1.1 d_T_advances_1 ?_
  refine r_tops (show _ = nI s from hs) ?_
  refine r_k hO d_T_advances_4 ?_
  refine r_jn2 (pcJ := 21) (fun v => v = cd_bI (s = 1 ∨ s = 2)) (fun v_5 hv_5 => ?_) (fun hj_5 => ?_)
  · subst hv_5
    refine r_sI1 hO d_T_advances_21 rfl ?_
    refine r_aload hO d_T_advances_22 rfl ?_
    refine r_aload hO d_T_advances_23 rfl ?_
    refine r_getI hO f_T_18 rfl hC.2.2.2.2.2.2.2.2.2.2.2.2.1.1 d_T_advances_24 ?_
    refine r_tops (show _ = nI p from he) ?_
    refine r_putI hO f_T_15 rfl hC.2.2.2.2.2.2.2.2.2.2.2.2.1.1 (Nat.le_add_right _ _) d_T_advances_27 ?_
    exact loopA (L - p) p _ (by omega) (fun k k1 => px_un _ _ k1) (px_ue _ _ _) hs0.symm
  · refine r_icmp_eq hO d_T_advances_5 (fun c_5 => ?_) (fun c_5 => ?_)
    · rw [nI_eq (by omega) (by omega)] at c_5
      refine r_k hO d_T_advances_16 ?_
      refine r_goto hO d_T_advances_17 ?_
      exact hj_5 _ (by rw [cd_bI, if_pos (Or.inl c_5)]; rfl)
    · rw [nI_eq (by omega) (by omega)] at c_5
      refine r_aload hO d_T_advances_8 rfl ?_
      refine r_getI hO f_T_21 rfl hC.2.2.2.2.2.2.2.2.2.2.2.2.1.1 d_T_advances_9 ?_
      refine r_tops (show _ = nI s from hs) ?_
      refine r_k hO d_T_advances_12 ?_
      refine r_icmp_ne hO d_T_advances_13 (fun c_13 => ?_) (fun c_13 => ?_)
      · rw [nI_eq (by omega) (by omega)] at c_13
        refine r_k hO d_T_advances_20 ?_
        exact hj_5 _ (by rw [cd_bI, if_neg (fun q => by rcases q with q | q; exact c_5 q; exact c_13 q)]; rfl)
      · rw [nI_eq (by omega) (by omega)] at c_13
        refine r_k hO d_T_advances_16 ?_
        refine r_goto hO d_T_advances_17 ?_
        exact hj_5 _ (by rw [cd_bI, if_pos (Or.inr c_13)]; rfl)
