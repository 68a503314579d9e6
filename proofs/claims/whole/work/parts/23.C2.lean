def cd_lf (c f s t : Int32) : Int32 := if c = nI 10000 then f else if c = nI 10001 then s else if c = nI 10002 then t else c
def cd_jo (s a b : Int32) : Int32 := if s = nI 38 then cd_bI (a ≠ 0 ∧ b ≠ 0) else if s = nI 42 then a * b else if s = nI 43 then a + b else if s = nI 45 then a - b else if s = nI 60 then cd_bI (a < b) else if s = nI 61 then cd_bI (a = b) else if s = nI 62 then cd_bI (b < a) else if s = nI 124 then cd_bI (a ≠ 0 ∨ b ≠ 0) else if b = 0 then 0 else a / b
/-- the component's code of a sign of the reference -/
def cd_tr (c : Int32) : Int32 := if c = (-1) then (-124) else if c = (-2) then (-38) else if c = (-3) then (-60) else if c = (-4) then (-61) else if c = (-5) then (-62) else if c = (-6) then (-43) else if c = (-7) then (-45) else if c = (-8) then (-42) else if c = (-9) then (-47) else if c = (-10) then (-33) else c
theorem cd_tr_p {c : Int32} (h : ¬ c < 0) : cd_tr c = c := by
  have hne : ∀ z : Int32, z < 0 → ¬ c = z := fun z hz q => h (q ▸ hz)
  unfold cd_tr
  rw [if_neg (hne _ (by decide)), if_neg (hne _ (by decide)), if_neg (hne _ (by decide)), if_neg (hne _ (by decide)), if_neg (hne _ (by decide)), if_neg (hne _ (by decide)), if_neg (hne _ (by decide)), if_neg (hne _ (by decide)), if_neg (hne _ (by decide)), if_neg (hne _ (by decide))]
theorem cd_sg_c {c : Int32} (h : c < 0) (h1 : (-10) ≤ c) : c = (-1) ∨ c = (-2) ∨ c = (-3) ∨ c = (-4) ∨ c = (-5) ∨ c = (-6) ∨ c = (-7) ∨ c = (-8) ∨ c = (-9) ∨ c = (-10) := by
  rw [Int32.lt_iff_toInt_lt] at h
  rw [Int32.le_iff_toInt_le] at h1
  have e0 : (0 : Int32).toInt = 0 := rfl
  have e10 : (-10 : Int32).toInt = -10 := rfl
  have hz : c.toInt = -1 ∨ c.toInt = -2 ∨ c.toInt = -3 ∨ c.toInt = -4 ∨ c.toInt = -5 ∨ c.toInt = -6 ∨ c.toInt = -7 ∨ c.toInt = -8 ∨ c.toInt = -9 ∨ c.toInt = -10 := by omega
  simp only [← Int32.toInt_inj]
  exact hz
theorem cd_tr_s {c : Int32} (h : c < 0) (h1 : (-10) ≤ c) (h2 : c ≠ (-10)) : cd_tr c < 0 ∧ ¬ cd_tr c = (-33) ∧ ∀ a b, cd_jo (-(cd_tr c)) a b = cd_two c a b := by
  rcases cd_sg_c h h1 with rfl | rfl | rfl | rfl | rfl | rfl | rfl | rfl | rfl | rfl
  · exact ⟨by decide, by decide, fun a b => rfl⟩
  · exact ⟨by decide, by decide, fun a b => rfl⟩
  · exact ⟨by decide, by decide, fun a b => rfl⟩
  · exact ⟨by decide, by decide, fun a b => rfl⟩
  · exact ⟨by decide, by decide, fun a b => rfl⟩
  · exact ⟨by decide, by decide, fun a b => rfl⟩
  · exact ⟨by decide, by decide, fun a b => rfl⟩
  · exact ⟨by decide, by decide, fun a b => rfl⟩
  · exact ⟨by decide, by decide, fun a b => rfl⟩
  · exact absurd rfl h2
theorem cd_lf_p {c f s t : Int32} (h : ¬ nI 10000 ≤ c) : cd_lf c f s t = c := by
  have hne : ∀ z : Int32, nI 10000 ≤ z → ¬ c = z := fun z hz q => h (q ▸ hz)
  unfold cd_lf
  rw [if_neg (hne _ (by decide)), if_neg (hne _ (by decide)), if_neg (hne _ (by decide))]
theorem cd_lf_n {j : Nat} (hj : j < 3) (f s t : Int32) : cd_lf (nI (10000 + j)) f s t = if j = 0 then f else if j = 1 then s else t := by
  rcases (show j = 0 ∨ j = 1 ∨ j = 2 by omega) with rfl | rfl | rfl <;> rfl
theorem cd_dep_v {c : Nat → Int32} {n v : Nat} (h : ∀ k, k < n → ¬ c k < 0 → cd_dep (-10) c k < v) : ∀ k, k ≤ n → cd_dep (-10) c k ≤ v
  | 0, _ => Nat.zero_le _
  | k + 1, hk => by
    have ih := cd_dep_v h k (by omega)
    unfold cd_dep
    split
    · split <;> omega
    · exact h k (by omega) ‹_›
/-- a text's cells: the row of codes, the text, its stack -/
def cd_XO (w : cd_WT) (S : cd_Sp) (x cx sx n v : Nat) : Prop := S.2.1 x = (1, 5) ∧ S.2.2 x 2 = some cx ∧ S.2.2 x 3 = some sx ∧ S.2.1 cx = (2, n) ∧ S.2.1 sx = (2, v) ∧ w.1 ≤ sx ∧ cx ≠ sx ∧ w.1 ≤ x
theorem d_X_leaf_0 : cd_D_iload b_X_leaf 0 0 1 := Or.inr ⟨0, ⟨by decide +kernel, rfl⟩, rfl⟩
theorem d_X_leaf_1 : decode b_X_leaf 1 = .ok (.tableswitch (33) (10000) (10002) #[27, 29, 31], 27) := by decide +kernel
theorem d_X_leaf_28 : cd_D_iload b_X_leaf 28 1 29 := Or.inr ⟨1, ⟨by decide +kernel, rfl⟩, rfl⟩
theorem d_X_leaf_29 : cd_D 1 b_X_leaf 29 .ireturn 30 := ⟨by decide +kernel, rfl⟩
theorem d_X_leaf_30 : cd_D_iload b_X_leaf 30 2 31 := Or.inr ⟨2, ⟨by decide +kernel, rfl⟩, rfl⟩
theorem d_X_leaf_31 : cd_D 1 b_X_leaf 31 .ireturn 32 := ⟨by decide +kernel, rfl⟩
theorem d_X_leaf_32 : cd_D_iload b_X_leaf 32 3 33 := Or.inr ⟨3, ⟨by decide +kernel, rfl⟩, rfl⟩
theorem d_X_leaf_33 : cd_D 1 b_X_leaf 33 .ireturn 34 := ⟨by decide +kernel, rfl⟩
theorem d_X_leaf_34 : cd_D_iload b_X_leaf 34 0 35 := Or.inr ⟨0, ⟨by decide +kernel, rfl⟩, rfl⟩
theorem d_X_leaf_35 : cd_D 1 b_X_leaf 35 .ireturn 36 := ⟨by decide +kernel, rfl⟩
theorem c_X_leaf {l : Launch} {w : cd_WT} {S : cd_Sp} {I : cd_Mem} (c f s t : Int32) : cd_C l w m_X_leaf 0 0 0 [.int c, .int f, .int s, .int t] S I (cd_Fi S (cd_lf c f s t) I) := by
  refine cd_intro (by decide) (by simp [Value.category]) (Nat.le_of_ble_eq_true rfl) ?_
  intro X hO hE
  show cd_J w X 0 0 S I 0 [some (.int c), some (.int f), some (.int s), some (.int t)] []
  refine r_iload hO d_X_leaf_0 rfl ?_
  by_cases c_1_10000 : c = nI 10000
  · refine r_tabE hO d_X_leaf_1 c_1_10000 (off := 27) (by decide) (by decide) (by decide) (tgt := 28) (by decide) ?_
    refine r_iload hO d_X_leaf_28 rfl ?_
    refine r_iret hO hE (Nat.zero_le _) (Nat.zero_le _) d_X_leaf_29 ?_
    exact ⟨by unfold cd_lf; (repeat' split) <;> first | rfl | contradiction | (exfalso; simp only [Int32.lt_iff_toInt_lt, Int32.le_iff_toInt_le] at *; omega), rfl, rfl⟩
  by_cases c_1_10001 : c = nI 10001
  · refine r_tabE hO d_X_leaf_1 c_1_10001 (off := 29) (by decide) (by decide) (by decide) (tgt := 30) (by decide) ?_
    refine r_iload hO d_X_leaf_30 rfl ?_
    refine r_iret hO hE (Nat.zero_le _) (Nat.zero_le _) d_X_leaf_31 ?_
    exact ⟨by unfold cd_lf; (repeat' split) <;> first | rfl | contradiction | (exfalso; simp only [Int32.lt_iff_toInt_lt, Int32.le_iff_toInt_le] at *; omega), rfl, rfl⟩
  by_cases c_1_10002 : c = nI 10002
  · refine r_tabE hO d_X_leaf_1 c_1_10002 (off := 31) (by decide) (by decide) (by decide) (tgt := 32) (by decide) ?_
    refine r_iload hO d_X_leaf_32 rfl ?_
    refine r_iret hO hE (Nat.zero_le _) (Nat.zero_le _) d_X_leaf_33 ?_
    exact ⟨by unfold cd_lf; (repeat' split) <;> first | rfl | contradiction | (exfalso; simp only [Int32.lt_iff_toInt_lt, Int32.le_iff_toInt_le] at *; omega), rfl, rfl⟩
  refine r_tabN hO d_X_leaf_1 (by decide) (fun j hj => ?_) (tgt := 34) (by decide) ?_
  · have hj2 : j < 3 := hj
    rcases (show j = 0 ∨ j = 1 ∨ j = 2 by omega) with rfl | rfl | rfl
    · exact Or.inl (fun e => c_1_10000 (e.trans (by decide)))
    · exact Or.inl (fun e => c_1_10001 (e.trans (by decide)))
    · exact Or.inl (fun e => c_1_10002 (e.trans (by decide)))
  refine r_iload hO d_X_leaf_34 rfl ?_
  refine r_iret hO hE (Nat.zero_le _) (Nat.zero_le _) d_X_leaf_35 ?_
  exact ⟨by unfold cd_lf; (repeat' split) <;> first | rfl | contradiction | (exfalso; simp only [Int32.lt_iff_toInt_lt, Int32.le_iff_toInt_le] at *; omega), rfl, rfl⟩
theorem d_X_joined_0 : cd_D_iload b_X_joined 0 0 1 := Or.inr ⟨0, ⟨by decide +kernel, rfl⟩, rfl⟩
theorem d_X_joined_1 : decode b_X_joined 1 = .ok (.lookupswitch (148) #[(38, 89), (42, 144), (43, 136), (45, 140), (60, 103), (61, 114), (62, 125), (124, 75)], 75) := by decide +kernel
theorem d_X_joined_76 : cd_D_iload b_X_joined 76 1 77 := Or.inr ⟨1, ⟨by decide +kernel, rfl⟩, rfl⟩
theorem d_X_joined_77 : cd_D_if_ne b_X_joined 77 84 80 := ⟨7, by decide +kernel, by decide, rfl⟩
theorem d_X_joined_80 : cd_D_iload b_X_joined 80 2 81 := Or.inr ⟨2, ⟨by decide +kernel, rfl⟩, rfl⟩
theorem d_X_joined_81 : cd_D_if_eq b_X_joined 81 88 84 := ⟨7, by decide +kernel, by decide, rfl⟩
theorem d_X_joined_84 : cd_Dk b_X_joined 84 (nI 1) 85 := Or.inl ⟨1, ⟨by decide +kernel, rfl⟩, by decide +kernel⟩
theorem d_X_joined_85 : cd_D_goto b_X_joined 85 89 := ⟨4, by decide +kernel, by decide⟩
theorem d_X_joined_88 : cd_Dk b_X_joined 88 (nI 0) 89 := Or.inl ⟨0, ⟨by decide +kernel, rfl⟩, by decide +kernel⟩
theorem d_X_joined_89 : cd_D 1 b_X_joined 89 .ireturn 90 := ⟨by decide +kernel, rfl⟩
theorem d_X_joined_90 : cd_D_iload b_X_joined 90 1 91 := Or.inr ⟨1, ⟨by decide +kernel, rfl⟩, rfl⟩
theorem d_X_joined_91 : cd_D_if_eq b_X_joined 91 102 94 := ⟨11, by decide +kernel, by decide, rfl⟩
theorem d_X_joined_94 : cd_D_iload b_X_joined 94 2 95 := Or.inr ⟨2, ⟨by decide +kernel, rfl⟩, rfl⟩
theorem d_X_joined_95 : cd_D_if_eq b_X_joined 95 102 98 := ⟨7, by decide +kernel, by decide, rfl⟩
theorem d_X_joined_98 : cd_Dk b_X_joined 98 (nI 1) 99 := Or.inl ⟨1, ⟨by decide +kernel, rfl⟩, by decide +kernel⟩
theorem d_X_joined_99 : cd_D_goto b_X_joined 99 103 := ⟨4, by decide +kernel, by decide⟩
theorem d_X_joined_102 : cd_Dk b_X_joined 102 (nI 0) 103 := Or.inl ⟨0, ⟨by decide +kernel, rfl⟩, by decide +kernel⟩
theorem d_X_joined_103 : cd_D 1 b_X_joined 103 .ireturn 104 := ⟨by decide +kernel, rfl⟩
theorem d_X_joined_104 : cd_D_iload b_X_joined 104 1 105 := Or.inr ⟨1, ⟨by decide +kernel, rfl⟩, rfl⟩
theorem d_X_joined_105 : cd_D_iload b_X_joined 105 2 106 := Or.inr ⟨2, ⟨by decide +kernel, rfl⟩, rfl⟩
theorem d_X_joined_106 : cd_D_icmp_ge b_X_joined 106 113 109 := ⟨7, by decide +kernel, by decide, rfl⟩
theorem d_X_joined_109 : cd_Dk b_X_joined 109 (nI 1) 110 := Or.inl ⟨1, ⟨by decide +kernel, rfl⟩, by decide +kernel⟩
theorem d_X_joined_110 : cd_D_goto b_X_joined 110 114 := ⟨4, by decide +kernel, by decide⟩
theorem d_X_joined_113 : cd_Dk b_X_joined 113 (nI 0) 114 := Or.inl ⟨0, ⟨by decide +kernel, rfl⟩, by decide +kernel⟩
theorem d_X_joined_114 : cd_D 1 b_X_joined 114 .ireturn 115 := ⟨by decide +kernel, rfl⟩
theorem d_X_joined_115 : cd_D_iload b_X_joined 115 1 116 := Or.inr ⟨1, ⟨by decide +kernel, rfl⟩, rfl⟩
theorem d_X_joined_116 : cd_D_iload b_X_joined 116 2 117 := Or.inr ⟨2, ⟨by decide +kernel, rfl⟩, rfl⟩
theorem d_X_joined_117 : cd_D_icmp_ne b_X_joined 117 124 120 := ⟨7, by decide +kernel, by decide, rfl⟩
theorem d_X_joined_120 : cd_Dk b_X_joined 120 (nI 1) 121 := Or.inl ⟨1, ⟨by decide +kernel, rfl⟩, by decide +kernel⟩
theorem d_X_joined_121 : cd_D_goto b_X_joined 121 125 := ⟨4, by decide +kernel, by decide⟩
theorem d_X_joined_124 : cd_Dk b_X_joined 124 (nI 0) 125 := Or.inl ⟨0, ⟨by decide +kernel, rfl⟩, by decide +kernel⟩
theorem d_X_joined_125 : cd_D 1 b_X_joined 125 .ireturn 126 := ⟨by decide +kernel, rfl⟩
theorem d_X_joined_126 : cd_D_iload b_X_joined 126 1 127 := Or.inr ⟨1, ⟨by decide +kernel, rfl⟩, rfl⟩
theorem d_X_joined_127 : cd_D_iload b_X_joined 127 2 128 := Or.inr ⟨2, ⟨by decide +kernel, rfl⟩, rfl⟩
theorem d_X_joined_128 : cd_D_icmp_le b_X_joined 128 135 131 := ⟨7, by decide +kernel, by decide, rfl⟩
theorem d_X_joined_131 : cd_Dk b_X_joined 131 (nI 1) 132 := Or.inl ⟨1, ⟨by decide +kernel, rfl⟩, by decide +kernel⟩
theorem d_X_joined_132 : cd_D_goto b_X_joined 132 136 := ⟨4, by decide +kernel, by decide⟩
theorem d_X_joined_135 : cd_Dk b_X_joined 135 (nI 0) 136 := Or.inl ⟨0, ⟨by decide +kernel, rfl⟩, by decide +kernel⟩
theorem d_X_joined_136 : cd_D 1 b_X_joined 136 .ireturn 137 := ⟨by decide +kernel, rfl⟩
theorem d_X_joined_137 : cd_D_iload b_X_joined 137 1 138 := Or.inr ⟨1, ⟨by decide +kernel, rfl⟩, rfl⟩
theorem d_X_joined_138 : cd_D_iload b_X_joined 138 2 139 := Or.inr ⟨2, ⟨by decide +kernel, rfl⟩, rfl⟩
theorem d_X_joined_139 : cd_D 1 b_X_joined 139 .iadd 140 := ⟨by decide +kernel, rfl⟩
theorem d_X_joined_140 : cd_D 1 b_X_joined 140 .ireturn 141 := ⟨by decide +kernel, rfl⟩
theorem d_X_joined_141 : cd_D_iload b_X_joined 141 1 142 := Or.inr ⟨1, ⟨by decide +kernel, rfl⟩, rfl⟩
theorem d_X_joined_142 : cd_D_iload b_X_joined 142 2 143 := Or.inr ⟨2, ⟨by decide +kernel, rfl⟩, rfl⟩
theorem d_X_joined_143 : cd_D 1 b_X_joined 143 .isub 144 := ⟨by decide +kernel, rfl⟩
theorem d_X_joined_144 : cd_D 1 b_X_joined 144 .ireturn 145 := ⟨by decide +kernel, rfl⟩
theorem d_X_joined_145 : cd_D_iload b_X_joined 145 1 146 := Or.inr ⟨1, ⟨by decide +kernel, rfl⟩, rfl⟩
theorem d_X_joined_146 : cd_D_iload b_X_joined 146 2 147 := Or.inr ⟨2, ⟨by decide +kernel, rfl⟩, rfl⟩
theorem d_X_joined_147 : cd_D 1 b_X_joined 147 .imul 148 := ⟨by decide +kernel, rfl⟩
theorem d_X_joined_148 : cd_D 1 b_X_joined 148 .ireturn 149 := ⟨by decide +kernel, rfl⟩
theorem d_X_joined_149 : cd_D_iload b_X_joined 149 2 150 := Or.inr ⟨2, ⟨by decide +kernel, rfl⟩, rfl⟩
theorem d_X_joined_150 : cd_D_if_ne b_X_joined 150 157 153 := ⟨7, by decide +kernel, by decide, rfl⟩
theorem d_X_joined_153 : cd_Dk b_X_joined 153 (nI 0) 154 := Or.inl ⟨0, ⟨by decide +kernel, rfl⟩, by decide +kernel⟩
theorem d_X_joined_154 : cd_D_goto b_X_joined 154 160 := ⟨6, by decide +kernel, by decide⟩
theorem d_X_joined_157 : cd_D_iload b_X_joined 157 1 158 := Or.inr ⟨1, ⟨by decide +kernel, rfl⟩, rfl⟩
theorem d_X_joined_158 : cd_D_iload b_X_joined 158 2 159 := Or.inr ⟨2, ⟨by decide +kernel, rfl⟩, rfl⟩
theorem d_X_joined_159 : cd_D 1 b_X_joined 159 .idiv 160 := ⟨by decide +kernel, rfl⟩
theorem d_X_joined_160 : cd_D 1 b_X_joined 160 .ireturn 161 := ⟨by decide +kernel, rfl⟩
theorem c_X_joined {l : Launch} {w : cd_WT} {S : cd_Sp} {I : cd_Mem} (s a b : Int32) : cd_C l w m_X_joined 0 0 0 [.int s, .int a, .int b] S I (cd_Fi S (cd_jo s a b) I) := by
  refine cd_intro (by decide) (by simp [Value.category]) (Nat.le_of_ble_eq_true rfl) ?_
  intro X hO hE
  show cd_J w X 0 0 S I 0 [some (.int s), some (.int a), some (.int b)] []
  refine r_iload hO d_X_joined_0 rfl ?_
  by_cases c_1_38 : s = nI 38
  · refine r_lookE hO d_X_joined_1 (by decide) c_1_38 (off := 89) (by decide) (tgt := 90) (by decide) ?_
    refine r_iload hO d_X_joined_90 rfl ?_
    refine r_if_eq hO d_X_joined_91 (fun c_91 => ?_) (fun c_91 => ?_)
    · refine r_k hO d_X_joined_102 ?_
      refine r_iret hO hE (Nat.zero_le _) (Nat.zero_le _) d_X_joined_103 ?_
      exact ⟨by unfold cd_jo; rw [if_pos c_1_38]; (try unfold cd_bI); (repeat' split) <;> first | rfl | contradiction | (exfalso; simp_all; done) | (exfalso; simp only [Int32.lt_iff_toInt_lt, Int32.le_iff_toInt_le] at *; omega), rfl, rfl⟩
    · refine r_iload hO d_X_joined_94 rfl ?_
      refine r_if_eq hO d_X_joined_95 (fun c_95 => ?_) (fun c_95 => ?_)
      · refine r_k hO d_X_joined_102 ?_
        refine r_iret hO hE (Nat.zero_le _) (Nat.zero_le _) d_X_joined_103 ?_
        exact ⟨by unfold cd_jo; rw [if_pos c_1_38]; (try unfold cd_bI); (repeat' split) <;> first | rfl | contradiction | (exfalso; simp_all; done) | (exfalso; simp only [Int32.lt_iff_toInt_lt, Int32.le_iff_toInt_le] at *; omega), rfl, rfl⟩
      · refine r_k hO d_X_joined_98 ?_
        refine r_goto hO d_X_joined_99 ?_
        refine r_iret hO hE (Nat.zero_le _) (Nat.zero_le _) d_X_joined_103 ?_
        exact ⟨by unfold cd_jo; rw [if_pos c_1_38]; (try unfold cd_bI); (repeat' split) <;> first | rfl | contradiction | (exfalso; simp_all; done) | (exfalso; simp only [Int32.lt_iff_toInt_lt, Int32.le_iff_toInt_le] at *; omega), rfl, rfl⟩
  by_cases c_1_42 : s = nI 42
  · refine r_lookE hO d_X_joined_1 (by decide) c_1_42 (off := 144) (by decide) (tgt := 145) (by decide) ?_
    refine r_iload hO d_X_joined_145 rfl ?_
    refine r_iload hO d_X_joined_146 rfl ?_
    refine r_imul hO d_X_joined_147 ?_
    refine r_iret hO hE (Nat.zero_le _) (Nat.zero_le _) d_X_joined_148 ?_
    exact ⟨by unfold cd_jo; rw [if_neg c_1_38, if_pos c_1_42], rfl, rfl⟩
  by_cases c_1_43 : s = nI 43
  · refine r_lookE hO d_X_joined_1 (by decide) c_1_43 (off := 136) (by decide) (tgt := 137) (by decide) ?_
    refine r_iload hO d_X_joined_137 rfl ?_
    refine r_iload hO d_X_joined_138 rfl ?_
    refine r_iadd hO d_X_joined_139 ?_
    refine r_iret hO hE (Nat.zero_le _) (Nat.zero_le _) d_X_joined_140 ?_
    exact ⟨by unfold cd_jo; rw [if_neg c_1_38, if_neg c_1_42, if_pos c_1_43], rfl, rfl⟩
  by_cases c_1_45 : s = nI 45
  · refine r_lookE hO d_X_joined_1 (by decide) c_1_45 (off := 140) (by decide) (tgt := 141) (by decide) ?_
    refine r_iload hO d_X_joined_141 rfl ?_
    refine r_iload hO d_X_joined_142 rfl ?_
    refine r_isub hO d_X_joined_143 ?_
    refine r_iret hO hE (Nat.zero_le _) (Nat.zero_le _) d_X_joined_144 ?_
    exact ⟨by unfold cd_jo; rw [if_neg c_1_38, if_neg c_1_42, if_neg c_1_43, if_pos c_1_45], rfl, rfl⟩
  by_cases c_1_60 : s = nI 60
  · refine r_lookE hO d_X_joined_1 (by decide) c_1_60 (off := 103) (by decide) (tgt := 104) (by decide) ?_
    refine r_iload hO d_X_joined_104 rfl ?_
    refine r_iload hO d_X_joined_105 rfl ?_
    refine r_icmp_ge hO d_X_joined_106 (fun c_106 => ?_) (fun c_106 => ?_)
    · refine r_k hO d_X_joined_113 ?_
      refine r_iret hO hE (Nat.zero_le _) (Nat.zero_le _) d_X_joined_114 ?_
      exact ⟨by unfold cd_jo; rw [if_neg c_1_38, if_neg c_1_42, if_neg c_1_43, if_neg c_1_45, if_pos c_1_60]; (try unfold cd_bI); (repeat' split) <;> first | rfl | contradiction | (exfalso; simp_all; done) | (exfalso; simp only [Int32.lt_iff_toInt_lt, Int32.le_iff_toInt_le] at *; omega), rfl, rfl⟩
    · refine r_k hO d_X_joined_109 ?_
      refine r_goto hO d_X_joined_110 ?_
      refine r_iret hO hE (Nat.zero_le _) (Nat.zero_le _) d_X_joined_114 ?_
      exact ⟨by unfold cd_jo; rw [if_neg c_1_38, if_neg c_1_42, if_neg c_1_43, if_neg c_1_45, if_pos c_1_60]; (try unfold cd_bI); (repeat' split) <;> first | rfl | contradiction | (exfalso; simp_all; done) | (exfalso; simp only [Int32.lt_iff_toInt_lt, Int32.le_iff_toInt_le] at *; omega), rfl, rfl⟩
  by_cases c_1_61 : s = nI 61
  · refine r_lookE hO d_X_joined_1 (by decide) c_1_61 (off := 114) (by decide) (tgt := 115) (by decide) ?_
    refine r_iload hO d_X_joined_115 rfl ?_
    refine r_iload hO d_X_joined_116 rfl ?_
    refine r_icmp_ne hO d_X_joined_117 (fun c_117 => ?_) (fun c_117 => ?_)
    · refine r_k hO d_X_joined_124 ?_
      refine r_iret hO hE (Nat.zero_le _) (Nat.zero_le _) d_X_joined_125 ?_
      exact ⟨by unfold cd_jo; rw [if_neg c_1_38, if_neg c_1_42, if_neg c_1_43, if_neg c_1_45, if_neg c_1_60, if_pos c_1_61]; (try unfold cd_bI); (repeat' split) <;> first | rfl | contradiction | (exfalso; simp_all; done) | (exfalso; simp only [Int32.lt_iff_toInt_lt, Int32.le_iff_toInt_le] at *; omega), rfl, rfl⟩
    · refine r_k hO d_X_joined_120 ?_
      refine r_goto hO d_X_joined_121 ?_
      refine r_iret hO hE (Nat.zero_le _) (Nat.zero_le _) d_X_joined_125 ?_
      exact ⟨by unfold cd_jo; rw [if_neg c_1_38, if_neg c_1_42, if_neg c_1_43, if_neg c_1_45, if_neg c_1_60, if_pos c_1_61]; (try unfold cd_bI); (repeat' split) <;> first | rfl | contradiction | (exfalso; simp_all; done) | (exfalso; simp only [Int32.lt_iff_toInt_lt, Int32.le_iff_toInt_le] at *; omega), rfl, rfl⟩
  by_cases c_1_62 : s = nI 62
  · refine r_lookE hO d_X_joined_1 (by decide) c_1_62 (off := 125) (by decide) (tgt := 126) (by decide) ?_
    refine r_iload hO d_X_joined_126 rfl ?_
    refine r_iload hO d_X_joined_127 rfl ?_
    refine r_icmp_le hO d_X_joined_128 (fun c_128 => ?_) (fun c_128 => ?_)
    · refine r_k hO d_X_joined_135 ?_
      refine r_iret hO hE (Nat.zero_le _) (Nat.zero_le _) d_X_joined_136 ?_
      exact ⟨by unfold cd_jo; rw [if_neg c_1_38, if_neg c_1_42, if_neg c_1_43, if_neg c_1_45, if_neg c_1_60, if_neg c_1_61, if_pos c_1_62]; (try unfold cd_bI); (repeat' split) <;> first | rfl | contradiction | (exfalso; simp_all; done) | (exfalso; simp only [Int32.lt_iff_toInt_lt, Int32.le_iff_toInt_le] at *; omega), rfl, rfl⟩
    · refine r_k hO d_X_joined_131 ?_
      refine r_goto hO d_X_joined_132 ?_
      refine r_iret hO hE (Nat.zero_le _) (Nat.zero_le _) d_X_joined_136 ?_
      exact ⟨by unfold cd_jo; rw [if_neg c_1_38, if_neg c_1_42, if_neg c_1_43, if_neg c_1_45, if_neg c_1_60, if_neg c_1_61, if_pos c_1_62]; (try unfold cd_bI); (repeat' split) <;> first | rfl | contradiction | (exfalso; simp_all; done) | (exfalso; simp only [Int32.lt_iff_toInt_lt, Int32.le_iff_toInt_le] at *; omega), rfl, rfl⟩
  by_cases c_1_124 : s = nI 124
  · refine r_lookE hO d_X_joined_1 (by decide) c_1_124 (off := 75) (by decide) (tgt := 76) (by decide) ?_
    refine r_iload hO d_X_joined_76 rfl ?_
    refine r_if_ne hO d_X_joined_77 (fun c_77 => ?_) (fun c_77 => ?_)
    · refine r_k hO d_X_joined_84 ?_
      refine r_goto hO d_X_joined_85 ?_
      refine r_iret hO hE (Nat.zero_le _) (Nat.zero_le _) d_X_joined_89 ?_
      exact ⟨by unfold cd_jo; rw [if_neg c_1_38, if_neg c_1_42, if_neg c_1_43, if_neg c_1_45, if_neg c_1_60, if_neg c_1_61, if_neg c_1_62, if_pos c_1_124]; (try unfold cd_bI); (repeat' split) <;> first | rfl | contradiction | (exfalso; simp_all; done) | (exfalso; simp only [Int32.lt_iff_toInt_lt, Int32.le_iff_toInt_le] at *; omega), rfl, rfl⟩
    · refine r_iload hO d_X_joined_80 rfl ?_
      refine r_if_eq hO d_X_joined_81 (fun c_81 => ?_) (fun c_81 => ?_)
      · refine r_k hO d_X_joined_88 ?_
        refine r_iret hO hE (Nat.zero_le _) (Nat.zero_le _) d_X_joined_89 ?_
        exact ⟨by unfold cd_jo; rw [if_neg c_1_38, if_neg c_1_42, if_neg c_1_43, if_neg c_1_45, if_neg c_1_60, if_neg c_1_61, if_neg c_1_62, if_pos c_1_124]; (try unfold cd_bI); (repeat' split) <;> first | rfl | contradiction | (exfalso; simp_all; done) | (exfalso; simp only [Int32.lt_iff_toInt_lt, Int32.le_iff_toInt_le] at *; omega), rfl, rfl⟩
      · refine r_k hO d_X_joined_84 ?_
        refine r_goto hO d_X_joined_85 ?_
        refine r_iret hO hE (Nat.zero_le _) (Nat.zero_le _) d_X_joined_89 ?_
        exact ⟨by unfold cd_jo; rw [if_neg c_1_38, if_neg c_1_42, if_neg c_1_43, if_neg c_1_45, if_neg c_1_60, if_neg c_1_61, if_neg c_1_62, if_pos c_1_124]; (try unfold cd_bI); (repeat' split) <;> first | rfl | contradiction | (exfalso; simp_all; done) | (exfalso; simp only [Int32.lt_iff_toInt_lt, Int32.le_iff_toInt_le] at *; omega), rfl, rfl⟩
  refine r_lookN hO d_X_joined_1 (by decide) (off := 148) (by rw [lv_osw c_1_38 (by decide), lv_osw c_1_42 (by decide), lv_osw c_1_43 (by decide), lv_osw c_1_45 (by decide), lv_osw c_1_60 (by decide), lv_osw c_1_61 (by decide), lv_osw c_1_62 (by decide), lv_osw c_1_124 (by decide)]; rfl) (tgt := 149) (by decide) ?_
  refine r_iload hO d_X_joined_149 rfl ?_
  refine r_if_ne hO d_X_joined_150 (fun c_150 => ?_) (fun c_150 => ?_)
  · refine r_iload hO d_X_joined_157 rfl ?_
    refine r_iload hO d_X_joined_158 rfl ?_
    refine r_idiv hO d_X_joined_159 c_150 ?_
    refine r_iret hO hE (Nat.zero_le _) (Nat.zero_le _) d_X_joined_160 ?_
    exact ⟨by unfold cd_jo; rw [if_neg c_1_38, if_neg c_1_42, if_neg c_1_43, if_neg c_1_45, if_neg c_1_60, if_neg c_1_61, if_neg c_1_62, if_neg c_1_124]; (try unfold cd_bI); (repeat' split) <;> first | rfl | contradiction | (exfalso; simp_all; done) | (exfalso; simp only [Int32.lt_iff_toInt_lt, Int32.le_iff_toInt_le] at *; omega), rfl, rfl⟩
  · refine r_k hO d_X_joined_153 ?_
    refine r_goto hO d_X_joined_154 ?_
    refine r_iret hO hE (Nat.zero_le _) (Nat.zero_le _) d_X_joined_160 ?_
    exact ⟨by unfold cd_jo; rw [if_neg c_1_38, if_neg c_1_42, if_neg c_1_43, if_neg c_1_45, if_neg c_1_60, if_neg c_1_61, if_neg c_1_62, if_neg c_1_124]; (try unfold cd_bI); (repeat' split) <;> first | rfl | contradiction | (exfalso; simp_all; done) | (exfalso; simp only [Int32.lt_iff_toInt_lt, Int32.le_iff_toInt_le] at *; omega), rfl, rfl⟩
theorem d_X_gives_0 : cd_Dk b_X_gives 0 (nI 0) 1 := Or.inl ⟨0, ⟨by decide +kernel, rfl⟩, by decide +kernel⟩
theorem d_X_gives_1 : cd_D_istore b_X_gives 1 4 3 := Or.inl ⟨by decide +kernel, rfl⟩
theorem d_X_gives_3 : cd_Dk b_X_gives 3 (nI 0) 4 := Or.inl ⟨0, ⟨by decide +kernel, rfl⟩, by decide +kernel⟩
theorem d_X_gives_4 : cd_D_istore b_X_gives 4 5 6 := Or.inl ⟨by decide +kernel, rfl⟩
theorem d_X_gives_6 : cd_D_iload b_X_gives 6 5 8 := Or.inl ⟨by decide +kernel, rfl⟩
theorem d_X_gives_8 : cd_D_aload b_X_gives 8 0 9 := Or.inr ⟨0, ⟨by decide +kernel, rfl⟩, rfl⟩
theorem d_X_gives_9 : cd_D 3 b_X_gives 9 (.getfield 18) 12 := ⟨by decide +kernel, rfl⟩
theorem d_X_gives_12 : cd_D 1 b_X_gives 12 .arraylength 13 := ⟨by decide +kernel, rfl⟩
theorem d_X_gives_13 : cd_D_icmp_ge b_X_gives 13 153 16 := ⟨140, by decide +kernel, by decide, rfl⟩
theorem d_X_gives_16 : cd_D_aload b_X_gives 16 0 17 := Or.inr ⟨0, ⟨by decide +kernel, rfl⟩, rfl⟩
theorem d_X_gives_17 : cd_D 3 b_X_gives 17 (.getfield 18) 20 := ⟨by decide +kernel, rfl⟩
theorem d_X_gives_20 : cd_D_iload b_X_gives 20 5 22 := Or.inl ⟨by decide +kernel, rfl⟩
theorem d_X_gives_22 : cd_D 1 b_X_gives 22 .iaload 23 := ⟨by decide +kernel, rfl⟩
theorem d_X_gives_23 : cd_D_istore b_X_gives 23 6 25 := Or.inl ⟨by decide +kernel, rfl⟩
theorem d_X_gives_25 : cd_D_iload b_X_gives 25 6 27 := Or.inl ⟨by decide +kernel, rfl⟩
theorem d_X_gives_27 : cd_D_if_lt b_X_gives 27 61 30 := ⟨34, by decide +kernel, by decide, rfl⟩
theorem d_X_gives_30 : cd_D_iload b_X_gives 30 4 32 := Or.inl ⟨by decide +kernel, rfl⟩
theorem d_X_gives_32 : cd_D_aload b_X_gives 32 0 33 := Or.inr ⟨0, ⟨by decide +kernel, rfl⟩, rfl⟩
theorem d_X_gives_33 : cd_D 3 b_X_gives 33 (.getfield 22) 36 := ⟨by decide +kernel, rfl⟩
theorem d_X_gives_36 : cd_D 1 b_X_gives 36 .arraylength 37 := ⟨by decide +kernel, rfl⟩
theorem d_X_gives_37 : cd_D_icmp_ge b_X_gives 37 61 40 := ⟨24, by decide +kernel, by decide, rfl⟩
theorem d_X_gives_40 : cd_D_aload b_X_gives 40 0 41 := Or.inr ⟨0, ⟨by decide +kernel, rfl⟩, rfl⟩
theorem d_X_gives_41 : cd_D 3 b_X_gives 41 (.getfield 22) 44 := ⟨by decide +kernel, rfl⟩
theorem d_X_gives_44 : cd_D_iload b_X_gives 44 4 46 := Or.inl ⟨by decide +kernel, rfl⟩
theorem d_X_gives_46 : cd_D_iload b_X_gives 46 6 48 := Or.inl ⟨by decide +kernel, rfl⟩
theorem d_X_gives_48 : cd_D_iload b_X_gives 48 1 49 := Or.inr ⟨1, ⟨by decide +kernel, rfl⟩, rfl⟩
theorem d_X_gives_49 : cd_D_iload b_X_gives 49 2 50 := Or.inr ⟨2, ⟨by decide +kernel, rfl⟩, rfl⟩
theorem d_X_gives_50 : cd_D_iload b_X_gives 50 3 51 := Or.inr ⟨3, ⟨by decide +kernel, rfl⟩, rfl⟩
theorem d_X_gives_51 : cd_D 3 b_X_gives 51 (.invokestatic 25) 54 := ⟨by decide +kernel, rfl⟩
theorem d_X_gives_54 : cd_D 1 b_X_gives 54 .iastore 55 := ⟨by decide +kernel, rfl⟩
theorem d_X_gives_55 : cd_D 3 b_X_gives 55 (.iinc 4 (1)) 58 := ⟨by decide +kernel, rfl⟩
theorem d_X_gives_58 : cd_D_goto b_X_gives 58 147 := ⟨89, by decide +kernel, by decide⟩
theorem d_X_gives_61 : cd_D_iload b_X_gives 61 6 63 := Or.inl ⟨by decide +kernel, rfl⟩
theorem d_X_gives_63 : cd_Dk b_X_gives 63 (-33) 65 := Or.inr (Or.inl ⟨-33, ⟨by decide +kernel, rfl⟩, by decide +kernel⟩)
theorem d_X_gives_65 : cd_D_icmp_ne b_X_gives 65 102 68 := ⟨37, by decide +kernel, by decide, rfl⟩
theorem d_X_gives_68 : cd_D_iload b_X_gives 68 4 70 := Or.inl ⟨by decide +kernel, rfl⟩
theorem d_X_gives_70 : cd_D_if_le b_X_gives 70 102 73 := ⟨32, by decide +kernel, by decide, rfl⟩
theorem d_X_gives_73 : cd_D_aload b_X_gives 73 0 74 := Or.inr ⟨0, ⟨by decide +kernel, rfl⟩, rfl⟩
theorem d_X_gives_74 : cd_D 3 b_X_gives 74 (.getfield 22) 77 := ⟨by decide +kernel, rfl⟩
theorem d_X_gives_77 : cd_D_iload b_X_gives 77 4 79 := Or.inl ⟨by decide +kernel, rfl⟩
theorem d_X_gives_79 : cd_Dk b_X_gives 79 (nI 1) 80 := Or.inl ⟨1, ⟨by decide +kernel, rfl⟩, by decide +kernel⟩
theorem d_X_gives_80 : cd_D 1 b_X_gives 80 .isub 81 := ⟨by decide +kernel, rfl⟩
theorem d_X_gives_81 : cd_D_aload b_X_gives 81 0 82 := Or.inr ⟨0, ⟨by decide +kernel, rfl⟩, rfl⟩
theorem d_X_gives_82 : cd_D 3 b_X_gives 82 (.getfield 22) 85 := ⟨by decide +kernel, rfl⟩
theorem d_X_gives_85 : cd_D_iload b_X_gives 85 4 87 := Or.inl ⟨by decide +kernel, rfl⟩
theorem d_X_gives_87 : cd_Dk b_X_gives 87 (nI 1) 88 := Or.inl ⟨1, ⟨by decide +kernel, rfl⟩, by decide +kernel⟩
theorem d_X_gives_88 : cd_D 1 b_X_gives 88 .isub 89 := ⟨by decide +kernel, rfl⟩
theorem d_X_gives_89 : cd_D 1 b_X_gives 89 .iaload 90 := ⟨by decide +kernel, rfl⟩
theorem d_X_gives_90 : cd_D_if_ne b_X_gives 90 97 93 := ⟨7, by decide +kernel, by decide, rfl⟩
theorem d_X_gives_93 : cd_Dk b_X_gives 93 (nI 1) 94 := Or.inl ⟨1, ⟨by decide +kernel, rfl⟩, by decide +kernel⟩
theorem d_X_gives_94 : cd_D_goto b_X_gives 94 98 := ⟨4, by decide +kernel, by decide⟩
theorem d_X_gives_97 : cd_Dk b_X_gives 97 (nI 0) 98 := Or.inl ⟨0, ⟨by decide +kernel, rfl⟩, by decide +kernel⟩
theorem d_X_gives_98 : cd_D 1 b_X_gives 98 .iastore 99 := ⟨by decide +kernel, rfl⟩
theorem d_X_gives_99 : cd_D_goto b_X_gives 99 147 := ⟨48, by decide +kernel, by decide⟩
theorem d_X_gives_102 : cd_D_iload b_X_gives 102 6 104 := Or.inl ⟨by decide +kernel, rfl⟩
theorem d_X_gives_104 : cd_D_if_ge b_X_gives 104 147 107 := ⟨43, by decide +kernel, by decide, rfl⟩
theorem d_X_gives_107 : cd_D_iload b_X_gives 107 4 109 := Or.inl ⟨by decide +kernel, rfl⟩
theorem d_X_gives_109 : cd_Dk b_X_gives 109 (nI 1) 110 := Or.inl ⟨1, ⟨by decide +kernel, rfl⟩, by decide +kernel⟩
theorem d_X_gives_110 : cd_D_icmp_le b_X_gives 110 147 113 := ⟨37, by decide +kernel, by decide, rfl⟩
theorem d_X_gives_113 : cd_D 3 b_X_gives 113 (.iinc 4 (-1)) 116 := ⟨by decide +kernel, rfl⟩
theorem d_X_gives_116 : cd_D_aload b_X_gives 116 0 117 := Or.inr ⟨0, ⟨by decide +kernel, rfl⟩, rfl⟩
theorem d_X_gives_117 : cd_D 3 b_X_gives 117 (.getfield 22) 120 := ⟨by decide +kernel, rfl⟩
theorem d_X_gives_120 : cd_D_iload b_X_gives 120 4 122 := Or.inl ⟨by decide +kernel, rfl⟩
theorem d_X_gives_122 : cd_Dk b_X_gives 122 (nI 1) 123 := Or.inl ⟨1, ⟨by decide +kernel, rfl⟩, by decide +kernel⟩
theorem d_X_gives_123 : cd_D 1 b_X_gives 123 .isub 124 := ⟨by decide +kernel, rfl⟩
theorem d_X_gives_124 : cd_D_iload b_X_gives 124 6 126 := Or.inl ⟨by decide +kernel, rfl⟩
theorem d_X_gives_126 : cd_D 1 b_X_gives 126 .ineg 127 := ⟨by decide +kernel, rfl⟩
theorem d_X_gives_127 : cd_D_aload b_X_gives 127 0 128 := Or.inr ⟨0, ⟨by decide +kernel, rfl⟩, rfl⟩
theorem d_X_gives_128 : cd_D 3 b_X_gives 128 (.getfield 22) 131 := ⟨by decide +kernel, rfl⟩
theorem d_X_gives_131 : cd_D_iload b_X_gives 131 4 133 := Or.inl ⟨by decide +kernel, rfl⟩
theorem d_X_gives_133 : cd_Dk b_X_gives 133 (nI 1) 134 := Or.inl ⟨1, ⟨by decide +kernel, rfl⟩, by decide +kernel⟩
theorem d_X_gives_134 : cd_D 1 b_X_gives 134 .isub 135 := ⟨by decide +kernel, rfl⟩
theorem d_X_gives_135 : cd_D 1 b_X_gives 135 .iaload 136 := ⟨by decide +kernel, rfl⟩
theorem d_X_gives_136 : cd_D_aload b_X_gives 136 0 137 := Or.inr ⟨0, ⟨by decide +kernel, rfl⟩, rfl⟩
theorem d_X_gives_137 : cd_D 3 b_X_gives 137 (.getfield 22) 140 := ⟨by decide +kernel, rfl⟩
theorem d_X_gives_140 : cd_D_iload b_X_gives 140 4 142 := Or.inl ⟨by decide +kernel, rfl⟩
theorem d_X_gives_142 : cd_D 1 b_X_gives 142 .iaload 143 := ⟨by decide +kernel, rfl⟩
theorem d_X_gives_143 : cd_D 3 b_X_gives 143 (.invokestatic 29) 146 := ⟨by decide +kernel, rfl⟩
theorem d_X_gives_146 : cd_D 1 b_X_gives 146 .iastore 147 := ⟨by decide +kernel, rfl⟩
theorem d_X_gives_147 : cd_D 3 b_X_gives 147 (.iinc 5 (1)) 150 := ⟨by decide +kernel, rfl⟩
theorem d_X_gives_150 : cd_D_goto b_X_gives 150 6 := ⟨-144, by decide +kernel, by decide⟩
theorem d_X_gives_153 : cd_D_iload b_X_gives 153 4 155 := Or.inl ⟨by decide +kernel, rfl⟩
theorem d_X_gives_155 : cd_D_if_le b_X_gives 155 167 158 := ⟨12, by decide +kernel, by decide, rfl⟩
theorem d_X_gives_158 : cd_D_aload b_X_gives 158 0 159 := Or.inr ⟨0, ⟨by decide +kernel, rfl⟩, rfl⟩
theorem d_X_gives_159 : cd_D 3 b_X_gives 159 (.getfield 22) 162 := ⟨by decide +kernel, rfl⟩
theorem d_X_gives_162 : cd_Dk b_X_gives 162 (nI 0) 163 := Or.inl ⟨0, ⟨by decide +kernel, rfl⟩, by decide +kernel⟩
theorem d_X_gives_163 : cd_D 1 b_X_gives 163 .iaload 164 := ⟨by decide +kernel, rfl⟩
theorem d_X_gives_164 : cd_D_goto b_X_gives 164 168 := ⟨4, by decide +kernel, by decide⟩
theorem d_X_gives_167 : cd_Dk b_X_gives 167 (nI 0) 168 := Or.inl ⟨0, ⟨by decide +kernel, rfl⟩, by decide +kernel⟩
theorem d_X_gives_168 : cd_D 1 b_X_gives 168 .ireturn 169 := ⟨by decide +kernel, rfl⟩
theorem c_X_gives {l : Launch} {w : cd_WT} {S : cd_Sp} {I : cd_Mem} {x cx sx n v nb : Nat} (hX : cd_XO w S x cx sx n v) (hn9 : n ≤ 96) (hv9 : v ≤ 96) (hnb : nb ≤ 3) (c : Nat → Int32) (htr : ∀ k, k < n → I cx k = cd_tr (c k)) (hwf : cd_wf (-10) c n nb) (hsg : ∀ k, k < n → c k < 0 → (-10) ≤ c k) (hlv : ∀ k, k < n → ¬ c k < 0 → cd_dep (-10) c k < v) (hd1 : 1 ≤ cd_dep (-10) c n) (f s t : Int32) : cd_C l w m_X_gives 1 0 0 [.ref x, .int f, .int s, .int t] S I (cd_Pi S (fun y I' => y = (cd_es cd_two (-10) (fun j => if j = 0 then f else if j = 1 then s else t) c n).2 0 ∧ cd_off I I' [sx])) := by
  refine cd_intro (by decide) (by simp [Value.category]) (Nat.le_of_ble_eq_true rfl) ?_
  intro X hO hE
  show cd_J w X 0 0 S I 0 [some (.ref x), some (.int f), some (.int s), some (.int t), none, none, none] []
  have hne := hX.2.2.2.2.2.2.1
  have loop : ∀ (r k tp : Nat) (sv st : Nat → Int32) (x6 : Option Value), k + r = n → cd_es cd_two (-10) (fun j => if j = 0 then f else if j = 1 then s else t) c k = (tp, sv) → (∀ j, j < tp → st j = sv j) → cd_J w X 0 0 S (cd_set I sx st) 6 [some (.ref x), some (.int f), some (.int s), some (.int t), some (.int (nI tp)), some (.int (nI k)), x6] [] := by
    intro r
    induction r with
    | zero =>
      intro k tp sv st x6 hk hz hst
      have hkn : k = n := by omega
      subst hkn
      have hdep : tp = cd_dep (-10) c k := by rw [← cd_es_dep cd_two (-10) (fun j => if j = 0 then f else if j = 1 then s else t), hz]
      have htv : tp ≤ v := by rw [hdep]; exact cd_dep_v hlv k (Nat.le_refl _)
      refine r_iload hO d_X_gives_6 rfl ?_
      refine r_aload hO d_X_gives_8 rfl ?_
      refine r_getR hO f_X_18 rfl hX.1 hX.2.1 d_X_gives_9 ?_
      refine r_alen (t := 0) hO hX.2.2.2.1 (by decide) d_X_gives_12 ?_
      refine r_icmp_ge hO d_X_gives_13 (fun c_13 => ?_) (fun c_13 => ?_)
      · refine r_iload hO d_X_gives_153 rfl ?_
        refine r_if_le hO d_X_gives_155 (fun c_155 => ?_) (fun c_155 => ?_)
        · exact absurd c_155 (nI_nle (by omega) (by omega))
        · refine r_aload hO d_X_gives_158 rfl ?_
          refine r_getR hO f_X_22 rfl hX.1 hX.2.2.1 d_X_gives_159 ?_
          refine r_k hO d_X_gives_162 ?_
          refine r_iald hO hX.2.2.2.2.1 (by omega) (by omega) d_X_gives_163 ?_
          refine r_goto hO d_X_gives_164 ?_
          refine r_iret hO hE (Nat.zero_le _) (Nat.zero_le _) d_X_gives_168 ?_
          exact ⟨_, rfl, rfl, by rw [cd_set_eq, hz]; exact hst 0 (by omega), cd_off.set _ _ (by simp)⟩
      · exact absurd (nI_le (Nat.le_refl _) (by omega)) c_13
    | succ r ih =>
      intro k tp sv st x6 hk hz hst
      have hdep : tp = cd_dep (-10) c k := by rw [← cd_es_dep cd_two (-10) (fun j => if j = 0 then f else if j = 1 then s else t), hz]
      obtain ⟨hw1, hw2, hw3⟩ := hwf k (by omega)
      have hlk := hlv k (by omega)
      rw [← hdep] at hw1 hw2 hw3 hlk
      have htp : tp ≤ k := by rw [hdep]; exact cd_dep_le _ _ _
      have htv : tp ≤ v := by rw [hdep]; exact cd_dep_v hlv k (by omega)
      have hck := htr k (by omega)
      by_cases hc0 : c k < 0
      · by_cases hc10 : c k = (-10)
        · have hv : I cx k = (-33) := by rw [hck, hc10]; rfl
          have hw2 := hw2 hc10
          refine r_iload hO d_X_gives_6 rfl ?_
          refine r_aload hO d_X_gives_8 rfl ?_
          refine r_getR hO f_X_18 rfl hX.1 hX.2.1 d_X_gives_9 ?_
          refine r_alen (t := 0) hO hX.2.2.2.1 (by decide) d_X_gives_12 ?_
          refine r_icmp_ge hO d_X_gives_13 (fun c_13 => ?_) (fun c_13 => ?_)
          · exact absurd c_13 (nI_ge (by omega) (by omega))
          · refine r_aload hO d_X_gives_16 rfl ?_
            refine r_getR hO f_X_18 rfl hX.1 hX.2.1 d_X_gives_17 ?_
            refine r_iload hO d_X_gives_20 rfl ?_
            refine r_iald hO hX.2.2.2.1 (by omega) (by omega) d_X_gives_22 ?_
            rw [cd_set_ne _ _ hne]
            refine r_tops hv ?_
            refine r_sI6 hO d_X_gives_23 rfl ?_
            refine r_iload hO d_X_gives_25 rfl ?_
            refine r_if_lt hO d_X_gives_27 (fun c_27 => ?_) (fun c_27 => ?_)
            · refine r_iload hO d_X_gives_61 rfl ?_
              refine r_k hO d_X_gives_63 ?_
              refine r_icmp_ne hO d_X_gives_65 (fun c_65 => ?_) (fun c_65 => ?_)
              · exact absurd rfl c_65
              · refine r_iload hO d_X_gives_68 rfl ?_
                refine r_if_le hO d_X_gives_70 (fun c_70 => ?_) (fun c_70 => ?_)
                · exact absurd c_70 (nI_nle (by omega) (by omega))
                · refine r_aload hO d_X_gives_73 rfl ?_
                  refine r_getR hO f_X_22 rfl hX.1 hX.2.2.1 d_X_gives_74 ?_
                  refine r_iload hO d_X_gives_77 rfl ?_
                  refine r_k hO d_X_gives_79 ?_
                  refine r_isubN hO d_X_gives_80 (by omega) ?_
                  refine r_aload hO d_X_gives_81 rfl ?_
                  refine r_getR hO f_X_22 rfl hX.1 hX.2.2.1 d_X_gives_82 ?_
                  refine r_iload hO d_X_gives_85 rfl ?_
                  refine r_k hO d_X_gives_87 ?_
                  refine r_isubN hO d_X_gives_88 (by omega) ?_
                  refine r_iald hO hX.2.2.2.2.1 (by omega) (by omega) d_X_gives_89 ?_
                  simp only [cd_set_eq, cd_set_ne _ _ hne, cd_set_set]
                  refine r_if_ne hO d_X_gives_90 (fun c_90 => ?_) (fun c_90 => ?_)
                  · refine r_k hO d_X_gives_97 ?_
                    refine r_iast hO hX.2.2.2.2.1 hX.2.2.2.2.2.1 (by omega) (by omega) d_X_gives_98 ?_
                    refine r_goto hO d_X_gives_99 ?_
                    simp only [cd_set_eq, cd_set_ne _ _ hne, cd_set_set]
                    refine r_incN5 hO d_X_gives_147 rfl ?_
                    refine r_goto hO d_X_gives_150 ?_
                    have hs0 := hst (tp - 1) (by omega)
                    refine ih (k + 1) tp (upd sv (tp - 1) (nI 0)) _ _ (by omega) (by rw [hs0] at c_90; simp only [cd_es, hz, hc0, hc10, c_90, if_true, if_false, show ((-10 : Int32) < 0) from by decide]) (fun j hj => ?_)
                    by_cases hjt : j = tp - 1
                    · subst hjt; simp only [upd, if_true]
                    · simp only [upd, hjt, if_false]; exact hst j (by omega)
                  · refine r_k hO d_X_gives_93 ?_
                    refine r_goto hO d_X_gives_94 ?_
                    refine r_iast hO hX.2.2.2.2.1 hX.2.2.2.2.2.1 (by omega) (by omega) d_X_gives_98 ?_
                    refine r_goto hO d_X_gives_99 ?_
                    simp only [cd_set_eq, cd_set_ne _ _ hne, cd_set_set]
                    refine r_incN5 hO d_X_gives_147 rfl ?_
                    refine r_goto hO d_X_gives_150 ?_
                    have hs0 := hst (tp - 1) (by omega)
                    refine ih (k + 1) tp (upd sv (tp - 1) (nI 1)) _ _ (by omega) (by rw [hs0] at c_90; simp only [cd_es, hz, hc0, hc10, c_90, if_true, if_false, show ((-10 : Int32) < 0) from by decide]) (fun j hj => ?_)
                    by_cases hjt : j = tp - 1
                    · subst hjt; simp only [upd, if_true]
                    · simp only [upd, hjt, if_false]; exact hst j (by omega)
            · exact absurd (by decide) c_27
        · obtain ⟨hn1, hn2, hjo⟩ := cd_tr_s hc0 (hsg k (by omega) hc0) hc10
          rw [← hck] at hn1 hn2 hjo
          have hw3 := hw3 hc0 hc10
          refine r_iload hO d_X_gives_6 rfl ?_
          refine r_aload hO d_X_gives_8 rfl ?_
          refine r_getR hO f_X_18 rfl hX.1 hX.2.1 d_X_gives_9 ?_
          refine r_alen (t := 0) hO hX.2.2.2.1 (by decide) d_X_gives_12 ?_
          refine r_icmp_ge hO d_X_gives_13 (fun c_13 => ?_) (fun c_13 => ?_)
          · exact absurd c_13 (nI_ge (by omega) (by omega))
          · refine r_aload hO d_X_gives_16 rfl ?_
            refine r_getR hO f_X_18 rfl hX.1 hX.2.1 d_X_gives_17 ?_
            refine r_iload hO d_X_gives_20 rfl ?_
            refine r_iald hO hX.2.2.2.1 (by omega) (by omega) d_X_gives_22 ?_
            rw [cd_set_ne _ _ hne]
            refine r_sI6 hO d_X_gives_23 rfl ?_
            refine r_iload hO d_X_gives_25 rfl ?_
            refine r_if_lt hO d_X_gives_27 (fun c_27 => ?_) (fun c_27 => ?_)
            · refine r_iload hO d_X_gives_61 rfl ?_
              refine r_k hO d_X_gives_63 ?_
              refine r_icmp_ne hO d_X_gives_65 (fun c_65 => ?_) (fun c_65 => ?_)
              · refine r_iload hO d_X_gives_102 rfl ?_
                refine r_if_ge hO d_X_gives_104 (fun c_104 => ?_) (fun c_104 => ?_)
                · exact absurd c_104 (cd_nle0 hn1)
                · refine r_iload hO d_X_gives_107 rfl ?_
                  refine r_k hO d_X_gives_109 ?_
                  refine r_icmp_le hO d_X_gives_110 (fun c_110 => ?_) (fun c_110 => ?_)
                  · exact absurd c_110 (nI_ge (by omega) (by omega))
                  · refine r_inc4 hO d_X_gives_113 (show nI tp + Int32.ofInt (-1) = nI (tp - 1) from sb_m1 (by omega)) rfl ?_
                    refine r_aload hO d_X_gives_116 rfl ?_
                    refine r_getR hO f_X_22 rfl hX.1 hX.2.2.1 d_X_gives_117 ?_
                    refine r_iload hO d_X_gives_120 rfl ?_
                    refine r_k hO d_X_gives_122 ?_
                    refine r_isubN hO d_X_gives_123 (by omega) ?_
                    refine r_iload hO d_X_gives_124 rfl ?_
                    refine r_ineg hO d_X_gives_126 ?_
                    refine r_aload hO d_X_gives_127 rfl ?_
                    refine r_getR hO f_X_22 rfl hX.1 hX.2.2.1 d_X_gives_128 ?_
                    refine r_iload hO d_X_gives_131 rfl ?_
                    refine r_k hO d_X_gives_133 ?_
                    refine r_isubN hO d_X_gives_134 (by omega) ?_
                    refine r_iald hO hX.2.2.2.2.1 (by omega) (by omega) d_X_gives_135 ?_
                    simp only [cd_set_eq, cd_set_ne _ _ hne, cd_set_set]
                    refine r_aload hO d_X_gives_136 rfl ?_
                    refine r_getR hO f_X_22 rfl hX.1 hX.2.2.1 d_X_gives_137 ?_
                    refine r_iload hO d_X_gives_140 rfl ?_
                    refine r_iald hO hX.2.2.2.2.1 (by omega) (by omega) d_X_gives_142 ?_
                    simp only [cd_set_eq, cd_set_ne _ _ hne, cd_set_set]
                    refine r_cS3fi hO hE (c_X_joined _ _ _) mf_X_joined lk_X_29 (by decide) rfl (Nat.le_of_ble_eq_true rfl) d_X_gives_143 (Nat.zero_le _) (Nat.zero_le _) ?_
                    refine r_tops (hjo _ _) ?_
                    refine r_iast hO hX.2.2.2.2.1 hX.2.2.2.2.2.1 (by omega) (by omega) d_X_gives_146 ?_
                    simp only [cd_set_eq, cd_set_ne _ _ hne, cd_set_set]
                    refine r_incN5 hO d_X_gives_147 rfl ?_
                    refine r_goto hO d_X_gives_150 ?_
                    refine ih (k + 1) (tp - 1) (upd sv (tp - 1 - 1) (cd_two (c k) (sv (tp - 1 - 1)) (sv (tp - 1)))) _ _ (by omega) (by simp only [cd_es, hz, hc0, hc10, if_true, if_false]) (fun j hj => ?_)
                    rw [hst (tp - 1 - 1) (by omega), hst (tp - 1) (by omega)]
                    by_cases hjt : j = tp - 1 - 1
                    · subst hjt; simp only [upd, if_true]
                    · simp only [upd, hjt, if_false]; exact hst j (by omega)
              · exact absurd c_65 hn2
            · exact absurd hn1 c_27
      · have hv : I cx k = c k := hck.trans (cd_tr_p hc0)
        have hlk := hlk hc0
        have hw1 := (hw1 hc0).2
        refine r_iload hO d_X_gives_6 rfl ?_
        refine r_aload hO d_X_gives_8 rfl ?_
        refine r_getR hO f_X_18 rfl hX.1 hX.2.1 d_X_gives_9 ?_
        refine r_alen (t := 0) hO hX.2.2.2.1 (by decide) d_X_gives_12 ?_
        refine r_icmp_ge hO d_X_gives_13 (fun c_13 => ?_) (fun c_13 => ?_)
        · exact absurd c_13 (nI_ge (by omega) (by omega))
        · refine r_aload hO d_X_gives_16 rfl ?_
          refine r_getR hO f_X_18 rfl hX.1 hX.2.1 d_X_gives_17 ?_
          refine r_iload hO d_X_gives_20 rfl ?_
          refine r_iald hO hX.2.2.2.1 (by omega) (by omega) d_X_gives_22 ?_
          rw [cd_set_ne _ _ hne]
          refine r_tops hv ?_
          refine r_sI6 hO d_X_gives_23 rfl ?_
          refine r_iload hO d_X_gives_25 rfl ?_
          refine r_if_lt hO d_X_gives_27 (fun c_27 => ?_) (fun c_27 => ?_)
          · exact absurd c_27 hc0
          · refine r_iload hO d_X_gives_30 rfl ?_
            refine r_aload hO d_X_gives_32 rfl ?_
            refine r_getR hO f_X_22 rfl hX.1 hX.2.2.1 d_X_gives_33 ?_
            refine r_alen (t := 0) hO hX.2.2.2.2.1 (by decide) d_X_gives_36 ?_
            refine r_icmp_ge hO d_X_gives_37 (fun c_37 => ?_) (fun c_37 => ?_)
            · exact absurd c_37 (nI_ge (by omega) (by omega))
            · refine r_aload hO d_X_gives_40 rfl ?_
              refine r_getR hO f_X_22 rfl hX.1 hX.2.2.1 d_X_gives_41 ?_
              refine r_iload hO d_X_gives_44 rfl ?_
              refine r_iload hO d_X_gives_46 rfl ?_
              refine r_iload hO d_X_gives_48 rfl ?_
              refine r_iload hO d_X_gives_49 rfl ?_
              refine r_iload hO d_X_gives_50 rfl ?_
              refine r_cS4fi hO hE (c_X_leaf _ _ _ _) mf_X_leaf lk_X_25 (by decide) rfl (Nat.le_of_ble_eq_true rfl) d_X_gives_51 (Nat.zero_le _) (Nat.zero_le _) ?_
              refine r_iast hO hX.2.2.2.2.1 hX.2.2.2.2.2.1 (by omega) (by omega) d_X_gives_54 ?_
              refine r_incN4 hO d_X_gives_55 rfl ?_
              refine r_goto hO d_X_gives_58 ?_
              simp only [cd_set_eq, cd_set_ne _ _ hne, cd_set_set]
              refine r_incN5 hO d_X_gives_147 rfl ?_
              refine r_goto hO d_X_gives_150 ?_
              refine ih (k + 1) (tp + 1) (upd sv tp (cd_lf (c k) f s t)) _ _ (by omega) ?_ (fun j hj => ?_)
              · simp only [cd_es, hz, hc0, if_false]
                rcases hw1 with hw1 | ⟨j0, hj0, hcj⟩
                · rw [if_neg hw1, cd_lf_p hw1]
                · rw [hcj, cd_lf_n (by omega), if_pos (nI_le (by omega) (by omega)), pk_sub (Nat.le_add_right _ _), Nat.add_sub_cancel_left, cd_tn_nI (by omega)]
              · by_cases hjt : j = tp
                · subst hjt; simp only [upd, if_true]
                · simp only [upd, hjt, if_false]; exact hst j (by omega)
  refine r_k hO d_X_gives_0 ?_
  refine r_sI4 hO d_X_gives_1 rfl ?_
  refine r_k hO d_X_gives_3 ?_
  refine r_sI5 hO d_X_gives_4 rfl ?_
  refine r_mem (show I = cd_set I sx (I sx) from (cd_set_self _ _).symm) ?_
  exact loop n 0 0 (fun _ => 0) _ _ (by omega) rfl (fun j hj => by omega)
