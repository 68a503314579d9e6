def cd_two (s a b : Int32) : Int32 := if s = (-8) then a * b else if s = (-7) then a - b else if s = (-6) then a + b else if s = (-5) then cd_bI (b < a) else if s = (-4) then cd_bI (a = b) else if s = (-3) then cd_bI (a < b) else if s = (-2) then cd_bI (a ≠ 0 ∧ b ≠ 0) else if s = (-1) then cd_bI (a ≠ 0 ∨ b ≠ 0) else if b = 0 then 0 else a / b
def cd_cnt (N : Nat → Int32) (key : Int32) : Nat → Int32
  | 0 => -1
  | t + 1 => if N (76 + 2 * t) / nI 1000 = key then nI t else cd_cnt N key t
def cd_tn (x : Int32) : Nat := x.toNatClampNeg
/-- the stack machine: signs below 0 join, nt turns, the others push -/
def cd_es (two : Int32 → Int32 → Int32 → Int32) (nt : Int32) (fa : Nat → Int32) (c : Nat → Int32) : Nat → Nat × (Nat → Int32)
  | 0 => (0, fun _ => 0)
  | k + 1 => let z := cd_es two nt fa c k
    if c k < 0 then (if c k = nt then (z.1, upd z.2 (z.1 - 1) (if z.2 (z.1 - 1) = 0 then nI 1 else nI 0)) else (z.1 - 1, upd z.2 (z.1 - 1 - 1) (two (c k) (z.2 (z.1 - 1 - 1)) (z.2 (z.1 - 1)))))
    else (z.1 + 1, upd z.2 z.1 (if nI 10000 ≤ c k then fa (cd_tn (c k - nI 10000)) else c k))
def cd_dep (nt : Int32) (c : Nat → Int32) : Nat → Nat
  | 0 => 0
  | k + 1 => if c k < 0 then (if c k = nt then cd_dep nt c k else cd_dep nt c k - 1) else cd_dep nt c k + 1
/-- a row of codes that the machine can work out: of n codes, with nb names -/
def cd_wf (nt : Int32) (c : Nat → Int32) (n nb : Nat) : Prop := ∀ k, k < n → (¬ c k < 0 → cd_dep nt c k < 96 ∧ (¬ nI 10000 ≤ c k ∨ ∃ j, j < nb ∧ c k = nI (10000 + j))) ∧ (c k = nt → 1 ≤ cd_dep nt c k) ∧ (c k < 0 → c k ≠ nt → 2 ≤ cd_dep nt c k)
theorem cd_es_dep (two : Int32 → Int32 → Int32 → Int32) (nt : Int32) (fa c : Nat → Int32) (k : Nat) : (cd_es two nt fa c k).1 = cd_dep nt c k := by
  induction k with
  | zero => rfl
  | succ k ih =>
    simp only [cd_es, cd_dep]
    split
    · split <;> simp only [ih]
    · simp only [ih]
def cd_off (I I' : cd_Mem) (l : List Nat) : Prop := ∀ b, b ∉ l → I' b = I b
theorem cd_off.rf (I : cd_Mem) (l : List Nat) : cd_off I I l := fun _ _ => rfl
theorem cd_off.tr {I I1 I2 : cd_Mem} {l : List Nat} (h : cd_off I I1 l) (h2 : cd_off I1 I2 l) : cd_off I I2 l := fun b hb => (h2 b hb).trans (h b hb)
theorem cd_off.mono {I I1 : cd_Mem} {l l' : List Nat} (h : cd_off I I1 l) (hl : ∀ b, b ∈ l → b ∈ l') : cd_off I I1 l' := fun b hb => h b (fun q => hb (hl b q))
theorem cd_off.set (I : cd_Mem) {a : Nat} (r : Nat → Int32) {l : List Nat} (h : a ∈ l) : cd_off I (cd_set I a r) l := fun b hb => cd_set_ne _ _ (fun e => hb (e ▸ h))
def cd_nb (ky : Nat) : Nat := if ky = 0 then 3 else 2
def cd_TW (N : Nat → Int32) (tc : Nat) : Prop := ∀ t, t < tc → ∃ ky n, N (76 + 2 * t) = nI (1000 * ky + n) ∧ ky ≤ 2 ∧ 1 ≤ n ∧ n ≤ 96 ∧ cd_wf (-10) (fun k => N (104 + 96 * t + k)) n (cd_nb ky) ∧ cd_dep (-10) (fun k => N (104 + 96 * t + k)) n = 1
def cd_V (N : Nat → Int32) (mm tc : Nat) : Prop := N 1 = nI mm ∧ mm ≤ 12 ∧ N 15 = nI tc ∧ tc ≤ 14 ∧ cd_TW N tc
def cd_wo (N : Nat → Int32) (t : Nat) (f0 f1 f2 : Int32) : Int32 := (cd_es cd_two (-10) (fun j => if j = 0 then f0 else if j = 1 then f1 else f2) (fun k => N (104 + 96 * t + k)) (cd_tn (cd_rem (N (76 + 2 * t)) (nI 1000)))).2 0
theorem d_M_two_0 : cd_D_iload b_M_two 0 0 1 := Or.inr ⟨0, ⟨by decide +kernel, rfl⟩, rfl⟩
theorem d_M_two_1 : decode b_M_two 1 = .ok (.tableswitch (120) (-8) (-1) #[116, 112, 108, 97, 86, 75, 61, 47], 47) := by decide +kernel
theorem d_M_two_48 : cd_D_iload b_M_two 48 1 49 := Or.inr ⟨1, ⟨by decide +kernel, rfl⟩, rfl⟩
theorem d_M_two_49 : cd_D_if_ne b_M_two 49 56 52 := ⟨7, by decide +kernel, by decide, rfl⟩
theorem d_M_two_52 : cd_D_iload b_M_two 52 2 53 := Or.inr ⟨2, ⟨by decide +kernel, rfl⟩, rfl⟩
theorem d_M_two_53 : cd_D_if_eq b_M_two 53 60 56 := ⟨7, by decide +kernel, by decide, rfl⟩
theorem d_M_two_56 : cd_Dk b_M_two 56 (nI 1) 57 := Or.inl ⟨1, ⟨by decide +kernel, rfl⟩, by decide +kernel⟩
theorem d_M_two_57 : cd_D_goto b_M_two 57 61 := ⟨4, by decide +kernel, by decide⟩
theorem d_M_two_60 : cd_Dk b_M_two 60 (nI 0) 61 := Or.inl ⟨0, ⟨by decide +kernel, rfl⟩, by decide +kernel⟩
theorem d_M_two_61 : cd_D 1 b_M_two 61 .ireturn 62 := ⟨by decide +kernel, rfl⟩
theorem d_M_two_62 : cd_D_iload b_M_two 62 1 63 := Or.inr ⟨1, ⟨by decide +kernel, rfl⟩, rfl⟩
theorem d_M_two_63 : cd_D_if_eq b_M_two 63 74 66 := ⟨11, by decide +kernel, by decide, rfl⟩
theorem d_M_two_66 : cd_D_iload b_M_two 66 2 67 := Or.inr ⟨2, ⟨by decide +kernel, rfl⟩, rfl⟩
theorem d_M_two_67 : cd_D_if_eq b_M_two 67 74 70 := ⟨7, by decide +kernel, by decide, rfl⟩
theorem d_M_two_70 : cd_Dk b_M_two 70 (nI 1) 71 := Or.inl ⟨1, ⟨by decide +kernel, rfl⟩, by decide +kernel⟩
theorem d_M_two_71 : cd_D_goto b_M_two 71 75 := ⟨4, by decide +kernel, by decide⟩
theorem d_M_two_74 : cd_Dk b_M_two 74 (nI 0) 75 := Or.inl ⟨0, ⟨by decide +kernel, rfl⟩, by decide +kernel⟩
theorem d_M_two_75 : cd_D 1 b_M_two 75 .ireturn 76 := ⟨by decide +kernel, rfl⟩
theorem d_M_two_76 : cd_D_iload b_M_two 76 1 77 := Or.inr ⟨1, ⟨by decide +kernel, rfl⟩, rfl⟩
theorem d_M_two_77 : cd_D_iload b_M_two 77 2 78 := Or.inr ⟨2, ⟨by decide +kernel, rfl⟩, rfl⟩
theorem d_M_two_78 : cd_D_icmp_ge b_M_two 78 85 81 := ⟨7, by decide +kernel, by decide, rfl⟩
theorem d_M_two_81 : cd_Dk b_M_two 81 (nI 1) 82 := Or.inl ⟨1, ⟨by decide +kernel, rfl⟩, by decide +kernel⟩
theorem d_M_two_82 : cd_D_goto b_M_two 82 86 := ⟨4, by decide +kernel, by decide⟩
theorem d_M_two_85 : cd_Dk b_M_two 85 (nI 0) 86 := Or.inl ⟨0, ⟨by decide +kernel, rfl⟩, by decide +kernel⟩
theorem d_M_two_86 : cd_D 1 b_M_two 86 .ireturn 87 := ⟨by decide +kernel, rfl⟩
theorem d_M_two_87 : cd_D_iload b_M_two 87 1 88 := Or.inr ⟨1, ⟨by decide +kernel, rfl⟩, rfl⟩
theorem d_M_two_88 : cd_D_iload b_M_two 88 2 89 := Or.inr ⟨2, ⟨by decide +kernel, rfl⟩, rfl⟩
theorem d_M_two_89 : cd_D_icmp_ne b_M_two 89 96 92 := ⟨7, by decide +kernel, by decide, rfl⟩
theorem d_M_two_92 : cd_Dk b_M_two 92 (nI 1) 93 := Or.inl ⟨1, ⟨by decide +kernel, rfl⟩, by decide +kernel⟩
theorem d_M_two_93 : cd_D_goto b_M_two 93 97 := ⟨4, by decide +kernel, by decide⟩
theorem d_M_two_96 : cd_Dk b_M_two 96 (nI 0) 97 := Or.inl ⟨0, ⟨by decide +kernel, rfl⟩, by decide +kernel⟩
theorem d_M_two_97 : cd_D 1 b_M_two 97 .ireturn 98 := ⟨by decide +kernel, rfl⟩
theorem d_M_two_98 : cd_D_iload b_M_two 98 1 99 := Or.inr ⟨1, ⟨by decide +kernel, rfl⟩, rfl⟩
theorem d_M_two_99 : cd_D_iload b_M_two 99 2 100 := Or.inr ⟨2, ⟨by decide +kernel, rfl⟩, rfl⟩
theorem d_M_two_100 : cd_D_icmp_le b_M_two 100 107 103 := ⟨7, by decide +kernel, by decide, rfl⟩
theorem d_M_two_103 : cd_Dk b_M_two 103 (nI 1) 104 := Or.inl ⟨1, ⟨by decide +kernel, rfl⟩, by decide +kernel⟩
theorem d_M_two_104 : cd_D_goto b_M_two 104 108 := ⟨4, by decide +kernel, by decide⟩
theorem d_M_two_107 : cd_Dk b_M_two 107 (nI 0) 108 := Or.inl ⟨0, ⟨by decide +kernel, rfl⟩, by decide +kernel⟩
theorem d_M_two_108 : cd_D 1 b_M_two 108 .ireturn 109 := ⟨by decide +kernel, rfl⟩
theorem d_M_two_109 : cd_D_iload b_M_two 109 1 110 := Or.inr ⟨1, ⟨by decide +kernel, rfl⟩, rfl⟩
theorem d_M_two_110 : cd_D_iload b_M_two 110 2 111 := Or.inr ⟨2, ⟨by decide +kernel, rfl⟩, rfl⟩
theorem d_M_two_111 : cd_D 1 b_M_two 111 .iadd 112 := ⟨by decide +kernel, rfl⟩
theorem d_M_two_112 : cd_D 1 b_M_two 112 .ireturn 113 := ⟨by decide +kernel, rfl⟩
theorem d_M_two_113 : cd_D_iload b_M_two 113 1 114 := Or.inr ⟨1, ⟨by decide +kernel, rfl⟩, rfl⟩
theorem d_M_two_114 : cd_D_iload b_M_two 114 2 115 := Or.inr ⟨2, ⟨by decide +kernel, rfl⟩, rfl⟩
theorem d_M_two_115 : cd_D 1 b_M_two 115 .isub 116 := ⟨by decide +kernel, rfl⟩
theorem d_M_two_116 : cd_D 1 b_M_two 116 .ireturn 117 := ⟨by decide +kernel, rfl⟩
theorem d_M_two_117 : cd_D_iload b_M_two 117 1 118 := Or.inr ⟨1, ⟨by decide +kernel, rfl⟩, rfl⟩
theorem d_M_two_118 : cd_D_iload b_M_two 118 2 119 := Or.inr ⟨2, ⟨by decide +kernel, rfl⟩, rfl⟩
theorem d_M_two_119 : cd_D 1 b_M_two 119 .imul 120 := ⟨by decide +kernel, rfl⟩
theorem d_M_two_120 : cd_D 1 b_M_two 120 .ireturn 121 := ⟨by decide +kernel, rfl⟩
theorem d_M_two_121 : cd_D_iload b_M_two 121 2 122 := Or.inr ⟨2, ⟨by decide +kernel, rfl⟩, rfl⟩
theorem d_M_two_122 : cd_D_if_ne b_M_two 122 129 125 := ⟨7, by decide +kernel, by decide, rfl⟩
theorem d_M_two_125 : cd_Dk b_M_two 125 (nI 0) 126 := Or.inl ⟨0, ⟨by decide +kernel, rfl⟩, by decide +kernel⟩
theorem d_M_two_126 : cd_D_goto b_M_two 126 132 := ⟨6, by decide +kernel, by decide⟩
theorem d_M_two_129 : cd_D_iload b_M_two 129 1 130 := Or.inr ⟨1, ⟨by decide +kernel, rfl⟩, rfl⟩
theorem d_M_two_130 : cd_D_iload b_M_two 130 2 131 := Or.inr ⟨2, ⟨by decide +kernel, rfl⟩, rfl⟩
theorem d_M_two_131 : cd_D 1 b_M_two 131 .idiv 132 := ⟨by decide +kernel, rfl⟩
theorem d_M_two_132 : cd_D 1 b_M_two 132 .ireturn 133 := ⟨by decide +kernel, rfl⟩
theorem c_M_two {l : Launch} {w : cd_WT} {S : cd_Sp} {I : cd_Mem} (s a b : Int32) : cd_C l w m_M_two 0 0 0 [.int s, .int a, .int b] S I (cd_Fi S (cd_two s a b) I) := by
  refine cd_intro (by decide) (by simp [Value.category]) (Nat.le_of_ble_eq_true rfl) ?_
  intro X hO hE
  show cd_J w X 0 0 S I 0 [some (.int s), some (.int a), some (.int b)] []
  refine r_iload hO d_M_two_0 rfl ?_
  by_cases c_1_m8 : s = (-8)
  · refine r_tabE hO d_M_two_1 c_1_m8 (off := 116) (by decide) (by decide) (by decide) (tgt := 117) (by decide) ?_
    refine r_iload hO d_M_two_117 rfl ?_
    refine r_iload hO d_M_two_118 rfl ?_
    refine r_imul hO d_M_two_119 ?_
    refine r_iret hO hE (Nat.zero_le _) (Nat.zero_le _) d_M_two_120 ?_
    exact ⟨by unfold cd_two cd_bI; (repeat' split) <;> first | rfl | contradiction | (exfalso; simp_all; done) | (exfalso; simp only [Int32.lt_iff_toInt_lt, Int32.le_iff_toInt_le] at *; omega), rfl, rfl⟩
  by_cases c_1_m7 : s = (-7)
  · refine r_tabE hO d_M_two_1 c_1_m7 (off := 112) (by decide) (by decide) (by decide) (tgt := 113) (by decide) ?_
    refine r_iload hO d_M_two_113 rfl ?_
    refine r_iload hO d_M_two_114 rfl ?_
    refine r_isub hO d_M_two_115 ?_
    refine r_iret hO hE (Nat.zero_le _) (Nat.zero_le _) d_M_two_116 ?_
    exact ⟨by unfold cd_two cd_bI; (repeat' split) <;> first | rfl | contradiction | (exfalso; simp_all; done) | (exfalso; simp only [Int32.lt_iff_toInt_lt, Int32.le_iff_toInt_le] at *; omega), rfl, rfl⟩
  by_cases c_1_m6 : s = (-6)
  · refine r_tabE hO d_M_two_1 c_1_m6 (off := 108) (by decide) (by decide) (by decide) (tgt := 109) (by decide) ?_
    refine r_iload hO d_M_two_109 rfl ?_
    refine r_iload hO d_M_two_110 rfl ?_
    refine r_iadd hO d_M_two_111 ?_
    refine r_iret hO hE (Nat.zero_le _) (Nat.zero_le _) d_M_two_112 ?_
    exact ⟨by unfold cd_two cd_bI; (repeat' split) <;> first | rfl | contradiction | (exfalso; simp_all; done) | (exfalso; simp only [Int32.lt_iff_toInt_lt, Int32.le_iff_toInt_le] at *; omega), rfl, rfl⟩
  by_cases c_1_m5 : s = (-5)
  · refine r_tabE hO d_M_two_1 c_1_m5 (off := 97) (by decide) (by decide) (by decide) (tgt := 98) (by decide) ?_
    refine r_iload hO d_M_two_98 rfl ?_
    refine r_iload hO d_M_two_99 rfl ?_
    refine r_icmp_le hO d_M_two_100 (fun c_100 => ?_) (fun c_100 => ?_)
    · refine r_k hO d_M_two_107 ?_
      refine r_iret hO hE (Nat.zero_le _) (Nat.zero_le _) d_M_two_108 ?_
      exact ⟨by unfold cd_two cd_bI; (repeat' split) <;> first | rfl | contradiction | (exfalso; simp_all; done) | (exfalso; simp only [Int32.lt_iff_toInt_lt, Int32.le_iff_toInt_le] at *; omega), rfl, rfl⟩
    · refine r_k hO d_M_two_103 ?_
      refine r_goto hO d_M_two_104 ?_
      refine r_iret hO hE (Nat.zero_le _) (Nat.zero_le _) d_M_two_108 ?_
      exact ⟨by unfold cd_two cd_bI; (repeat' split) <;> first | rfl | contradiction | (exfalso; simp_all; done) | (exfalso; simp only [Int32.lt_iff_toInt_lt, Int32.le_iff_toInt_le] at *; omega), rfl, rfl⟩
  by_cases c_1_m4 : s = (-4)
  · refine r_tabE hO d_M_two_1 c_1_m4 (off := 86) (by decide) (by decide) (by decide) (tgt := 87) (by decide) ?_
    refine r_iload hO d_M_two_87 rfl ?_
    refine r_iload hO d_M_two_88 rfl ?_
    refine r_icmp_ne hO d_M_two_89 (fun c_89 => ?_) (fun c_89 => ?_)
    · refine r_k hO d_M_two_96 ?_
      refine r_iret hO hE (Nat.zero_le _) (Nat.zero_le _) d_M_two_97 ?_
      exact ⟨by unfold cd_two cd_bI; (repeat' split) <;> first | rfl | contradiction | (exfalso; simp_all; done) | (exfalso; simp only [Int32.lt_iff_toInt_lt, Int32.le_iff_toInt_le] at *; omega), rfl, rfl⟩
    · refine r_k hO d_M_two_92 ?_
      refine r_goto hO d_M_two_93 ?_
      refine r_iret hO hE (Nat.zero_le _) (Nat.zero_le _) d_M_two_97 ?_
      exact ⟨by unfold cd_two cd_bI; (repeat' split) <;> first | rfl | contradiction | (exfalso; simp_all; done) | (exfalso; simp only [Int32.lt_iff_toInt_lt, Int32.le_iff_toInt_le] at *; omega), rfl, rfl⟩
  by_cases c_1_m3 : s = (-3)
  · refine r_tabE hO d_M_two_1 c_1_m3 (off := 75) (by decide) (by decide) (by decide) (tgt := 76) (by decide) ?_
    refine r_iload hO d_M_two_76 rfl ?_
    refine r_iload hO d_M_two_77 rfl ?_
    refine r_icmp_ge hO d_M_two_78 (fun c_78 => ?_) (fun c_78 => ?_)
    · refine r_k hO d_M_two_85 ?_
      refine r_iret hO hE (Nat.zero_le _) (Nat.zero_le _) d_M_two_86 ?_
      exact ⟨by unfold cd_two cd_bI; (repeat' split) <;> first | rfl | contradiction | (exfalso; simp_all; done) | (exfalso; simp only [Int32.lt_iff_toInt_lt, Int32.le_iff_toInt_le] at *; omega), rfl, rfl⟩
    · refine r_k hO d_M_two_81 ?_
      refine r_goto hO d_M_two_82 ?_
      refine r_iret hO hE (Nat.zero_le _) (Nat.zero_le _) d_M_two_86 ?_
      exact ⟨by unfold cd_two cd_bI; (repeat' split) <;> first | rfl | contradiction | (exfalso; simp_all; done) | (exfalso; simp only [Int32.lt_iff_toInt_lt, Int32.le_iff_toInt_le] at *; omega), rfl, rfl⟩
  by_cases c_1_m2 : s = (-2)
  · refine r_tabE hO d_M_two_1 c_1_m2 (off := 61) (by decide) (by decide) (by decide) (tgt := 62) (by decide) ?_
    refine r_iload hO d_M_two_62 rfl ?_
    refine r_if_eq hO d_M_two_63 (fun c_63 => ?_) (fun c_63 => ?_)
    · refine r_k hO d_M_two_74 ?_
      refine r_iret hO hE (Nat.zero_le _) (Nat.zero_le _) d_M_two_75 ?_
      exact ⟨by unfold cd_two cd_bI; (repeat' split) <;> first | rfl | contradiction | (exfalso; simp_all; done) | (exfalso; simp only [Int32.lt_iff_toInt_lt, Int32.le_iff_toInt_le] at *; omega), rfl, rfl⟩
    · refine r_iload hO d_M_two_66 rfl ?_
      refine r_if_eq hO d_M_two_67 (fun c_67 => ?_) (fun c_67 => ?_)
      · refine r_k hO d_M_two_74 ?_
        refine r_iret hO hE (Nat.zero_le _) (Nat.zero_le _) d_M_two_75 ?_
        exact ⟨by unfold cd_two cd_bI; (repeat' split) <;> first | rfl | contradiction | (exfalso; simp_all; done) | (exfalso; simp only [Int32.lt_iff_toInt_lt, Int32.le_iff_toInt_le] at *; omega), rfl, rfl⟩
      · refine r_k hO d_M_two_70 ?_
        refine r_goto hO d_M_two_71 ?_
        refine r_iret hO hE (Nat.zero_le _) (Nat.zero_le _) d_M_two_75 ?_
        exact ⟨by unfold cd_two cd_bI; (repeat' split) <;> first | rfl | contradiction | (exfalso; simp_all; done) | (exfalso; simp only [Int32.lt_iff_toInt_lt, Int32.le_iff_toInt_le] at *; omega), rfl, rfl⟩
  by_cases c_1_m1 : s = (-1)
  · refine r_tabE hO d_M_two_1 c_1_m1 (off := 47) (by decide) (by decide) (by decide) (tgt := 48) (by decide) ?_
    refine r_iload hO d_M_two_48 rfl ?_
    refine r_if_ne hO d_M_two_49 (fun c_49 => ?_) (fun c_49 => ?_)
    · refine r_k hO d_M_two_56 ?_
      refine r_goto hO d_M_two_57 ?_
      refine r_iret hO hE (Nat.zero_le _) (Nat.zero_le _) d_M_two_61 ?_
      exact ⟨by unfold cd_two cd_bI; (repeat' split) <;> first | rfl | contradiction | (exfalso; simp_all; done) | (exfalso; simp only [Int32.lt_iff_toInt_lt, Int32.le_iff_toInt_le] at *; omega), rfl, rfl⟩
    · refine r_iload hO d_M_two_52 rfl ?_
      refine r_if_eq hO d_M_two_53 (fun c_53 => ?_) (fun c_53 => ?_)
      · refine r_k hO d_M_two_60 ?_
        refine r_iret hO hE (Nat.zero_le _) (Nat.zero_le _) d_M_two_61 ?_
        exact ⟨by unfold cd_two cd_bI; (repeat' split) <;> first | rfl | contradiction | (exfalso; simp_all; done) | (exfalso; simp only [Int32.lt_iff_toInt_lt, Int32.le_iff_toInt_le] at *; omega), rfl, rfl⟩
      · refine r_k hO d_M_two_56 ?_
        refine r_goto hO d_M_two_57 ?_
        refine r_iret hO hE (Nat.zero_le _) (Nat.zero_le _) d_M_two_61 ?_
        exact ⟨by unfold cd_two cd_bI; (repeat' split) <;> first | rfl | contradiction | (exfalso; simp_all; done) | (exfalso; simp only [Int32.lt_iff_toInt_lt, Int32.le_iff_toInt_le] at *; omega), rfl, rfl⟩
  refine r_tabN hO d_M_two_1 (by decide) (fun j hj => ?_) (tgt := 121) (by decide) ?_
  · have hj2 : j < 8 := hj
    rcases (show j = 0 ∨ j = 1 ∨ j = 2 ∨ j = 3 ∨ j = 4 ∨ j = 5 ∨ j = 6 ∨ j = 7 by omega) with rfl | rfl | rfl | rfl | rfl | rfl | rfl | rfl
    · exact Or.inl (fun e => c_1_m8 (e.trans (by decide)))
    · exact Or.inl (fun e => c_1_m7 (e.trans (by decide)))
    · exact Or.inl (fun e => c_1_m6 (e.trans (by decide)))
    · exact Or.inl (fun e => c_1_m5 (e.trans (by decide)))
    · exact Or.inl (fun e => c_1_m4 (e.trans (by decide)))
    · exact Or.inl (fun e => c_1_m3 (e.trans (by decide)))
    · exact Or.inl (fun e => c_1_m2 (e.trans (by decide)))
    · exact Or.inl (fun e => c_1_m1 (e.trans (by decide)))
  refine r_iload hO d_M_two_121 rfl ?_
  refine r_if_ne hO d_M_two_122 (fun c_122 => ?_) (fun c_122 => ?_)
  · refine r_iload hO d_M_two_129 rfl ?_
    refine r_iload hO d_M_two_130 rfl ?_
    refine r_idiv hO d_M_two_131 c_122 ?_
    refine r_iret hO hE (Nat.zero_le _) (Nat.zero_le _) d_M_two_132 ?_
    exact ⟨by unfold cd_two cd_bI; (repeat' split) <;> first | rfl | contradiction | (exfalso; simp_all; done) | (exfalso; simp only [Int32.lt_iff_toInt_lt, Int32.le_iff_toInt_le] at *; omega), rfl, rfl⟩
  · refine r_k hO d_M_two_125 ?_
    refine r_goto hO d_M_two_126 ?_
    refine r_iret hO hE (Nat.zero_le _) (Nat.zero_le _) d_M_two_132 ?_
    exact ⟨by unfold cd_two cd_bI; (repeat' split) <;> first | rfl | contradiction | (exfalso; simp_all; done) | (exfalso; simp only [Int32.lt_iff_toInt_lt, Int32.le_iff_toInt_le] at *; omega), rfl, rfl⟩
theorem d_M_isSheet_0 : cd_D_iload b_M_isSheet 0 0 1 := Or.inr ⟨0, ⟨by decide +kernel, rfl⟩, rfl⟩
theorem d_M_isSheet_1 : cd_Dk b_M_isSheet 1 (nI 0) 2 := Or.inl ⟨0, ⟨by decide +kernel, rfl⟩, by decide +kernel⟩
theorem d_M_isSheet_2 : cd_Dk b_M_isSheet 2 (nI 3) 3 := Or.inl ⟨3, ⟨by decide +kernel, rfl⟩, by decide +kernel⟩
theorem d_M_isSheet_3 : cd_D 3 b_M_isSheet 3 (.invokestatic 75) 6 := ⟨by decide +kernel, rfl⟩
theorem d_M_isSheet_6 : cd_D 1 b_M_isSheet 6 .ireturn 7 := ⟨by decide +kernel, rfl⟩
theorem c_M_isSheet {l : Launch} {w : cd_WT} {S : cd_Sp} {I : cd_Mem} (v : Int32) : cd_C l w m_M_isSheet 1 0 0 [.int v] S I (cd_Fi S (cd_bI (nI 0 ≤ v ∧ v ≤ nI 3)) I) := by
  refine cd_intro (by decide) (by simp [Value.category]) (Nat.le_of_ble_eq_true rfl) ?_
  intro X hO hE
  show cd_J w X 0 0 S I 0 [some (.int v)] []
  refine r_iload hO d_M_isSheet_0 rfl ?_
  refine r_k hO d_M_isSheet_1 ?_
  refine r_k hO d_M_isSheet_2 ?_
  refine r_cS3fi hO hE (c_M_in _ _ _) mf_M_in lk_M_75 (by decide) rfl (Nat.le_of_ble_eq_true rfl) d_M_isSheet_3 (Nat.zero_le _) (Nat.zero_le _) ?_
  refine r_zret hO hE (by unfold cd_bI; split; exact Or.inr rfl; exact Or.inl rfl) (Nat.zero_le _) (Nat.zero_le _) d_M_isSheet_6 ?_
  exact ⟨rfl, rfl, rfl⟩
theorem d_M_isSlot_0 : cd_D_iload b_M_isSlot 0 0 1 := Or.inr ⟨0, ⟨by decide +kernel, rfl⟩, rfl⟩
theorem d_M_isSlot_1 : cd_Dk b_M_isSlot 1 (nI 0) 2 := Or.inl ⟨0, ⟨by decide +kernel, rfl⟩, by decide +kernel⟩
theorem d_M_isSlot_2 : cd_Dk b_M_isSlot 2 (nI 4) 3 := Or.inl ⟨4, ⟨by decide +kernel, rfl⟩, by decide +kernel⟩
theorem d_M_isSlot_3 : cd_D 3 b_M_isSlot 3 (.invokestatic 75) 6 := ⟨by decide +kernel, rfl⟩
theorem d_M_isSlot_6 : cd_D 1 b_M_isSlot 6 .ireturn 7 := ⟨by decide +kernel, rfl⟩
theorem c_M_isSlot {l : Launch} {w : cd_WT} {S : cd_Sp} {I : cd_Mem} (v : Int32) : cd_C l w m_M_isSlot 1 0 0 [.int v] S I (cd_Fi S (cd_bI (nI 0 ≤ v ∧ v ≤ nI 4)) I) := by
  refine cd_intro (by decide) (by simp [Value.category]) (Nat.le_of_ble_eq_true rfl) ?_
  intro X hO hE
  show cd_J w X 0 0 S I 0 [some (.int v)] []
  refine r_iload hO d_M_isSlot_0 rfl ?_
  refine r_k hO d_M_isSlot_1 ?_
  refine r_k hO d_M_isSlot_2 ?_
  refine r_cS3fi hO hE (c_M_in _ _ _) mf_M_in lk_M_75 (by decide) rfl (Nat.le_of_ble_eq_true rfl) d_M_isSlot_3 (Nat.zero_le _) (Nat.zero_le _) ?_
  refine r_zret hO hE (by unfold cd_bI; split; exact Or.inr rfl; exact Or.inl rfl) (Nat.zero_le _) (Nat.zero_le _) d_M_isSlot_6 ?_
  exact ⟨rfl, rfl, rfl⟩
theorem d_M_counts_0 : cd_D_aload b_M_counts 0 0 1 := Or.inr ⟨0, ⟨by decide +kernel, rfl⟩, rfl⟩
theorem d_M_counts_1 : cd_D 3 b_M_counts 1 (.getfield 9) 4 := ⟨by decide +kernel, rfl⟩
theorem d_M_counts_4 : cd_Dk b_M_counts 4 (nI 15) 6 := Or.inr (Or.inl ⟨15, ⟨by decide +kernel, rfl⟩, by decide +kernel⟩)
theorem d_M_counts_6 : cd_D 1 b_M_counts 6 .iaload 7 := ⟨by decide +kernel, rfl⟩
theorem d_M_counts_7 : cd_Dk b_M_counts 7 (nI 1) 8 := Or.inl ⟨1, ⟨by decide +kernel, rfl⟩, by decide +kernel⟩
theorem d_M_counts_8 : cd_D 1 b_M_counts 8 .isub 9 := ⟨by decide +kernel, rfl⟩
theorem d_M_counts_9 : cd_D_istore b_M_counts 9 2 10 := Or.inr ⟨2, ⟨by decide +kernel, rfl⟩, rfl⟩
theorem d_M_counts_10 : cd_D_iload b_M_counts 10 2 11 := Or.inr ⟨2, ⟨by decide +kernel, rfl⟩, rfl⟩
theorem d_M_counts_11 : cd_D_if_lt b_M_counts 11 41 14 := ⟨30, by decide +kernel, by decide, rfl⟩
theorem d_M_counts_14 : cd_D_aload b_M_counts 14 0 15 := Or.inr ⟨0, ⟨by decide +kernel, rfl⟩, rfl⟩
theorem d_M_counts_15 : cd_D 3 b_M_counts 15 (.getfield 9) 18 := ⟨by decide +kernel, rfl⟩
theorem d_M_counts_18 : cd_Dk b_M_counts 18 (nI 76) 20 := Or.inr (Or.inl ⟨76, ⟨by decide +kernel, rfl⟩, by decide +kernel⟩)
theorem d_M_counts_20 : cd_Dk b_M_counts 20 (nI 2) 21 := Or.inl ⟨2, ⟨by decide +kernel, rfl⟩, by decide +kernel⟩
theorem d_M_counts_21 : cd_D_iload b_M_counts 21 2 22 := Or.inr ⟨2, ⟨by decide +kernel, rfl⟩, rfl⟩
theorem d_M_counts_22 : cd_D 1 b_M_counts 22 .imul 23 := ⟨by decide +kernel, rfl⟩
theorem d_M_counts_23 : cd_D 1 b_M_counts 23 .iadd 24 := ⟨by decide +kernel, rfl⟩
theorem d_M_counts_24 : cd_D 1 b_M_counts 24 .iaload 25 := ⟨by decide +kernel, rfl⟩
theorem d_M_counts_25 : cd_Dk b_M_counts 25 (nI 1000) 28 := Or.inr (Or.inr ⟨1000, ⟨by decide +kernel, rfl⟩, by decide +kernel⟩)
theorem d_M_counts_28 : cd_D 1 b_M_counts 28 .idiv 29 := ⟨by decide +kernel, rfl⟩
theorem d_M_counts_29 : cd_D_iload b_M_counts 29 1 30 := Or.inr ⟨1, ⟨by decide +kernel, rfl⟩, rfl⟩
theorem d_M_counts_30 : cd_D_icmp_ne b_M_counts 30 35 33 := ⟨5, by decide +kernel, by decide, rfl⟩
theorem d_M_counts_33 : cd_D_iload b_M_counts 33 2 34 := Or.inr ⟨2, ⟨by decide +kernel, rfl⟩, rfl⟩
theorem d_M_counts_34 : cd_D 1 b_M_counts 34 .ireturn 35 := ⟨by decide +kernel, rfl⟩
theorem d_M_counts_35 : cd_D 3 b_M_counts 35 (.iinc 2 (-1)) 38 := ⟨by decide +kernel, rfl⟩
theorem d_M_counts_38 : cd_D_goto b_M_counts 38 10 := ⟨-28, by decide +kernel, by decide⟩
theorem d_M_counts_41 : cd_Dk b_M_counts 41 (-1) 42 := Or.inl ⟨-1, ⟨by decide +kernel, rfl⟩, by decide +kernel⟩
theorem d_M_counts_42 : cd_D 1 b_M_counts 42 .ireturn 43 := ⟨by decide +kernel, rfl⟩
theorem c_M_counts {l : Launch} {w : cd_WT} {S : cd_Sp} {I : cd_Mem} {m : Nat} (hM : cd_MO w S m) (tc : Nat) (hN : I (m + 1) 15 = nI tc) (ht : tc ≤ 14) (key : Int32) : cd_C l w m_M_counts 0 0 0 [.ref m, .int key] S I (cd_Fi S (cd_cnt (I (m + 1)) key tc) I) := by
  refine cd_intro (by decide) (by simp [Value.category]) (Nat.le_of_ble_eq_true rfl) ?_
  intro X hO hE
  show cd_J w X 0 0 S I 0 [some (.ref m), some (.int key), none] []
  have loop : ∀ j, j ≤ tc → cd_cnt (I (m + 1)) key j = cd_cnt (I (m + 1)) key tc → cd_J w X 0 0 S I 10 [some (.ref m), some (.int key), some (.int (nI j - nI 1))] [] := by
    intro j
    induction j with
    | zero =>
      intro _ hV
      refine r_iload hO d_M_counts_10 rfl ?_
      refine r_if_lt hO d_M_counts_11 (fun c_11 => ?_) (fun c_11 => ?_)
      · refine r_k hO d_M_counts_41 ?_
        refine r_iret hO hE (Nat.zero_le _) (Nat.zero_le _) d_M_counts_42 ?_
        exact ⟨by rw [← hV]; rfl, rfl, rfl⟩
      · exact absurd (by decide) c_11
    | succ j ih =>
      intro hj hV
      rw [show nI (j + 1) - nI 1 = nI j from nI_pred j]
      refine r_iload hO d_M_counts_10 rfl ?_
      refine r_if_lt hO d_M_counts_11 (fun c_11 => ?_) (fun c_11 => ?_)
      · exact absurd c_11 (nI_pos (by omega))
      · refine r_aload hO d_M_counts_14 rfl ?_
        refine r_getR hO f_M_9 rfl hM.2.1 (mo_r1 hM) d_M_counts_15 ?_
        refine r_k hO d_M_counts_18 ?_
        refine r_k hO d_M_counts_20 ?_
        refine r_iload hO d_M_counts_21 rfl ?_
        refine r_imulN hO d_M_counts_22 ?_
        refine r_iaddN hO d_M_counts_23 ?_
        refine r_iald hO (mo_s1 hM) (by omega) (by decide) d_M_counts_24 ?_
        refine r_k hO d_M_counts_25 ?_
        refine r_idiv hO d_M_counts_28 (by decide) ?_
        refine r_iload hO d_M_counts_29 rfl ?_
        refine r_icmp_ne hO d_M_counts_30 (fun c_30 => ?_) (fun c_30 => ?_)
        · refine r_inc2 hO d_M_counts_35 (show nI j + Int32.ofInt (-1) = nI j - nI 1 by rw [Int32.sub_eq_add_neg]; rfl) rfl ?_
          refine r_goto hO d_M_counts_38 ?_
          exact ih (by omega) (by rw [← hV]; exact (show cd_cnt (I (m + 1)) key (j + 1) = cd_cnt (I (m + 1)) key j from if_neg c_30).symm)
        · refine r_iload hO d_M_counts_33 rfl ?_
          refine r_iret hO hE (Nat.zero_le _) (Nat.zero_le _) d_M_counts_34 ?_
          exact ⟨by rw [← hV]; unfold cd_cnt; rw [if_pos c_30], rfl, rfl⟩
  refine r_aload hO d_M_counts_0 rfl ?_
  refine r_getR hO f_M_9 rfl hM.2.1 (mo_r1 hM) d_M_counts_1 ?_
  refine r_k hO d_M_counts_4 ?_
  refine r_iald hO (mo_s1 hM) (by omega) (by decide) d_M_counts_6 ?_
  refine r_tops hN ?_
  refine r_k hO d_M_counts_7 ?_
  refine r_isub hO d_M_counts_8 ?_
  refine r_sI2 hO d_M_counts_9 rfl ?_
  exact loop tc (Nat.le_refl _) rfl
