theorem px_hide {w : cd_WT} {X : cd_XT} {k n : Nat} {S : cd_Sp} {I : cd_Mem} {pc : Nat} {lv : List (Option Value)} {st : List Value} (P : cd_Sp → cd_Mem → Prop) (h : P S I) (kk : ∀ S I, P S I → cd_J w X k n S I pc lv st) : cd_J w X k n S I pc lv st := kk S I h
/-- what a new row of the reference holds -/
def px_mi (a k : Nat) : Int32 := if a = 6 then nI (px_kc k) else if a = 7 then nI (px_ka k) else if a = 13 then -1 else nI 0
/-- the reference in the making: j rows stand -/
def px_MI (w : cd_WT) (S S2 : cd_Sp) (I I2 : cd_Mem) (m j : Nat) : Prop := S2.1 = S.1 + j ∧ S2.2.1 m = (1, 7) ∧ (∀ b, b < m ∨ m + j < b → S2.2.1 b = S.2.1 b ∧ S2.2.2 b = S.2.2 b ∧ I2 b = I b) ∧ I2 m = I m ∧ ∀ q ∈ cd_mt.take j, (S2.2.2 m q.1 = some (m + q.2.1) ∧ S2.2.1 (m + q.2.1) = q.2.2) ∧ ∀ k, k < q.2.2.2 → I2 (m + q.2.1) k = px_mi q.2.1 k
theorem cd_mt_take : ∀ j, j < 21 → ∀ q', cd_mt[j]? = some q' → q'.2.1 = j + 1 ∧ cd_mt.take (j + 1) = cd_mt.take j ++ [q'] ∧ ∀ q ∈ cd_mt.take j, q.1 ≠ q'.1 ∧ q.2.1 ≤ j ∧ 1 ≤ q.2.1 := by
  intro j hj q' hq
  have key : ∀ j, j < 21 → (cd_mt.getD j (0, 0, 0, 0)).2.1 = j + 1 ∧ cd_mt.take (j + 1) = cd_mt.take j ++ [cd_mt.getD j (0, 0, 0, 0)] ∧ ∀ q ∈ cd_mt.take j, q.1 ≠ (cd_mt.getD j (0, 0, 0, 0)).1 ∧ q.2.1 ≤ j ∧ 1 ≤ q.2.1 := by decide +kernel
  have k := key j hj
  have e : cd_mt.getD j (0, 0, 0, 0) = q' := by rw [List.getD_eq_getElem?_getD, hq]; rfl
  rw [e] at k
  exact k
theorem px_MI.step {w : cd_WT} {S S2 : cd_Sp} {I I2 : cd_Mem} {m j a : Nat} {q' : Nat × Nat × Nat × Nat} {R : Nat → Int32} (H : px_MI w S S2 I I2 m j) (hj : j < 21) (hq : cd_mt[j]? = some q') (ha : a = m + (j + 1)) (hR : ∀ k, k < q'.2.2.2 → R k = px_mi (j + 1) k) : px_MI w S (cd_sr (cd_al S2 a q'.2.2) m q'.1 a) I (cd_set I2 a R) m (j + 1) := by
  subst ha
  obtain ⟨a1, a2, a3, a4, a5⟩ := H
  obtain ⟨t1, t2, t3⟩ := cd_mt_take j hj q' hq
  refine ⟨by show S2.1 + 1 = _; omega, by rw [cd_sr_s, cd_al_n (by omega)]; exact a2, fun b hb => ?_, by rw [cd_set_ne _ _ (by omega)]; exact a4, fun q hq => ?_⟩
  · rw [cd_sr_s, cd_sr_n (by omega), cd_al_n (by omega), cd_al_rn (by omega), cd_set_ne _ _ (by omega)]; exact a3 b (by omega)
  · rw [t2] at hq
    rcases List.mem_append.1 hq with hq | hq
    · obtain ⟨u1, u2, u3⟩ := t3 q hq
      rw [cd_sr_o u1, cd_al_rn (by omega), cd_sr_s, cd_al_n (by omega), cd_set_ne _ _ (by omega)]
      exact a5 q hq
    · have hq := List.mem_singleton.1 hq
      subst hq
      rw [t1, cd_sr_e, cd_sr_s, cd_al_e, cd_set_eq]
      exact ⟨⟨rfl, rfl⟩, hR⟩
theorem px_MI.mo {w : cd_WT} {S S2 : cd_Sp} {I I2 : cd_Mem} {m : Nat} (H : px_MI w S S2 I I2 m 21) (hl : w.1 ≤ m) : cd_MO w S2 m := ⟨hl, H.2.1, fun q hq => (H.2.2.2.2 q (by rw [show cd_mt.take 21 = cd_mt from rfl]; exact hq)).1⟩
def px_n0 (k : Nat) : Int32 := if k = 0 then nI 1 else if k = 3 then nI 50 else if k = 4 then nI 20 else if k = 5 then nI 10 else nI 0
/-- a new reference -/
def px_MN (w : cd_WT) (S S2 : cd_Sp) (I I2 : cd_Mem) (m : Nat) : Prop := S2.1 = S.1 + 21 ∧ cd_MO w S2 m ∧ (∀ b, b < m ∨ m + 21 < b → S2.2.1 b = S.2.1 b ∧ S2.2.2 b = S.2.2 b ∧ I2 b = I b) ∧ I2 m = I m ∧ (∀ k, k < 1448 → I2 (m + 1) k = px_n0 k) ∧ ∀ q ∈ cd_mt, q.2.1 ≠ 1 → ∀ k, k < q.2.2.2 → I2 (m + q.2.1) k = px_mi q.2.1 k
theorem px_MI.fin {w : cd_WT} {S S2 : cd_Sp} {I I2 : cd_Mem} {m : Nat} (H : px_MI w S S2 I I2 m 21) (hl : w.1 ≤ m) : px_MN w S S2 I (cd_set I2 (m + 1) (upd (upd (upd (upd (I2 (m + 1)) 0 (nI 1)) 3 (nI 50)) 4 (nI 20)) 5 (nI 10))) m := by
  have hm := H.mo hl
  obtain ⟨a1, a2, a3, a4, a5⟩ := H
  have e : cd_mt.take 21 = cd_mt := rfl
  rw [e] at a5
  have t : ∀ q ∈ cd_mt, 1 ≤ q.2.1 ∧ q.2.1 ≤ 21 := by decide
  refine ⟨a1, hm, fun b hb => ?_, ?_, fun k hk => ?_, fun q hq h1 k hk => ?_⟩
  · rw [cd_set_ne _ _ (by omega)]; exact a3 b (by omega)
  · rw [cd_set_ne _ _ (by omega)]; exact a4
  · rw [cd_set_eq]
    have z : I2 (m + 1) k = nI 0 := (a5 (0, 1, 2, 1448) (by decide)).2 k hk
    unfold px_n0
    by_cases k0 : k = 0
    · subst k0; rfl
    by_cases k3 : k = 3
    · subst k3; rfl
    by_cases k4 : k = 4
    · subst k4; rfl
    by_cases k5 : k = 5
    · subst k5; rfl
    simp only [upd, if_neg k5, if_neg k4, if_neg k3, if_neg k0]; try rw [if_neg k0, if_neg k3, if_neg k4, if_neg k5]
    exact z
  · rw [cd_set_ne _ _ (by omega)]; exact (a5 q hq).2 k hk
theorem d_M_init_0 : cd_D_aload b_M_init 0 0 1 := Or.inr ⟨0, ⟨by decide +kernel, rfl⟩, rfl⟩
theorem d_M_init_1 : cd_D 3 b_M_init 1 (.invokespecial 1) 4 := ⟨by decide +kernel, rfl⟩
theorem d_M_init_4 : cd_D_aload b_M_init 4 0 5 := Or.inr ⟨0, ⟨by decide +kernel, rfl⟩, rfl⟩
theorem d_M_init_5 : cd_Dk b_M_init 5 (nI 1448) 8 := Or.inr (Or.inr ⟨1448, ⟨by decide +kernel, rfl⟩, by decide +kernel⟩)
theorem d_M_init_8 : cd_D 2 b_M_init 8 (.newarray .int) 10 := ⟨by decide +kernel, rfl⟩
theorem d_M_init_10 : cd_D 3 b_M_init 10 (.putfield 9) 13 := ⟨by decide +kernel, rfl⟩
theorem d_M_init_13 : cd_D_aload b_M_init 13 0 14 := Or.inr ⟨0, ⟨by decide +kernel, rfl⟩, rfl⟩
theorem d_M_init_14 : cd_Dk b_M_init 14 (nI 1448) 17 := Or.inr (Or.inr ⟨1448, ⟨by decide +kernel, rfl⟩, by decide +kernel⟩)
theorem d_M_init_17 : cd_D 2 b_M_init 17 (.newarray .int) 19 := ⟨by decide +kernel, rfl⟩
theorem d_M_init_19 : cd_D 3 b_M_init 19 (.putfield 13) 22 := ⟨by decide +kernel, rfl⟩
theorem d_M_init_22 : cd_D_aload b_M_init 22 0 23 := Or.inr ⟨0, ⟨by decide +kernel, rfl⟩, rfl⟩
theorem d_M_init_23 : cd_Dk b_M_init 23 (nI 1448) 26 := Or.inr (Or.inr ⟨1448, ⟨by decide +kernel, rfl⟩, by decide +kernel⟩)
theorem d_M_init_26 : cd_D 2 b_M_init 26 (.newarray .int) 28 := ⟨by decide +kernel, rfl⟩
theorem d_M_init_28 : cd_D 3 b_M_init 28 (.putfield 16) 31 := ⟨by decide +kernel, rfl⟩
theorem d_M_init_31 : cd_D_aload b_M_init 31 0 32 := Or.inr ⟨0, ⟨by decide +kernel, rfl⟩, rfl⟩
theorem d_M_init_32 : cd_Dk b_M_init 32 (nI 76) 34 := Or.inr (Or.inl ⟨76, ⟨by decide +kernel, rfl⟩, by decide +kernel⟩)
theorem d_M_init_34 : cd_D 2 b_M_init 34 (.newarray .int) 36 := ⟨by decide +kernel, rfl⟩
theorem d_M_init_36 : cd_D 3 b_M_init 36 (.putfield 19) 39 := ⟨by decide +kernel, rfl⟩
theorem d_M_init_39 : cd_D_aload b_M_init 39 0 40 := Or.inr ⟨0, ⟨by decide +kernel, rfl⟩, rfl⟩
theorem d_M_init_40 : cd_Dk b_M_init 40 (nI 96) 42 := Or.inr (Or.inl ⟨96, ⟨by decide +kernel, rfl⟩, by decide +kernel⟩)
theorem d_M_init_42 : cd_D 2 b_M_init 42 (.newarray .int) 44 := ⟨by decide +kernel, rfl⟩
theorem d_M_init_44 : cd_D 3 b_M_init 44 (.putfield 22) 47 := ⟨by decide +kernel, rfl⟩
theorem d_M_init_47 : cd_D_aload b_M_init 47 0 48 := Or.inr ⟨0, ⟨by decide +kernel, rfl⟩, rfl⟩
theorem d_M_init_48 : cd_Dk b_M_init 48 (nI 12) 50 := Or.inr (Or.inl ⟨12, ⟨by decide +kernel, rfl⟩, by decide +kernel⟩)
theorem d_M_init_50 : cd_D 2 b_M_init 50 (.newarray .char) 52 := ⟨by decide +kernel, rfl⟩
theorem d_M_init_52 : cd_D 1 b_M_init 52 .dup 53 := ⟨by decide +kernel, rfl⟩
theorem d_M_init_53 : cd_Dk b_M_init 53 (nI 0) 54 := Or.inl ⟨0, ⟨by decide +kernel, rfl⟩, by decide +kernel⟩
theorem d_M_init_54 : cd_Dk b_M_init 54 (nI 112) 56 := Or.inr (Or.inl ⟨112, ⟨by decide +kernel, rfl⟩, by decide +kernel⟩)
theorem d_M_init_56 : cd_D 1 b_M_init 56 .castore 57 := ⟨by decide +kernel, rfl⟩
theorem d_M_init_57 : cd_D 1 b_M_init 57 .dup 58 := ⟨by decide +kernel, rfl⟩
theorem d_M_init_58 : cd_Dk b_M_init 58 (nI 1) 59 := Or.inl ⟨1, ⟨by decide +kernel, rfl⟩, by decide +kernel⟩
theorem d_M_init_59 : cd_Dk b_M_init 59 (nI 114) 61 := Or.inr (Or.inl ⟨114, ⟨by decide +kernel, rfl⟩, by decide +kernel⟩)
theorem d_M_init_61 : cd_D 1 b_M_init 61 .castore 62 := ⟨by decide +kernel, rfl⟩
theorem d_M_init_62 : cd_D 1 b_M_init 62 .dup 63 := ⟨by decide +kernel, rfl⟩
theorem d_M_init_63 : cd_Dk b_M_init 63 (nI 2) 64 := Or.inl ⟨2, ⟨by decide +kernel, rfl⟩, by decide +kernel⟩
theorem d_M_init_64 : cd_Dk b_M_init 64 (nI 101) 66 := Or.inr (Or.inl ⟨101, ⟨by decide +kernel, rfl⟩, by decide +kernel⟩)
theorem d_M_init_66 : cd_D 1 b_M_init 66 .castore 67 := ⟨by decide +kernel, rfl⟩
theorem d_M_init_67 : cd_D 1 b_M_init 67 .dup 68 := ⟨by decide +kernel, rfl⟩
theorem d_M_init_68 : cd_Dk b_M_init 68 (nI 3) 69 := Or.inl ⟨3, ⟨by decide +kernel, rfl⟩, by decide +kernel⟩
theorem d_M_init_69 : cd_Dk b_M_init 69 (nI 115) 71 := Or.inr (Or.inl ⟨115, ⟨by decide +kernel, rfl⟩, by decide +kernel⟩)
theorem d_M_init_71 : cd_D 1 b_M_init 71 .castore 72 := ⟨by decide +kernel, rfl⟩
theorem d_M_init_72 : cd_D 1 b_M_init 72 .dup 73 := ⟨by decide +kernel, rfl⟩
theorem d_M_init_73 : cd_Dk b_M_init 73 (nI 4) 74 := Or.inl ⟨4, ⟨by decide +kernel, rfl⟩, by decide +kernel⟩
theorem d_M_init_74 : cd_Dk b_M_init 74 (nI 115) 76 := Or.inr (Or.inl ⟨115, ⟨by decide +kernel, rfl⟩, by decide +kernel⟩)
theorem d_M_init_76 : cd_D 1 b_M_init 76 .castore 77 := ⟨by decide +kernel, rfl⟩
theorem d_M_init_77 : cd_D 1 b_M_init 77 .dup 78 := ⟨by decide +kernel, rfl⟩
theorem d_M_init_78 : cd_Dk b_M_init 78 (nI 5) 79 := Or.inl ⟨5, ⟨by decide +kernel, rfl⟩, by decide +kernel⟩
theorem d_M_init_79 : cd_Dk b_M_init 79 (nI 102) 81 := Or.inr (Or.inl ⟨102, ⟨by decide +kernel, rfl⟩, by decide +kernel⟩)
theorem d_M_init_81 : cd_D 1 b_M_init 81 .castore 82 := ⟨by decide +kernel, rfl⟩
theorem d_M_init_82 : cd_D 1 b_M_init 82 .dup 83 := ⟨by decide +kernel, rfl⟩
theorem d_M_init_83 : cd_Dk b_M_init 83 (nI 6) 85 := Or.inr (Or.inl ⟨6, ⟨by decide +kernel, rfl⟩, by decide +kernel⟩)
theorem d_M_init_85 : cd_Dk b_M_init 85 (nI 101) 87 := Or.inr (Or.inl ⟨101, ⟨by decide +kernel, rfl⟩, by decide +kernel⟩)
theorem d_M_init_87 : cd_D 1 b_M_init 87 .castore 88 := ⟨by decide +kernel, rfl⟩
theorem d_M_init_88 : cd_D 1 b_M_init 88 .dup 89 := ⟨by decide +kernel, rfl⟩
theorem d_M_init_89 : cd_Dk b_M_init 89 (nI 7) 91 := Or.inr (Or.inl ⟨7, ⟨by decide +kernel, rfl⟩, by decide +kernel⟩)
theorem d_M_init_91 : cd_Dk b_M_init 91 (nI 101) 93 := Or.inr (Or.inl ⟨101, ⟨by decide +kernel, rfl⟩, by decide +kernel⟩)
theorem d_M_init_93 : cd_D 1 b_M_init 93 .castore 94 := ⟨by decide +kernel, rfl⟩
theorem d_M_init_94 : cd_D 1 b_M_init 94 .dup 95 := ⟨by decide +kernel, rfl⟩
theorem d_M_init_95 : cd_Dk b_M_init 95 (nI 8) 97 := Or.inr (Or.inl ⟨8, ⟨by decide +kernel, rfl⟩, by decide +kernel⟩)
theorem d_M_init_97 : cd_Dk b_M_init 97 (nI 102) 99 := Or.inr (Or.inl ⟨102, ⟨by decide +kernel, rfl⟩, by decide +kernel⟩)
theorem d_M_init_99 : cd_D 1 b_M_init 99 .castore 100 := ⟨by decide +kernel, rfl⟩
theorem d_M_init_100 : cd_D 1 b_M_init 100 .dup 101 := ⟨by decide +kernel, rfl⟩
theorem d_M_init_101 : cd_Dk b_M_init 101 (nI 9) 103 := Or.inr (Or.inl ⟨9, ⟨by decide +kernel, rfl⟩, by decide +kernel⟩)
theorem d_M_init_103 : cd_Dk b_M_init 103 (nI 105) 105 := Or.inr (Or.inl ⟨105, ⟨by decide +kernel, rfl⟩, by decide +kernel⟩)
theorem d_M_init_105 : cd_D 1 b_M_init 105 .castore 106 := ⟨by decide +kernel, rfl⟩
theorem d_M_init_106 : cd_D 1 b_M_init 106 .dup 107 := ⟨by decide +kernel, rfl⟩
theorem d_M_init_107 : cd_Dk b_M_init 107 (nI 10) 109 := Or.inr (Or.inl ⟨10, ⟨by decide +kernel, rfl⟩, by decide +kernel⟩)
theorem d_M_init_109 : cd_Dk b_M_init 109 (nI 110) 111 := Or.inr (Or.inl ⟨110, ⟨by decide +kernel, rfl⟩, by decide +kernel⟩)
theorem d_M_init_111 : cd_D 1 b_M_init 111 .castore 112 := ⟨by decide +kernel, rfl⟩
theorem d_M_init_112 : cd_D 1 b_M_init 112 .dup 113 := ⟨by decide +kernel, rfl⟩
theorem d_M_init_113 : cd_Dk b_M_init 113 (nI 11) 115 := Or.inr (Or.inl ⟨11, ⟨by decide +kernel, rfl⟩, by decide +kernel⟩)
theorem d_M_init_115 : cd_Dk b_M_init 115 (nI 101) 117 := Or.inr (Or.inl ⟨101, ⟨by decide +kernel, rfl⟩, by decide +kernel⟩)
theorem d_M_init_117 : cd_D 1 b_M_init 117 .castore 118 := ⟨by decide +kernel, rfl⟩
theorem d_M_init_118 : cd_D 3 b_M_init 118 (.putfield 25) 121 := ⟨by decide +kernel, rfl⟩
theorem d_M_init_121 : cd_D_aload b_M_init 121 0 122 := Or.inr ⟨0, ⟨by decide +kernel, rfl⟩, rfl⟩
theorem d_M_init_122 : cd_Dk b_M_init 122 (nI 4) 123 := Or.inl ⟨4, ⟨by decide +kernel, rfl⟩, by decide +kernel⟩
theorem d_M_init_123 : cd_D 2 b_M_init 123 (.newarray .int) 125 := ⟨by decide +kernel, rfl⟩
theorem d_M_init_125 : cd_D 1 b_M_init 125 .dup 126 := ⟨by decide +kernel, rfl⟩
theorem d_M_init_126 : cd_Dk b_M_init 126 (nI 0) 127 := Or.inl ⟨0, ⟨by decide +kernel, rfl⟩, by decide +kernel⟩
theorem d_M_init_127 : cd_Dk b_M_init 127 (nI 0) 128 := Or.inl ⟨0, ⟨by decide +kernel, rfl⟩, by decide +kernel⟩
theorem d_M_init_128 : cd_D 1 b_M_init 128 .iastore 129 := ⟨by decide +kernel, rfl⟩
theorem d_M_init_129 : cd_D 1 b_M_init 129 .dup 130 := ⟨by decide +kernel, rfl⟩
theorem d_M_init_130 : cd_Dk b_M_init 130 (nI 1) 131 := Or.inl ⟨1, ⟨by decide +kernel, rfl⟩, by decide +kernel⟩
theorem d_M_init_131 : cd_Dk b_M_init 131 (nI 5) 132 := Or.inl ⟨5, ⟨by decide +kernel, rfl⟩, by decide +kernel⟩
theorem d_M_init_132 : cd_D 1 b_M_init 132 .iastore 133 := ⟨by decide +kernel, rfl⟩
theorem d_M_init_133 : cd_D 1 b_M_init 133 .dup 134 := ⟨by decide +kernel, rfl⟩
theorem d_M_init_134 : cd_Dk b_M_init 134 (nI 2) 135 := Or.inl ⟨2, ⟨by decide +kernel, rfl⟩, by decide +kernel⟩
theorem d_M_init_135 : cd_Dk b_M_init 135 (nI 8) 137 := Or.inr (Or.inl ⟨8, ⟨by decide +kernel, rfl⟩, by decide +kernel⟩)
theorem d_M_init_137 : cd_D 1 b_M_init 137 .iastore 138 := ⟨by decide +kernel, rfl⟩
theorem d_M_init_138 : cd_D 1 b_M_init 138 .dup 139 := ⟨by decide +kernel, rfl⟩
theorem d_M_init_139 : cd_Dk b_M_init 139 (nI 3) 140 := Or.inl ⟨3, ⟨by decide +kernel, rfl⟩, by decide +kernel⟩
theorem d_M_init_140 : cd_Dk b_M_init 140 (nI 12) 142 := Or.inr (Or.inl ⟨12, ⟨by decide +kernel, rfl⟩, by decide +kernel⟩)
theorem d_M_init_142 : cd_D 1 b_M_init 142 .iastore 143 := ⟨by decide +kernel, rfl⟩
theorem d_M_init_143 : cd_D 3 b_M_init 143 (.putfield 29) 146 := ⟨by decide +kernel, rfl⟩
theorem d_M_init_146 : cd_D_aload b_M_init 146 0 147 := Or.inr ⟨0, ⟨by decide +kernel, rfl⟩, rfl⟩
theorem d_M_init_147 : cd_Dk b_M_init 147 (nI 96) 149 := Or.inr (Or.inl ⟨96, ⟨by decide +kernel, rfl⟩, by decide +kernel⟩)
theorem d_M_init_149 : cd_D 2 b_M_init 149 (.newarray .int) 151 := ⟨by decide +kernel, rfl⟩
theorem d_M_init_151 : cd_D 3 b_M_init 151 (.putfield 32) 154 := ⟨by decide +kernel, rfl⟩
theorem d_M_init_154 : cd_D_aload b_M_init 154 0 155 := Or.inr ⟨0, ⟨by decide +kernel, rfl⟩, rfl⟩
theorem d_M_init_155 : cd_Dk b_M_init 155 (nI 96) 157 := Or.inr (Or.inl ⟨96, ⟨by decide +kernel, rfl⟩, by decide +kernel⟩)
theorem d_M_init_157 : cd_D 2 b_M_init 157 (.newarray .int) 159 := ⟨by decide +kernel, rfl⟩
theorem d_M_init_159 : cd_D 3 b_M_init 159 (.putfield 35) 162 := ⟨by decide +kernel, rfl⟩
theorem d_M_init_162 : cd_D_aload b_M_init 162 0 163 := Or.inr ⟨0, ⟨by decide +kernel, rfl⟩, rfl⟩
theorem d_M_init_163 : cd_Dk b_M_init 163 (nI 10) 165 := Or.inr (Or.inl ⟨10, ⟨by decide +kernel, rfl⟩, by decide +kernel⟩)
theorem d_M_init_165 : cd_D 2 b_M_init 165 (.newarray .boolean) 167 := ⟨by decide +kernel, rfl⟩
theorem d_M_init_167 : cd_D 3 b_M_init 167 (.putfield 38) 170 := ⟨by decide +kernel, rfl⟩
theorem d_M_init_170 : cd_D_aload b_M_init 170 0 171 := Or.inr ⟨0, ⟨by decide +kernel, rfl⟩, rfl⟩
theorem d_M_init_171 : cd_Dk b_M_init 171 (nI 96) 173 := Or.inr (Or.inl ⟨96, ⟨by decide +kernel, rfl⟩, by decide +kernel⟩)
theorem d_M_init_173 : cd_D 2 b_M_init 173 (.newarray .int) 175 := ⟨by decide +kernel, rfl⟩
theorem d_M_init_175 : cd_D 3 b_M_init 175 (.putfield 42) 178 := ⟨by decide +kernel, rfl⟩
theorem d_M_init_178 : cd_D_aload b_M_init 178 0 179 := Or.inr ⟨0, ⟨by decide +kernel, rfl⟩, rfl⟩
theorem d_M_init_179 : cd_Dk b_M_init 179 (nI 4) 180 := Or.inl ⟨4, ⟨by decide +kernel, rfl⟩, by decide +kernel⟩
theorem d_M_init_180 : cd_D 2 b_M_init 180 (.newarray .int) 182 := ⟨by decide +kernel, rfl⟩
theorem d_M_init_182 : cd_D 3 b_M_init 182 (.putfield 45) 185 := ⟨by decide +kernel, rfl⟩
theorem d_M_init_185 : cd_D_aload b_M_init 185 0 186 := Or.inr ⟨0, ⟨by decide +kernel, rfl⟩, rfl⟩
theorem d_M_init_186 : cd_Dk b_M_init 186 (nI 4) 187 := Or.inl ⟨4, ⟨by decide +kernel, rfl⟩, by decide +kernel⟩
theorem d_M_init_187 : cd_D 2 b_M_init 187 (.newarray .int) 189 := ⟨by decide +kernel, rfl⟩
theorem d_M_init_189 : cd_D 1 b_M_init 189 .dup 190 := ⟨by decide +kernel, rfl⟩
theorem d_M_init_190 : cd_Dk b_M_init 190 (nI 0) 191 := Or.inl ⟨0, ⟨by decide +kernel, rfl⟩, by decide +kernel⟩
theorem d_M_init_191 : cd_Dk b_M_init 191 (-1) 192 := Or.inl ⟨-1, ⟨by decide +kernel, rfl⟩, by decide +kernel⟩
theorem d_M_init_192 : cd_D 1 b_M_init 192 .iastore 193 := ⟨by decide +kernel, rfl⟩
theorem d_M_init_193 : cd_D 1 b_M_init 193 .dup 194 := ⟨by decide +kernel, rfl⟩
theorem d_M_init_194 : cd_Dk b_M_init 194 (nI 1) 195 := Or.inl ⟨1, ⟨by decide +kernel, rfl⟩, by decide +kernel⟩
theorem d_M_init_195 : cd_Dk b_M_init 195 (-1) 196 := Or.inl ⟨-1, ⟨by decide +kernel, rfl⟩, by decide +kernel⟩
theorem d_M_init_196 : cd_D 1 b_M_init 196 .iastore 197 := ⟨by decide +kernel, rfl⟩
theorem d_M_init_197 : cd_D 1 b_M_init 197 .dup 198 := ⟨by decide +kernel, rfl⟩
theorem d_M_init_198 : cd_Dk b_M_init 198 (nI 2) 199 := Or.inl ⟨2, ⟨by decide +kernel, rfl⟩, by decide +kernel⟩
theorem d_M_init_199 : cd_Dk b_M_init 199 (-1) 200 := Or.inl ⟨-1, ⟨by decide +kernel, rfl⟩, by decide +kernel⟩
theorem d_M_init_200 : cd_D 1 b_M_init 200 .iastore 201 := ⟨by decide +kernel, rfl⟩
theorem d_M_init_201 : cd_D 1 b_M_init 201 .dup 202 := ⟨by decide +kernel, rfl⟩
theorem d_M_init_202 : cd_Dk b_M_init 202 (nI 3) 203 := Or.inl ⟨3, ⟨by decide +kernel, rfl⟩, by decide +kernel⟩
theorem d_M_init_203 : cd_Dk b_M_init 203 (-1) 204 := Or.inl ⟨-1, ⟨by decide +kernel, rfl⟩, by decide +kernel⟩
theorem d_M_init_204 : cd_D 1 b_M_init 204 .iastore 205 := ⟨by decide +kernel, rfl⟩
theorem d_M_init_205 : cd_D 3 b_M_init 205 (.putfield 48) 208 := ⟨by decide +kernel, rfl⟩
theorem d_M_init_208 : cd_D_aload b_M_init 208 0 209 := Or.inr ⟨0, ⟨by decide +kernel, rfl⟩, rfl⟩
theorem d_M_init_209 : cd_Dk b_M_init 209 (nI 4) 210 := Or.inl ⟨4, ⟨by decide +kernel, rfl⟩, by decide +kernel⟩
theorem d_M_init_210 : cd_D 2 b_M_init 210 (.newarray .int) 212 := ⟨by decide +kernel, rfl⟩
theorem d_M_init_212 : cd_D 3 b_M_init 212 (.putfield 51) 215 := ⟨by decide +kernel, rfl⟩
theorem d_M_init_215 : cd_D_aload b_M_init 215 0 216 := Or.inr ⟨0, ⟨by decide +kernel, rfl⟩, rfl⟩
theorem d_M_init_216 : cd_Dk b_M_init 216 (nI 96) 218 := Or.inr (Or.inl ⟨96, ⟨by decide +kernel, rfl⟩, by decide +kernel⟩)
theorem d_M_init_218 : cd_D 2 b_M_init 218 (.newarray .int) 220 := ⟨by decide +kernel, rfl⟩
theorem d_M_init_220 : cd_D 3 b_M_init 220 (.putfield 54) 223 := ⟨by decide +kernel, rfl⟩
theorem d_M_init_223 : cd_D_aload b_M_init 223 0 224 := Or.inr ⟨0, ⟨by decide +kernel, rfl⟩, rfl⟩
theorem d_M_init_224 : cd_Dk b_M_init 224 (nI 5) 225 := Or.inl ⟨5, ⟨by decide +kernel, rfl⟩, by decide +kernel⟩
theorem d_M_init_225 : cd_D 2 b_M_init 225 (.newarray .int) 227 := ⟨by decide +kernel, rfl⟩
theorem d_M_init_227 : cd_D 3 b_M_init 227 (.putfield 57) 230 := ⟨by decide +kernel, rfl⟩
theorem d_M_init_230 : cd_D_aload b_M_init 230 0 231 := Or.inr ⟨0, ⟨by decide +kernel, rfl⟩, rfl⟩
theorem d_M_init_231 : cd_Dk b_M_init 231 (nI 5) 232 := Or.inl ⟨5, ⟨by decide +kernel, rfl⟩, by decide +kernel⟩
theorem d_M_init_232 : cd_D 2 b_M_init 232 (.newarray .int) 234 := ⟨by decide +kernel, rfl⟩
theorem d_M_init_234 : cd_D 3 b_M_init 234 (.putfield 60) 237 := ⟨by decide +kernel, rfl⟩
theorem d_M_init_237 : cd_D_aload b_M_init 237 0 238 := Or.inr ⟨0, ⟨by decide +kernel, rfl⟩, rfl⟩
theorem d_M_init_238 : cd_Dk b_M_init 238 (nI 5) 239 := Or.inl ⟨5, ⟨by decide +kernel, rfl⟩, by decide +kernel⟩
theorem d_M_init_239 : cd_D 2 b_M_init 239 (.newarray .int) 241 := ⟨by decide +kernel, rfl⟩
theorem d_M_init_241 : cd_D 3 b_M_init 241 (.putfield 63) 244 := ⟨by decide +kernel, rfl⟩
theorem d_M_init_244 : cd_D_aload b_M_init 244 0 245 := Or.inr ⟨0, ⟨by decide +kernel, rfl⟩, rfl⟩
theorem d_M_init_245 : cd_Dk b_M_init 245 (nI 120) 247 := Or.inr (Or.inl ⟨120, ⟨by decide +kernel, rfl⟩, by decide +kernel⟩)
theorem d_M_init_247 : cd_D 2 b_M_init 247 (.newarray .int) 249 := ⟨by decide +kernel, rfl⟩
theorem d_M_init_249 : cd_D 3 b_M_init 249 (.putfield 66) 252 := ⟨by decide +kernel, rfl⟩
theorem d_M_init_252 : cd_D_aload b_M_init 252 0 253 := Or.inr ⟨0, ⟨by decide +kernel, rfl⟩, rfl⟩
theorem d_M_init_253 : cd_Dk b_M_init 253 (nI 24) 255 := Or.inr (Or.inl ⟨24, ⟨by decide +kernel, rfl⟩, by decide +kernel⟩)
theorem d_M_init_255 : cd_D 2 b_M_init 255 (.newarray .int) 257 := ⟨by decide +kernel, rfl⟩
theorem d_M_init_257 : cd_D 3 b_M_init 257 (.putfield 69) 260 := ⟨by decide +kernel, rfl⟩
theorem d_M_init_260 : cd_D_aload b_M_init 260 0 261 := Or.inr ⟨0, ⟨by decide +kernel, rfl⟩, rfl⟩
theorem d_M_init_261 : cd_Dk b_M_init 261 (nI 60) 263 := Or.inr (Or.inl ⟨60, ⟨by decide +kernel, rfl⟩, by decide +kernel⟩)
theorem d_M_init_263 : cd_D 2 b_M_init 263 (.newarray .int) 265 := ⟨by decide +kernel, rfl⟩
theorem d_M_init_265 : cd_D 3 b_M_init 265 (.putfield 72) 268 := ⟨by decide +kernel, rfl⟩
theorem d_M_init_268 : cd_D_aload b_M_init 268 0 269 := Or.inr ⟨0, ⟨by decide +kernel, rfl⟩, rfl⟩
theorem d_M_init_269 : cd_D 3 b_M_init 269 (.getfield 9) 272 := ⟨by decide +kernel, rfl⟩
theorem d_M_init_272 : cd_Dk b_M_init 272 (nI 0) 273 := Or.inl ⟨0, ⟨by decide +kernel, rfl⟩, by decide +kernel⟩
theorem d_M_init_273 : cd_Dk b_M_init 273 (nI 1) 274 := Or.inl ⟨1, ⟨by decide +kernel, rfl⟩, by decide +kernel⟩
theorem d_M_init_274 : cd_D 1 b_M_init 274 .iastore 275 := ⟨by decide +kernel, rfl⟩
theorem d_M_init_275 : cd_D_aload b_M_init 275 0 276 := Or.inr ⟨0, ⟨by decide +kernel, rfl⟩, rfl⟩
theorem d_M_init_276 : cd_D 3 b_M_init 276 (.getfield 9) 279 := ⟨by decide +kernel, rfl⟩
theorem d_M_init_279 : cd_Dk b_M_init 279 (nI 3) 280 := Or.inl ⟨3, ⟨by decide +kernel, rfl⟩, by decide +kernel⟩
theorem d_M_init_280 : cd_Dk b_M_init 280 (nI 50) 282 := Or.inr (Or.inl ⟨50, ⟨by decide +kernel, rfl⟩, by decide +kernel⟩)
theorem d_M_init_282 : cd_D 1 b_M_init 282 .iastore 283 := ⟨by decide +kernel, rfl⟩
theorem d_M_init_283 : cd_D_aload b_M_init 283 0 284 := Or.inr ⟨0, ⟨by decide +kernel, rfl⟩, rfl⟩
theorem d_M_init_284 : cd_D 3 b_M_init 284 (.getfield 9) 287 := ⟨by decide +kernel, rfl⟩
theorem d_M_init_287 : cd_Dk b_M_init 287 (nI 4) 288 := Or.inl ⟨4, ⟨by decide +kernel, rfl⟩, by decide +kernel⟩
theorem d_M_init_288 : cd_Dk b_M_init 288 (nI 20) 290 := Or.inr (Or.inl ⟨20, ⟨by decide +kernel, rfl⟩, by decide +kernel⟩)
theorem d_M_init_290 : cd_D 1 b_M_init 290 .iastore 291 := ⟨by decide +kernel, rfl⟩
theorem d_M_init_291 : cd_D_aload b_M_init 291 0 292 := Or.inr ⟨0, ⟨by decide +kernel, rfl⟩, rfl⟩
theorem d_M_init_292 : cd_D 3 b_M_init 292 (.getfield 9) 295 := ⟨by decide +kernel, rfl⟩
theorem d_M_init_295 : cd_Dk b_M_init 295 (nI 5) 296 := Or.inl ⟨5, ⟨by decide +kernel, rfl⟩, by decide +kernel⟩
theorem d_M_init_296 : cd_Dk b_M_init 296 (nI 10) 298 := Or.inr (Or.inl ⟨10, ⟨by decide +kernel, rfl⟩, by decide +kernel⟩)
theorem d_M_init_298 : cd_D 1 b_M_init 298 .iastore 299 := ⟨by decide +kernel, rfl⟩
theorem d_M_init_299 : cd_D 1 b_M_init 299 .return_ 300 := ⟨by decide +kernel, rfl⟩
set_option maxHeartbeats 8000000 in
theorem c_M_init {l : Launch} {w : cd_WT} {S : cd_Sp} {I : cd_Mem} {m : Nat} (hc : S.2.1 m = (1, 7)) (hl : w.1 ≤ m) (hS1 : w.1 + S.1 = m + 1) : cd_C l w m_M_init 4 21 5157 [.ref m] S I (fun r S' I' => r = none ∧ px_MN w S S' I I' m) := by
  refine cd_intro (by decide) (by simp [Value.category]) (Nat.le_of_ble_eq_true rfl) ?_
  intro X hO hE
  show cd_J w X 0 0 S I 0 [some (.ref m)] []
  have HM0 : px_MI w S S I I m 0 := ⟨rfl, hc, fun b hb => ⟨rfl, rfl, rfl⟩, rfl, fun q hq => absurd hq (by simp)⟩
  refine r_aload hO d_M_init_0 rfl ?_
  refine r_objI hO hE lk_M_1 oi_i oi_c (by omega) rfl (Nat.le_of_ble_eq_true rfl) d_M_init_1 ?_
  try simp (disch := omega) only [cd_set_eq, cd_set_ne, cd_set_set]
  refine r_aload hO d_M_init_4 rfl ?_
  refine r_k hO d_M_init_5 ?_
  have a1 : m + 1 = w.1 + S.1 := by have q := HM0.1; omega
  refine r_na0 (m + 1) hO a1 (N := 1448) (by decide) d_M_init_8 (by omega) (by omega) ?_
  refine r_putFR hO hE f_M_9 rfl rfl rfl rfl (by rw [cd_al_n (by omega)]; exact HM0.2.1) hl d_M_init_10 ?_
  refine px_hide (fun S2 I2 => px_MI w S S2 I I2 m 1) (px_MI.step (q' := (0, 1, 2, 1448)) HM0 (Nat.le_of_ble_eq_true rfl) rfl rfl (fun _ _ => rfl)) ?_
  clear a1 HM0
  intro S1 I1 HM1
  try simp (disch := omega) only [cd_set_eq, cd_set_ne, cd_set_set]
  refine r_aload hO d_M_init_13 rfl ?_
  refine r_k hO d_M_init_14 ?_
  have a2 : m + 2 = w.1 + S1.1 := by have q := HM1.1; omega
  refine r_na0 (m + 2) hO a2 (N := 1448) (by decide) d_M_init_17 (by omega) (by omega) ?_
  refine r_putFR hO hE f_M_13 rfl rfl rfl rfl (by rw [cd_al_n (by omega)]; exact HM1.2.1) hl d_M_init_19 ?_
  refine px_hide (fun S2 I2 => px_MI w S S2 I I2 m 2) (px_MI.step (q' := (1, 2, 2, 1448)) HM1 (Nat.le_of_ble_eq_true rfl) rfl rfl (fun _ _ => rfl)) ?_
  clear a2 HM1
  intro S2 I2 HM2
  try simp (disch := omega) only [cd_set_eq, cd_set_ne, cd_set_set]
  refine r_aload hO d_M_init_22 rfl ?_
  refine r_k hO d_M_init_23 ?_
  have a3 : m + 3 = w.1 + S2.1 := by have q := HM2.1; omega
  refine r_na0 (m + 3) hO a3 (N := 1448) (by decide) d_M_init_26 (by omega) (by omega) ?_
  refine r_putFR hO hE f_M_16 rfl rfl rfl rfl (by rw [cd_al_n (by omega)]; exact HM2.2.1) hl d_M_init_28 ?_
  refine px_hide (fun S2 I2 => px_MI w S S2 I I2 m 3) (px_MI.step (q' := (2, 3, 2, 1448)) HM2 (Nat.le_of_ble_eq_true rfl) rfl rfl (fun _ _ => rfl)) ?_
  clear a3 HM2
  intro S3 I3 HM3
  try simp (disch := omega) only [cd_set_eq, cd_set_ne, cd_set_set]
  refine r_aload hO d_M_init_31 rfl ?_
  refine r_k hO d_M_init_32 ?_
  have a4 : m + 4 = w.1 + S3.1 := by have q := HM3.1; omega
  refine r_na0 (m + 4) hO a4 (N := 76) (by decide) d_M_init_34 (by omega) (by omega) ?_
  refine r_putFR hO hE f_M_19 rfl rfl rfl rfl (by rw [cd_al_n (by omega)]; exact HM3.2.1) hl d_M_init_36 ?_
  refine px_hide (fun S2 I2 => px_MI w S S2 I I2 m 4) (px_MI.step (q' := (4, 4, 2, 76)) HM3 (Nat.le_of_ble_eq_true rfl) rfl rfl (fun _ _ => rfl)) ?_
  clear a4 HM3
  intro S4 I4 HM4
  try simp (disch := omega) only [cd_set_eq, cd_set_ne, cd_set_set]
  refine r_aload hO d_M_init_39 rfl ?_
  refine r_k hO d_M_init_40 ?_
  have a5 : m + 5 = w.1 + S4.1 := by have q := HM4.1; omega
  refine r_na0 (m + 5) hO a5 (N := 96) (by decide) d_M_init_42 (by omega) (by omega) ?_
  refine r_putFR hO hE f_M_22 rfl rfl rfl rfl (by rw [cd_al_n (by omega)]; exact HM4.2.1) hl d_M_init_44 ?_
  refine px_hide (fun S2 I2 => px_MI w S S2 I I2 m 5) (px_MI.step (q' := (5, 5, 2, 96)) HM4 (Nat.le_of_ble_eq_true rfl) rfl rfl (fun _ _ => rfl)) ?_
  clear a5 HM4
  intro S5 I5 HM5
  try simp (disch := omega) only [cd_set_eq, cd_set_ne, cd_set_set]
  refine r_aload hO d_M_init_47 rfl ?_
  refine r_k hO d_M_init_48 ?_
  have a6 : m + 6 = w.1 + S5.1 := by have q := HM5.1; omega
  refine r_na2 (m + 6) hO a6 (N := 12) (by decide) d_M_init_50 (by omega) (by omega) ?_
  refine r_dup hO d_M_init_52 rfl ?_
  refine r_k hO d_M_init_53 ?_
  refine r_k hO d_M_init_54 ?_
  refine r_cast hO (cd_al_e _ _ _) (by omega) (by omega) (by decide) d_M_init_56 ?_
  try simp (disch := omega) only [cd_set_eq, cd_set_ne, cd_set_set]
  refine r_dup hO d_M_init_57 rfl ?_
  refine r_k hO d_M_init_58 ?_
  refine r_k hO d_M_init_59 ?_
  refine r_cast hO (cd_al_e _ _ _) (by omega) (by omega) (by decide) d_M_init_61 ?_
  try simp (disch := omega) only [cd_set_eq, cd_set_ne, cd_set_set]
  refine r_dup hO d_M_init_62 rfl ?_
  refine r_k hO d_M_init_63 ?_
  refine r_k hO d_M_init_64 ?_
  refine r_cast hO (cd_al_e _ _ _) (by omega) (by omega) (by decide) d_M_init_66 ?_
  try simp (disch := omega) only [cd_set_eq, cd_set_ne, cd_set_set]
  refine r_dup hO d_M_init_67 rfl ?_
  refine r_k hO d_M_init_68 ?_
  refine r_k hO d_M_init_69 ?_
  refine r_cast hO (cd_al_e _ _ _) (by omega) (by omega) (by decide) d_M_init_71 ?_
  try simp (disch := omega) only [cd_set_eq, cd_set_ne, cd_set_set]
  refine r_dup hO d_M_init_72 rfl ?_
  refine r_k hO d_M_init_73 ?_
  refine r_k hO d_M_init_74 ?_
  refine r_cast hO (cd_al_e _ _ _) (by omega) (by omega) (by decide) d_M_init_76 ?_
  try simp (disch := omega) only [cd_set_eq, cd_set_ne, cd_set_set]
  refine r_dup hO d_M_init_77 rfl ?_
  refine r_k hO d_M_init_78 ?_
  refine r_k hO d_M_init_79 ?_
  refine r_cast hO (cd_al_e _ _ _) (by omega) (by omega) (by decide) d_M_init_81 ?_
  try simp (disch := omega) only [cd_set_eq, cd_set_ne, cd_set_set]
  refine r_dup hO d_M_init_82 rfl ?_
  refine r_k hO d_M_init_83 ?_
  refine r_k hO d_M_init_85 ?_
  refine r_cast hO (cd_al_e _ _ _) (by omega) (by omega) (by decide) d_M_init_87 ?_
  try simp (disch := omega) only [cd_set_eq, cd_set_ne, cd_set_set]
  refine r_dup hO d_M_init_88 rfl ?_
  refine r_k hO d_M_init_89 ?_
  refine r_k hO d_M_init_91 ?_
  refine r_cast hO (cd_al_e _ _ _) (by omega) (by omega) (by decide) d_M_init_93 ?_
  try simp (disch := omega) only [cd_set_eq, cd_set_ne, cd_set_set]
  refine r_dup hO d_M_init_94 rfl ?_
  refine r_k hO d_M_init_95 ?_
  refine r_k hO d_M_init_97 ?_
  refine r_cast hO (cd_al_e _ _ _) (by omega) (by omega) (by decide) d_M_init_99 ?_
  try simp (disch := omega) only [cd_set_eq, cd_set_ne, cd_set_set]
  refine r_dup hO d_M_init_100 rfl ?_
  refine r_k hO d_M_init_101 ?_
  refine r_k hO d_M_init_103 ?_
  refine r_cast hO (cd_al_e _ _ _) (by omega) (by omega) (by decide) d_M_init_105 ?_
  try simp (disch := omega) only [cd_set_eq, cd_set_ne, cd_set_set]
  refine r_dup hO d_M_init_106 rfl ?_
  refine r_k hO d_M_init_107 ?_
  refine r_k hO d_M_init_109 ?_
  refine r_cast hO (cd_al_e _ _ _) (by omega) (by omega) (by decide) d_M_init_111 ?_
  try simp (disch := omega) only [cd_set_eq, cd_set_ne, cd_set_set]
  refine r_dup hO d_M_init_112 rfl ?_
  refine r_k hO d_M_init_113 ?_
  refine r_k hO d_M_init_115 ?_
  refine r_cast hO (cd_al_e _ _ _) (by omega) (by omega) (by decide) d_M_init_117 ?_
  try simp (disch := omega) only [cd_set_eq, cd_set_ne, cd_set_set]
  refine r_putFR hO hE f_M_25 rfl rfl rfl rfl (by rw [cd_al_n (by omega)]; exact HM5.2.1) hl d_M_init_118 ?_
  refine px_hide (fun S2 I2 => px_MI w S S2 I I2 m 6) (px_MI.step (q' := (13, 6, 4, 12)) HM5 (Nat.le_of_ble_eq_true rfl) rfl rfl (by decide +kernel)) ?_
  clear a6 HM5
  intro S6 I6 HM6
  try simp (disch := omega) only [cd_set_eq, cd_set_ne, cd_set_set]
  refine r_aload hO d_M_init_121 rfl ?_
  refine r_k hO d_M_init_122 ?_
  have a7 : m + 7 = w.1 + S6.1 := by have q := HM6.1; omega
  refine r_na0 (m + 7) hO a7 (N := 4) (by decide) d_M_init_123 (by omega) (by omega) ?_
  refine r_dup hO d_M_init_125 rfl ?_
  refine r_k hO d_M_init_126 ?_
  refine r_k hO d_M_init_127 ?_
  refine r_iast hO (cd_al_e _ _ _) (by omega) (by omega) (by decide) d_M_init_128 ?_
  try simp (disch := omega) only [cd_set_eq, cd_set_ne, cd_set_set]
  refine r_dup hO d_M_init_129 rfl ?_
  refine r_k hO d_M_init_130 ?_
  refine r_k hO d_M_init_131 ?_
  refine r_iast hO (cd_al_e _ _ _) (by omega) (by omega) (by decide) d_M_init_132 ?_
  try simp (disch := omega) only [cd_set_eq, cd_set_ne, cd_set_set]
  refine r_dup hO d_M_init_133 rfl ?_
  refine r_k hO d_M_init_134 ?_
  refine r_k hO d_M_init_135 ?_
  refine r_iast hO (cd_al_e _ _ _) (by omega) (by omega) (by decide) d_M_init_137 ?_
  try simp (disch := omega) only [cd_set_eq, cd_set_ne, cd_set_set]
  refine r_dup hO d_M_init_138 rfl ?_
  refine r_k hO d_M_init_139 ?_
  refine r_k hO d_M_init_140 ?_
  refine r_iast hO (cd_al_e _ _ _) (by omega) (by omega) (by decide) d_M_init_142 ?_
  try simp (disch := omega) only [cd_set_eq, cd_set_ne, cd_set_set]
  refine r_putFR hO hE f_M_29 rfl rfl rfl rfl (by rw [cd_al_n (by omega)]; exact HM6.2.1) hl d_M_init_143 ?_
  refine px_hide (fun S2 I2 => px_MI w S S2 I I2 m 7) (px_MI.step (q' := (14, 7, 2, 4)) HM6 (Nat.le_of_ble_eq_true rfl) rfl rfl (by decide +kernel)) ?_
  clear a7 HM6
  intro S7 I7 HM7
  try simp (disch := omega) only [cd_set_eq, cd_set_ne, cd_set_set]
  refine r_aload hO d_M_init_146 rfl ?_
  refine r_k hO d_M_init_147 ?_
  have a8 : m + 8 = w.1 + S7.1 := by have q := HM7.1; omega
  refine r_na0 (m + 8) hO a8 (N := 96) (by decide) d_M_init_149 (by omega) (by omega) ?_
  refine r_putFR hO hE f_M_32 rfl rfl rfl rfl (by rw [cd_al_n (by omega)]; exact HM7.2.1) hl d_M_init_151 ?_
  refine px_hide (fun S2 I2 => px_MI w S S2 I I2 m 8) (px_MI.step (q' := (15, 8, 2, 96)) HM7 (Nat.le_of_ble_eq_true rfl) rfl rfl (fun _ _ => rfl)) ?_
  clear a8 HM7
  intro S8 I8 HM8
  try simp (disch := omega) only [cd_set_eq, cd_set_ne, cd_set_set]
  refine r_aload hO d_M_init_154 rfl ?_
  refine r_k hO d_M_init_155 ?_
  have a9 : m + 9 = w.1 + S8.1 := by have q := HM8.1; omega
  refine r_na0 (m + 9) hO a9 (N := 96) (by decide) d_M_init_157 (by omega) (by omega) ?_
  refine r_putFR hO hE f_M_35 rfl rfl rfl rfl (by rw [cd_al_n (by omega)]; exact HM8.2.1) hl d_M_init_159 ?_
  refine px_hide (fun S2 I2 => px_MI w S S2 I I2 m 9) (px_MI.step (q' := (18, 9, 2, 96)) HM8 (Nat.le_of_ble_eq_true rfl) rfl rfl (fun _ _ => rfl)) ?_
  clear a9 HM8
  intro S9 I9 HM9
  try simp (disch := omega) only [cd_set_eq, cd_set_ne, cd_set_set]
  refine r_aload hO d_M_init_162 rfl ?_
  refine r_k hO d_M_init_163 ?_
  have a10 : m + 10 = w.1 + S9.1 := by have q := HM9.1; omega
  refine r_na3 (m + 10) hO a10 (N := 10) (by decide) d_M_init_165 (by omega) (by omega) ?_
  refine r_putFR hO hE f_M_38 rfl rfl rfl rfl (by rw [cd_al_n (by omega)]; exact HM9.2.1) hl d_M_init_167 ?_
  refine px_hide (fun S2 I2 => px_MI w S S2 I I2 m 10) (px_MI.step (q' := (20, 10, 5, 10)) HM9 (Nat.le_of_ble_eq_true rfl) rfl rfl (fun _ _ => rfl)) ?_
  clear a10 HM9
  intro S10 I10 HM10
  try simp (disch := omega) only [cd_set_eq, cd_set_ne, cd_set_set]
  refine r_aload hO d_M_init_170 rfl ?_
  refine r_k hO d_M_init_171 ?_
  have a11 : m + 11 = w.1 + S10.1 := by have q := HM10.1; omega
  refine r_na0 (m + 11) hO a11 (N := 96) (by decide) d_M_init_173 (by omega) (by omega) ?_
  refine r_putFR hO hE f_M_42 rfl rfl rfl rfl (by rw [cd_al_n (by omega)]; exact HM10.2.1) hl d_M_init_175 ?_
  refine px_hide (fun S2 I2 => px_MI w S S2 I I2 m 11) (px_MI.step (q' := (21, 11, 2, 96)) HM10 (Nat.le_of_ble_eq_true rfl) rfl rfl (fun _ _ => rfl)) ?_
  clear a11 HM10
  intro S11 I11 HM11
  try simp (disch := omega) only [cd_set_eq, cd_set_ne, cd_set_set]
  refine r_aload hO d_M_init_178 rfl ?_
  refine r_k hO d_M_init_179 ?_
  have a12 : m + 12 = w.1 + S11.1 := by have q := HM11.1; omega
  refine r_na0 (m + 12) hO a12 (N := 4) (by decide) d_M_init_180 (by omega) (by omega) ?_
  refine r_putFR hO hE f_M_45 rfl rfl rfl rfl (by rw [cd_al_n (by omega)]; exact HM11.2.1) hl d_M_init_182 ?_
  refine px_hide (fun S2 I2 => px_MI w S S2 I I2 m 12) (px_MI.step (q' := (22, 12, 2, 4)) HM11 (Nat.le_of_ble_eq_true rfl) rfl rfl (fun _ _ => rfl)) ?_
  clear a12 HM11
  intro S12 I12 HM12
  try simp (disch := omega) only [cd_set_eq, cd_set_ne, cd_set_set]
  refine r_aload hO d_M_init_185 rfl ?_
  refine r_k hO d_M_init_186 ?_
  have a13 : m + 13 = w.1 + S12.1 := by have q := HM12.1; omega
  refine r_na0 (m + 13) hO a13 (N := 4) (by decide) d_M_init_187 (by omega) (by omega) ?_
  refine r_dup hO d_M_init_189 rfl ?_
  refine r_k hO d_M_init_190 ?_
  refine r_k hO d_M_init_191 ?_
  refine r_iast hO (cd_al_e _ _ _) (by omega) (by omega) (by decide) d_M_init_192 ?_
  try simp (disch := omega) only [cd_set_eq, cd_set_ne, cd_set_set]
  refine r_dup hO d_M_init_193 rfl ?_
  refine r_k hO d_M_init_194 ?_
  refine r_k hO d_M_init_195 ?_
  refine r_iast hO (cd_al_e _ _ _) (by omega) (by omega) (by decide) d_M_init_196 ?_
  try simp (disch := omega) only [cd_set_eq, cd_set_ne, cd_set_set]
  refine r_dup hO d_M_init_197 rfl ?_
  refine r_k hO d_M_init_198 ?_
  refine r_k hO d_M_init_199 ?_
  refine r_iast hO (cd_al_e _ _ _) (by omega) (by omega) (by decide) d_M_init_200 ?_
  try simp (disch := omega) only [cd_set_eq, cd_set_ne, cd_set_set]
  refine r_dup hO d_M_init_201 rfl ?_
  refine r_k hO d_M_init_202 ?_
  refine r_k hO d_M_init_203 ?_
  refine r_iast hO (cd_al_e _ _ _) (by omega) (by omega) (by decide) d_M_init_204 ?_
  try simp (disch := omega) only [cd_set_eq, cd_set_ne, cd_set_set]
  refine r_putFR hO hE f_M_48 rfl rfl rfl rfl (by rw [cd_al_n (by omega)]; exact HM12.2.1) hl d_M_init_205 ?_
  refine px_hide (fun S2 I2 => px_MI w S S2 I I2 m 13) (px_MI.step (q' := (23, 13, 2, 4)) HM12 (Nat.le_of_ble_eq_true rfl) rfl rfl (by decide +kernel)) ?_
  clear a13 HM12
  intro S13 I13 HM13
  try simp (disch := omega) only [cd_set_eq, cd_set_ne, cd_set_set]
  refine r_aload hO d_M_init_208 rfl ?_
  refine r_k hO d_M_init_209 ?_
  have a14 : m + 14 = w.1 + S13.1 := by have q := HM13.1; omega
  refine r_na0 (m + 14) hO a14 (N := 4) (by decide) d_M_init_210 (by omega) (by omega) ?_
  refine r_putFR hO hE f_M_51 rfl rfl rfl rfl (by rw [cd_al_n (by omega)]; exact HM13.2.1) hl d_M_init_212 ?_
  refine px_hide (fun S2 I2 => px_MI w S S2 I I2 m 14) (px_MI.step (q' := (24, 14, 2, 4)) HM13 (Nat.le_of_ble_eq_true rfl) rfl rfl (fun _ _ => rfl)) ?_
  clear a14 HM13
  intro S14 I14 HM14
  try simp (disch := omega) only [cd_set_eq, cd_set_ne, cd_set_set]
  refine r_aload hO d_M_init_215 rfl ?_
  refine r_k hO d_M_init_216 ?_
  have a15 : m + 15 = w.1 + S14.1 := by have q := HM14.1; omega
  refine r_na0 (m + 15) hO a15 (N := 96) (by decide) d_M_init_218 (by omega) (by omega) ?_
  refine r_putFR hO hE f_M_54 rfl rfl rfl rfl (by rw [cd_al_n (by omega)]; exact HM14.2.1) hl d_M_init_220 ?_
  refine px_hide (fun S2 I2 => px_MI w S S2 I I2 m 15) (px_MI.step (q' := (25, 15, 2, 96)) HM14 (Nat.le_of_ble_eq_true rfl) rfl rfl (fun _ _ => rfl)) ?_
  clear a15 HM14
  intro S15 I15 HM15
  try simp (disch := omega) only [cd_set_eq, cd_set_ne, cd_set_set]
  refine r_aload hO d_M_init_223 rfl ?_
  refine r_k hO d_M_init_224 ?_
  have a16 : m + 16 = w.1 + S15.1 := by have q := HM15.1; omega
  refine r_na0 (m + 16) hO a16 (N := 5) (by decide) d_M_init_225 (by omega) (by omega) ?_
  refine r_putFR hO hE f_M_57 rfl rfl rfl rfl (by rw [cd_al_n (by omega)]; exact HM15.2.1) hl d_M_init_227 ?_
  refine px_hide (fun S2 I2 => px_MI w S S2 I I2 m 16) (px_MI.step (q' := (26, 16, 2, 5)) HM15 (Nat.le_of_ble_eq_true rfl) rfl rfl (fun _ _ => rfl)) ?_
  clear a16 HM15
  intro S16 I16 HM16
  try simp (disch := omega) only [cd_set_eq, cd_set_ne, cd_set_set]
  refine r_aload hO d_M_init_230 rfl ?_
  refine r_k hO d_M_init_231 ?_
  have a17 : m + 17 = w.1 + S16.1 := by have q := HM16.1; omega
  refine r_na0 (m + 17) hO a17 (N := 5) (by decide) d_M_init_232 (by omega) (by omega) ?_
  refine r_putFR hO hE f_M_60 rfl rfl rfl rfl (by rw [cd_al_n (by omega)]; exact HM16.2.1) hl d_M_init_234 ?_
  refine px_hide (fun S2 I2 => px_MI w S S2 I I2 m 17) (px_MI.step (q' := (27, 17, 2, 5)) HM16 (Nat.le_of_ble_eq_true rfl) rfl rfl (fun _ _ => rfl)) ?_
  clear a17 HM16
  intro S17 I17 HM17
  try simp (disch := omega) only [cd_set_eq, cd_set_ne, cd_set_set]
  refine r_aload hO d_M_init_237 rfl ?_
  refine r_k hO d_M_init_238 ?_
  have a18 : m + 18 = w.1 + S17.1 := by have q := HM17.1; omega
  refine r_na0 (m + 18) hO a18 (N := 5) (by decide) d_M_init_239 (by omega) (by omega) ?_
  refine r_putFR hO hE f_M_63 rfl rfl rfl rfl (by rw [cd_al_n (by omega)]; exact HM17.2.1) hl d_M_init_241 ?_
  refine px_hide (fun S2 I2 => px_MI w S S2 I I2 m 18) (px_MI.step (q' := (28, 18, 2, 5)) HM17 (Nat.le_of_ble_eq_true rfl) rfl rfl (fun _ _ => rfl)) ?_
  clear a18 HM17
  intro S18 I18 HM18
  try simp (disch := omega) only [cd_set_eq, cd_set_ne, cd_set_set]
  refine r_aload hO d_M_init_244 rfl ?_
  refine r_k hO d_M_init_245 ?_
  have a19 : m + 19 = w.1 + S18.1 := by have q := HM18.1; omega
  refine r_na0 (m + 19) hO a19 (N := 120) (by decide) d_M_init_247 (by omega) (by omega) ?_
  refine r_putFR hO hE f_M_66 rfl rfl rfl rfl (by rw [cd_al_n (by omega)]; exact HM18.2.1) hl d_M_init_249 ?_
  refine px_hide (fun S2 I2 => px_MI w S S2 I I2 m 19) (px_MI.step (q' := (29, 19, 2, 120)) HM18 (Nat.le_of_ble_eq_true rfl) rfl rfl (fun _ _ => rfl)) ?_
  clear a19 HM18
  intro S19 I19 HM19
  try simp (disch := omega) only [cd_set_eq, cd_set_ne, cd_set_set]
  refine r_aload hO d_M_init_252 rfl ?_
  refine r_k hO d_M_init_253 ?_
  have a20 : m + 20 = w.1 + S19.1 := by have q := HM19.1; omega
  refine r_na0 (m + 20) hO a20 (N := 24) (by decide) d_M_init_255 (by omega) (by omega) ?_
  refine r_putFR hO hE f_M_69 rfl rfl rfl rfl (by rw [cd_al_n (by omega)]; exact HM19.2.1) hl d_M_init_257 ?_
  refine px_hide (fun S2 I2 => px_MI w S S2 I I2 m 20) (px_MI.step (q' := (30, 20, 2, 24)) HM19 (Nat.le_of_ble_eq_true rfl) rfl rfl (fun _ _ => rfl)) ?_
  clear a20 HM19
  intro S20 I20 HM20
  try simp (disch := omega) only [cd_set_eq, cd_set_ne, cd_set_set]
  refine r_aload hO d_M_init_260 rfl ?_
  refine r_k hO d_M_init_261 ?_
  have a21 : m + 21 = w.1 + S20.1 := by have q := HM20.1; omega
  refine r_na0 (m + 21) hO a21 (N := 60) (by decide) d_M_init_263 (by omega) (by omega) ?_
  refine r_putFR hO hE f_M_72 rfl rfl rfl rfl (by rw [cd_al_n (by omega)]; exact HM20.2.1) hl d_M_init_265 ?_
  refine px_hide (fun S2 I2 => px_MI w S S2 I I2 m 21) (px_MI.step (q' := (31, 21, 2, 60)) HM20 (Nat.le_of_ble_eq_true rfl) rfl rfl (fun _ _ => rfl)) ?_
  clear a21 HM20
  intro S21 I21 HM21
  have hM := HM21.mo hl
  try simp (disch := omega) only [cd_set_eq, cd_set_ne, cd_set_set]
  refine r_aload hO d_M_init_268 rfl ?_
  refine r_getR hO f_M_9 rfl hM.2.1 (mo_r1 hM) d_M_init_269 ?_
  try simp (disch := omega) only [cd_set_eq, cd_set_ne, cd_set_set]
  refine r_k hO d_M_init_272 ?_
  refine r_k hO d_M_init_273 ?_
  refine r_iast hO (mo_s1 hM) (mo_l1 hM) (by omega) (by decide) d_M_init_274 ?_
  try simp (disch := omega) only [cd_set_eq, cd_set_ne, cd_set_set]
  refine r_aload hO d_M_init_275 rfl ?_
  refine r_getR hO f_M_9 rfl hM.2.1 (mo_r1 hM) d_M_init_276 ?_
  try simp (disch := omega) only [cd_set_eq, cd_set_ne, cd_set_set]
  refine r_k hO d_M_init_279 ?_
  refine r_k hO d_M_init_280 ?_
  refine r_iast hO (mo_s1 hM) (mo_l1 hM) (by omega) (by decide) d_M_init_282 ?_
  try simp (disch := omega) only [cd_set_eq, cd_set_ne, cd_set_set]
  refine r_aload hO d_M_init_283 rfl ?_
  refine r_getR hO f_M_9 rfl hM.2.1 (mo_r1 hM) d_M_init_284 ?_
  try simp (disch := omega) only [cd_set_eq, cd_set_ne, cd_set_set]
  refine r_k hO d_M_init_287 ?_
  refine r_k hO d_M_init_288 ?_
  refine r_iast hO (mo_s1 hM) (mo_l1 hM) (by omega) (by decide) d_M_init_290 ?_
  try simp (disch := omega) only [cd_set_eq, cd_set_ne, cd_set_set]
  refine r_aload hO d_M_init_291 rfl ?_
  refine r_getR hO f_M_9 rfl hM.2.1 (mo_r1 hM) d_M_init_292 ?_
  try simp (disch := omega) only [cd_set_eq, cd_set_ne, cd_set_set]
  refine r_k hO d_M_init_295 ?_
  refine r_k hO d_M_init_296 ?_
  refine r_iast hO (mo_s1 hM) (mo_l1 hM) (by omega) (by decide) d_M_init_298 ?_
  try simp (disch := omega) only [cd_set_eq, cd_set_ne, cd_set_set]
  refine r_vret hO hE (by omega) (by omega) d_M_init_299 ?_
  exact ⟨rfl, HM21.fin hl⟩
