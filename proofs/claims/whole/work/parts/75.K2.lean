/-- a house in the making: i askings stand -/
def px_HI (w : cd_WT) (S S2 : cd_Sp) (I I2 : cd_Mem) (h i : Nat) : Prop := S2.1 = S.1 + 5 + i ∧ (∀ b, b < h ∨ h + 6 + i ≤ b → S2.2.1 b = S.2.1 b ∧ S2.2.2 b = S.2.2 b) ∧ (S2.2.1 h = (1, 1) ∧ (S2.2.2 h 0 = some (h + 1) ∧ S2.2.1 (h + 1) = (2, 7)) ∧ (S2.2.2 h 1 = some (h + 2) ∧ S2.2.1 (h + 2) = (2, 5)) ∧ (S2.2.2 h 2 = some (h + 3) ∧ S2.2.1 (h + 3) = (6, 12)) ∧ (S2.2.2 h 6 = some (h + 4) ∧ S2.2.1 (h + 4) = (7, 14)) ∧ (S2.2.2 h 8 = some (h + 5) ∧ S2.2.1 (h + 5) = (2, 3))) ∧ (∀ a, a < i → S2.2.2 (h + 3) a = some (h + 6 + a) ∧ S2.2.1 (h + 6 + a) = (1, 0)) ∧ (∀ b, b < h ∨ h + 6 + i ≤ b → I2 b = I b) ∧ (I2 h 3 = nI 0 ∧ I2 h 4 = nI 0 ∧ I2 h 5 = nI 1 ∧ I2 h 7 = nI 0) ∧ (I2 (h + 1) 0 = nI 50 ∧ I2 (h + 1) 1 = nI 20 ∧ I2 (h + 1) 2 = nI 10 ∧ ∀ k, 3 ≤ k → k < 7 → I2 (h + 1) k = nI 0) ∧ (∀ k, k < 5 → I2 (h + 2) k = nI 0) ∧ (∀ k, k < 3 → I2 (h + 5) k = cd_NONE) ∧ ∀ a, a < i → ∀ q, q < 5 → I2 (h + 6 + a) q = nI 0
theorem px_HI.step {w : cd_WT} {S S2 : cd_Sp} {I I2 : cd_Mem} {h i : Nat} (H : px_HI w S S2 I I2 h i) {R : Nat → Int32} (hR : ∀ q, q < 5 → R q = nI 0) : px_HI w S (cd_sr (cd_al S2 (h + 6 + i) (1, 0)) (h + 3) i (h + 6 + i)) I (cd_set I2 (h + 6 + i) R) h (i + 1) := by
  obtain ⟨a1, a2, ⟨b0, b1, b2, b3, b4, b5⟩, a4, a5, a6, a7, a8, a9, a10⟩ := H
  have sn : ∀ b, b ≠ h + 6 + i → (cd_sr (cd_al S2 (h + 6 + i) (1, 0)) (h + 3) i (h + 6 + i)).2.1 b = S2.2.1 b := fun b hb => by rw [cd_sr_s, cd_al_n hb]
  have rn : ∀ b, b ≠ h + 6 + i → b ≠ h + 3 → (cd_sr (cd_al S2 (h + 6 + i) (1, 0)) (h + 3) i (h + 6 + i)).2.2 b = S2.2.2 b := fun b hb hb2 => by rw [cd_sr_n hb2, cd_al_rn hb]
  have mn : ∀ b, b ≠ h + 6 + i → cd_set I2 (h + 6 + i) R b = I2 b := fun b hb => cd_set_ne _ _ hb
  refine ⟨by show S2.1 + 1 = _; omega, fun b hb => ?_, ⟨?_, ?_, ?_, ?_, ?_, ?_⟩, fun a ha => ?_, fun b hb => ?_, ?_, ?_, fun k hk => ?_, fun k hk => ?_, fun a ha q hq => ?_⟩
  · rw [sn b (by omega), rn b (by omega) (by omega)]; exact a2 b (by omega)
  · rw [sn h (by omega)]; exact b0
  · rw [sn (h + 1) (by omega), rn h (by omega) (by omega)]; exact b1
  · rw [sn (h + 2) (by omega), rn h (by omega) (by omega)]; exact b2
  · rw [sn (h + 3) (by omega), rn h (by omega) (by omega)]; exact b3
  · rw [sn (h + 4) (by omega), rn h (by omega) (by omega)]; exact b4
  · rw [sn (h + 5) (by omega), rn h (by omega) (by omega)]; exact b5
  · by_cases e : a = i
    · subst e
      exact ⟨cd_sr_e _ _ _ _, by rw [cd_sr_s]; exact cd_al_e _ _ _⟩
    · rw [sn (h + 6 + a) (by omega), cd_sr_o e, cd_al_rn (by omega)]
      exact a4 a (by omega)
  · rw [mn b (by omega)]; exact a5 b (by omega)
  · rw [mn h (by omega)]; exact a6
  · rw [mn (h + 1) (by omega)]; exact a7
  · rw [mn (h + 2) (by omega)]; exact a8 k hk
  · rw [mn (h + 5) (by omega)]; exact a9 k hk
  · by_cases e : a = i
    · subst e
      rw [cd_set_eq]; exact hR q hq
    · rw [mn _ (by omega)]; exact a10 a (by omega) q hq
/-- a new house -/
def px_HN (w : cd_WT) (S S2 : cd_Sp) (I I2 : cd_Mem) (h : Nat) : Prop := S2.1 = S.1 + 17 ∧ (∀ b, b < h ∨ h + 18 ≤ b → S2.2.1 b = S.2.1 b ∧ S2.2.2 b = S.2.2 b) ∧ cd_HO w S2 h ∧ (∀ b, b < h ∨ h + 18 ≤ b → I2 b = I b) ∧ (I2 h 3 = nI 0 ∧ I2 h 4 = nI 0 ∧ I2 h 5 = nI 1 ∧ I2 h 7 = nI 0) ∧ (I2 (h + 1) 0 = nI 50 ∧ I2 (h + 1) 1 = nI 20 ∧ I2 (h + 1) 2 = nI 10 ∧ ∀ k, 3 ≤ k → k < 7 → I2 (h + 1) k = nI 0) ∧ (∀ k, k < 5 → I2 (h + 2) k = nI 0) ∧ ∀ k, k < 3 → I2 (h + 5) k = cd_NONE
theorem px_HI.fin {w : cd_WT} {S S2 : cd_Sp} {I I2 : cd_Mem} {h : Nat} (H : px_HI w S S2 I I2 h 12) (hl : w.1 ≤ h) : px_HN w S S2 I I2 h := by
  obtain ⟨a1, a2, ⟨b0, b1, b2, b3, b4, b5⟩, a4, a5, a6, a7, a8, a9, a10⟩ := H
  exact ⟨by omega, fun b hb => a2 b (by omega), ⟨hl, b0, b1, b2, b3, b4, b5, a4⟩, fun b hb => a5 b (by omega), a6, a7, a8, a9⟩
theorem d_H_init_0 : cd_D_aload b_H_init 0 0 1 := Or.inr ⟨0, ⟨by decide +kernel, rfl⟩, rfl⟩
theorem d_H_init_1 : cd_D 3 b_H_init 1 (.invokespecial 3) 4 := ⟨by decide +kernel, rfl⟩
theorem d_H_init_4 : cd_D_aload b_H_init 4 0 5 := Or.inr ⟨0, ⟨by decide +kernel, rfl⟩, rfl⟩
theorem d_H_init_5 : cd_Dk b_H_init 5 (nI 7) 7 := Or.inr (Or.inl ⟨7, ⟨by decide +kernel, rfl⟩, by decide +kernel⟩)
theorem d_H_init_7 : cd_D 2 b_H_init 7 (.newarray .int) 9 := ⟨by decide +kernel, rfl⟩
theorem d_H_init_9 : cd_D 1 b_H_init 9 .dup 10 := ⟨by decide +kernel, rfl⟩
theorem d_H_init_10 : cd_Dk b_H_init 10 (nI 0) 11 := Or.inl ⟨0, ⟨by decide +kernel, rfl⟩, by decide +kernel⟩
theorem d_H_init_11 : cd_Dk b_H_init 11 (nI 50) 13 := Or.inr (Or.inl ⟨50, ⟨by decide +kernel, rfl⟩, by decide +kernel⟩)
theorem d_H_init_13 : cd_D 1 b_H_init 13 .iastore 14 := ⟨by decide +kernel, rfl⟩
theorem d_H_init_14 : cd_D 1 b_H_init 14 .dup 15 := ⟨by decide +kernel, rfl⟩
theorem d_H_init_15 : cd_Dk b_H_init 15 (nI 1) 16 := Or.inl ⟨1, ⟨by decide +kernel, rfl⟩, by decide +kernel⟩
theorem d_H_init_16 : cd_Dk b_H_init 16 (nI 20) 18 := Or.inr (Or.inl ⟨20, ⟨by decide +kernel, rfl⟩, by decide +kernel⟩)
theorem d_H_init_18 : cd_D 1 b_H_init 18 .iastore 19 := ⟨by decide +kernel, rfl⟩
theorem d_H_init_19 : cd_D 1 b_H_init 19 .dup 20 := ⟨by decide +kernel, rfl⟩
theorem d_H_init_20 : cd_Dk b_H_init 20 (nI 2) 21 := Or.inl ⟨2, ⟨by decide +kernel, rfl⟩, by decide +kernel⟩
theorem d_H_init_21 : cd_Dk b_H_init 21 (nI 10) 23 := Or.inr (Or.inl ⟨10, ⟨by decide +kernel, rfl⟩, by decide +kernel⟩)
theorem d_H_init_23 : cd_D 1 b_H_init 23 .iastore 24 := ⟨by decide +kernel, rfl⟩
theorem d_H_init_24 : cd_D 1 b_H_init 24 .dup 25 := ⟨by decide +kernel, rfl⟩
theorem d_H_init_25 : cd_Dk b_H_init 25 (nI 3) 26 := Or.inl ⟨3, ⟨by decide +kernel, rfl⟩, by decide +kernel⟩
theorem d_H_init_26 : cd_Dk b_H_init 26 (nI 0) 27 := Or.inl ⟨0, ⟨by decide +kernel, rfl⟩, by decide +kernel⟩
theorem d_H_init_27 : cd_D 1 b_H_init 27 .iastore 28 := ⟨by decide +kernel, rfl⟩
theorem d_H_init_28 : cd_D 1 b_H_init 28 .dup 29 := ⟨by decide +kernel, rfl⟩
theorem d_H_init_29 : cd_Dk b_H_init 29 (nI 4) 30 := Or.inl ⟨4, ⟨by decide +kernel, rfl⟩, by decide +kernel⟩
theorem d_H_init_30 : cd_Dk b_H_init 30 (nI 0) 31 := Or.inl ⟨0, ⟨by decide +kernel, rfl⟩, by decide +kernel⟩
theorem d_H_init_31 : cd_D 1 b_H_init 31 .iastore 32 := ⟨by decide +kernel, rfl⟩
theorem d_H_init_32 : cd_D 1 b_H_init 32 .dup 33 := ⟨by decide +kernel, rfl⟩
theorem d_H_init_33 : cd_Dk b_H_init 33 (nI 5) 34 := Or.inl ⟨5, ⟨by decide +kernel, rfl⟩, by decide +kernel⟩
theorem d_H_init_34 : cd_Dk b_H_init 34 (nI 0) 35 := Or.inl ⟨0, ⟨by decide +kernel, rfl⟩, by decide +kernel⟩
theorem d_H_init_35 : cd_D 1 b_H_init 35 .iastore 36 := ⟨by decide +kernel, rfl⟩
theorem d_H_init_36 : cd_D 1 b_H_init 36 .dup 37 := ⟨by decide +kernel, rfl⟩
theorem d_H_init_37 : cd_Dk b_H_init 37 (nI 6) 39 := Or.inr (Or.inl ⟨6, ⟨by decide +kernel, rfl⟩, by decide +kernel⟩)
theorem d_H_init_39 : cd_Dk b_H_init 39 (nI 0) 40 := Or.inl ⟨0, ⟨by decide +kernel, rfl⟩, by decide +kernel⟩
theorem d_H_init_40 : cd_D 1 b_H_init 40 .iastore 41 := ⟨by decide +kernel, rfl⟩
theorem d_H_init_41 : cd_D 3 b_H_init 41 (.putfield 9) 44 := ⟨by decide +kernel, rfl⟩
theorem d_H_init_44 : cd_D_aload b_H_init 44 0 45 := Or.inr ⟨0, ⟨by decide +kernel, rfl⟩, rfl⟩
theorem d_H_init_45 : cd_Dk b_H_init 45 (nI 5) 46 := Or.inl ⟨5, ⟨by decide +kernel, rfl⟩, by decide +kernel⟩
theorem d_H_init_46 : cd_D 2 b_H_init 46 (.newarray .int) 48 := ⟨by decide +kernel, rfl⟩
theorem d_H_init_48 : cd_D 3 b_H_init 48 (.putfield 15) 51 := ⟨by decide +kernel, rfl⟩
theorem d_H_init_51 : cd_D_aload b_H_init 51 0 52 := Or.inr ⟨0, ⟨by decide +kernel, rfl⟩, rfl⟩
theorem d_H_init_52 : cd_Dk b_H_init 52 (nI 12) 54 := Or.inr (Or.inl ⟨12, ⟨by decide +kernel, rfl⟩, by decide +kernel⟩)
theorem d_H_init_54 : cd_D 3 b_H_init 54 (.anewarray 18) 57 := ⟨by decide +kernel, rfl⟩
theorem d_H_init_57 : cd_D 3 b_H_init 57 (.putfield 20) 60 := ⟨by decide +kernel, rfl⟩
theorem d_H_init_60 : cd_D_aload b_H_init 60 0 61 := Or.inr ⟨0, ⟨by decide +kernel, rfl⟩, rfl⟩
theorem d_H_init_61 : cd_Dk b_H_init 61 (nI 0) 62 := Or.inl ⟨0, ⟨by decide +kernel, rfl⟩, by decide +kernel⟩
theorem d_H_init_62 : cd_D 3 b_H_init 62 (.putfield 24) 65 := ⟨by decide +kernel, rfl⟩
theorem d_H_init_65 : cd_D_aload b_H_init 65 0 66 := Or.inr ⟨0, ⟨by decide +kernel, rfl⟩, rfl⟩
theorem d_H_init_66 : cd_Dk b_H_init 66 (nI 0) 67 := Or.inl ⟨0, ⟨by decide +kernel, rfl⟩, by decide +kernel⟩
theorem d_H_init_67 : cd_D 3 b_H_init 67 (.putfield 28) 70 := ⟨by decide +kernel, rfl⟩
theorem d_H_init_70 : cd_D_aload b_H_init 70 0 71 := Or.inr ⟨0, ⟨by decide +kernel, rfl⟩, rfl⟩
theorem d_H_init_71 : cd_Dk b_H_init 71 (nI 1) 72 := Or.inl ⟨1, ⟨by decide +kernel, rfl⟩, by decide +kernel⟩
theorem d_H_init_72 : cd_D 3 b_H_init 72 (.putfield 31) 75 := ⟨by decide +kernel, rfl⟩
theorem d_H_init_75 : cd_D_aload b_H_init 75 0 76 := Or.inr ⟨0, ⟨by decide +kernel, rfl⟩, rfl⟩
theorem d_H_init_76 : cd_Dk b_H_init 76 (nI 14) 78 := Or.inr (Or.inl ⟨14, ⟨by decide +kernel, rfl⟩, by decide +kernel⟩)
theorem d_H_init_78 : cd_D 3 b_H_init 78 (.anewarray 34) 81 := ⟨by decide +kernel, rfl⟩
theorem d_H_init_81 : cd_D 3 b_H_init 81 (.putfield 36) 84 := ⟨by decide +kernel, rfl⟩
theorem d_H_init_84 : cd_D_aload b_H_init 84 0 85 := Or.inr ⟨0, ⟨by decide +kernel, rfl⟩, rfl⟩
theorem d_H_init_85 : cd_Dk b_H_init 85 (nI 0) 86 := Or.inl ⟨0, ⟨by decide +kernel, rfl⟩, by decide +kernel⟩
theorem d_H_init_86 : cd_D 3 b_H_init 86 (.putfield 40) 89 := ⟨by decide +kernel, rfl⟩
theorem d_H_init_89 : cd_D_aload b_H_init 89 0 90 := Or.inr ⟨0, ⟨by decide +kernel, rfl⟩, rfl⟩
theorem d_H_init_90 : cd_Dk b_H_init 90 (nI 3) 91 := Or.inl ⟨3, ⟨by decide +kernel, rfl⟩, by decide +kernel⟩
theorem d_H_init_91 : cd_D 2 b_H_init 91 (.newarray .int) 93 := ⟨by decide +kernel, rfl⟩
theorem d_H_init_93 : cd_D 1 b_H_init 93 .dup 94 := ⟨by decide +kernel, rfl⟩
theorem d_H_init_94 : cd_Dk b_H_init 94 (nI 0) 95 := Or.inl ⟨0, ⟨by decide +kernel, rfl⟩, by decide +kernel⟩
theorem d_H_init_95 : cd_D 2 b_H_init 95 (.ldc 43) 97 := ⟨by decide +kernel, rfl⟩
theorem d_H_init_97 : cd_D 1 b_H_init 97 .iastore 98 := ⟨by decide +kernel, rfl⟩
theorem d_H_init_98 : cd_D 1 b_H_init 98 .dup 99 := ⟨by decide +kernel, rfl⟩
theorem d_H_init_99 : cd_Dk b_H_init 99 (nI 1) 100 := Or.inl ⟨1, ⟨by decide +kernel, rfl⟩, by decide +kernel⟩
theorem d_H_init_100 : cd_D 2 b_H_init 100 (.ldc 43) 102 := ⟨by decide +kernel, rfl⟩
theorem d_H_init_102 : cd_D 1 b_H_init 102 .iastore 103 := ⟨by decide +kernel, rfl⟩
theorem d_H_init_103 : cd_D 1 b_H_init 103 .dup 104 := ⟨by decide +kernel, rfl⟩
theorem d_H_init_104 : cd_Dk b_H_init 104 (nI 2) 105 := Or.inl ⟨2, ⟨by decide +kernel, rfl⟩, by decide +kernel⟩
theorem d_H_init_105 : cd_D 2 b_H_init 105 (.ldc 43) 107 := ⟨by decide +kernel, rfl⟩
theorem d_H_init_107 : cd_D 1 b_H_init 107 .iastore 108 := ⟨by decide +kernel, rfl⟩
theorem d_H_init_108 : cd_D 3 b_H_init 108 (.putfield 44) 111 := ⟨by decide +kernel, rfl⟩
theorem d_H_init_111 : cd_Dk b_H_init 111 (nI 0) 112 := Or.inl ⟨0, ⟨by decide +kernel, rfl⟩, by decide +kernel⟩
theorem d_H_init_112 : cd_D_istore b_H_init 112 1 113 := Or.inr ⟨1, ⟨by decide +kernel, rfl⟩, rfl⟩
theorem d_H_init_113 : cd_D_iload b_H_init 113 1 114 := Or.inr ⟨1, ⟨by decide +kernel, rfl⟩, rfl⟩
theorem d_H_init_114 : cd_Dk b_H_init 114 (nI 12) 116 := Or.inr (Or.inl ⟨12, ⟨by decide +kernel, rfl⟩, by decide +kernel⟩)
theorem d_H_init_116 : cd_D_icmp_ge b_H_init 116 138 119 := ⟨22, by decide +kernel, by decide, rfl⟩
theorem d_H_init_119 : cd_D_aload b_H_init 119 0 120 := Or.inr ⟨0, ⟨by decide +kernel, rfl⟩, rfl⟩
theorem d_H_init_120 : cd_D 3 b_H_init 120 (.getfield 20) 123 := ⟨by decide +kernel, rfl⟩
theorem d_H_init_123 : cd_D_iload b_H_init 123 1 124 := Or.inr ⟨1, ⟨by decide +kernel, rfl⟩, rfl⟩
theorem d_H_init_124 : cd_D 3 b_H_init 124 (.new 18) 127 := ⟨by decide +kernel, rfl⟩
theorem d_H_init_127 : cd_D 1 b_H_init 127 .dup 128 := ⟨by decide +kernel, rfl⟩
theorem d_H_init_128 : cd_D 3 b_H_init 128 (.invokespecial 47) 131 := ⟨by decide +kernel, rfl⟩
theorem d_H_init_131 : cd_D 1 b_H_init 131 .aastore 132 := ⟨by decide +kernel, rfl⟩
theorem d_H_init_132 : cd_D 3 b_H_init 132 (.iinc 1 (1)) 135 := ⟨by decide +kernel, rfl⟩
theorem d_H_init_135 : cd_D_goto b_H_init 135 113 := ⟨-22, by decide +kernel, by decide⟩
theorem d_H_init_138 : cd_D 1 b_H_init 138 .return_ 139 := ⟨by decide +kernel, rfl⟩
theorem c_H_init {l : Launch} {w : cd_WT} {S : cd_Sp} {I : cd_Mem} {h : Nat} (hh : S.2.1 h = (1, 1)) (hl : w.1 ≤ h) (ha : h + 1 = w.1 + S.1) : cd_C l w m_H_init 2 17 101 [.ref h] S I (fun r S' I' => r = none ∧ px_HN w S S' I I' h) := by
  refine cd_intro (by decide) (by simp [Value.category]) (Nat.le_of_ble_eq_true rfl) ?_
  intro X hO hE
  show cd_J w X 0 0 S I 0 [some (.ref h), none] []
  have loop : ∀ (r i kk nn : Nat) (S2 : cd_Sp) (I2 : cd_Mem), i + r = 12 → px_HI w S S2 I I2 h i → kk = 5 + i → nn = 41 + 5 * i → cd_J w X kk nn S2 I2 113 [some (.ref h), some (.int (nI i))] [] := by
    intro r
    induction r with
    | zero =>
      intro i kk nn S2 I2 hi H hkk hnn
      have hi12 : i = 12 := by omega
      subst hi12
      refine r_iload hO d_H_init_113 rfl ?_
      refine r_k hO d_H_init_114 ?_
      refine r_icmp_ge hO d_H_init_116 (fun c_116 => ?_) (fun c_116 => ?_)
      · refine r_vret hO hE (by omega) (by omega) d_H_init_138 ?_
        exact ⟨rfl, H.fin hl⟩
      · exact absurd (by decide) c_116
    | succ r ih =>
      intro i kk nn S2 I2 hi H hkk hnn
      have h1 := H.1
      refine r_iload hO d_H_init_113 rfl ?_
      refine r_k hO d_H_init_114 ?_
      refine r_icmp_ge hO d_H_init_116 (fun c_116 => ?_) (fun c_116 => ?_)
      · exact absurd c_116 (nI_ge (by omega) (by omega))
      · refine r_aload hO d_H_init_119 rfl ?_
        refine r_getR hO f_H_20 rfl H.2.2.1.1 H.2.2.1.2.2.2.1.1 d_H_init_120 ?_
        refine r_iload hO d_H_init_123 rfl ?_
        refine r_newa (h + 6 + i) hO (show h + 6 + i = w.1 + S2.1 by omega) cd_ci0 df_A cl_H_18 in_A it_A d_H_init_124 (by omega) (by omega) ?_
        refine r_dup hO d_H_init_127 rfl ?_
        refine cd_callIN (rest := [.ref (h + 6 + i), .int (nI i), .ref (h + 3)]) hO hE.1 (c_A_init (a := h + 6 + i) (cd_al_e _ _ _) (by omega)) mf_A_init ln_H_47 (by decide) rfl rfl rfl (Nat.le_of_ble_eq_true rfl) d_H_init_128 ⟨by omega, by omega⟩ ?_
        rintro r S3 I3 ⟨rfl, rfl, RA, rfl, hRA⟩
        show cd_J w X _ _ (cd_al S2 (h + 6 + i) (1, 0)) _ 131 [some (.ref h), some (.int (nI i))] [.ref (h + 6 + i), .int (nI i), .ref (h + 3)]
        rw [cd_set_set]
        refine r_aast (t := 4) (c := 0) (r := cd_cls[0]) (N := 12) hO (by rw [cd_al_n (by omega)]; exact H.2.2.1.2.2.2.1.2) (by decide) (by decide) rfl rfl (cd_al_e _ _ _) (by omega) (by omega) (by decide) d_H_init_131 ?_
        refine r_incN1 hO d_H_init_132 rfl ?_
        refine r_goto hO d_H_init_135 ?_
        exact ih (i + 1) _ _ _ _ (by omega) (H.step hRA) (by omega) (by omega)
  refine r_aload hO d_H_init_0 rfl ?_
  refine r_objI hO hE lk_H_3 oi_i oi_c (by omega) rfl (Nat.le_of_ble_eq_true rfl) d_H_init_1 ?_
  try simp (disch := omega) only [cd_set_eq, cd_set_ne, cd_set_set]
  refine r_aload hO d_H_init_4 rfl ?_
  refine r_k hO d_H_init_5 ?_
  refine r_na0 (h + 1) hO (ha) (N := 7) (by decide) d_H_init_7 (by omega) (by omega) ?_
  refine r_dup hO d_H_init_9 rfl ?_
  refine r_k hO d_H_init_10 ?_
  refine r_k hO d_H_init_11 ?_
  refine r_iast hO (cd_al_e _ _ _) (by omega) (by omega) (by decide) d_H_init_13 ?_
  try simp (disch := omega) only [cd_set_eq, cd_set_ne, cd_set_set]
  refine r_dup hO d_H_init_14 rfl ?_
  refine r_k hO d_H_init_15 ?_
  refine r_k hO d_H_init_16 ?_
  refine r_iast hO (cd_al_e _ _ _) (by omega) (by omega) (by decide) d_H_init_18 ?_
  try simp (disch := omega) only [cd_set_eq, cd_set_ne, cd_set_set]
  refine r_dup hO d_H_init_19 rfl ?_
  refine r_k hO d_H_init_20 ?_
  refine r_k hO d_H_init_21 ?_
  refine r_iast hO (cd_al_e _ _ _) (by omega) (by omega) (by decide) d_H_init_23 ?_
  try simp (disch := omega) only [cd_set_eq, cd_set_ne, cd_set_set]
  refine r_dup hO d_H_init_24 rfl ?_
  refine r_k hO d_H_init_25 ?_
  refine r_k hO d_H_init_26 ?_
  refine r_iast hO (cd_al_e _ _ _) (by omega) (by omega) (by decide) d_H_init_27 ?_
  try simp (disch := omega) only [cd_set_eq, cd_set_ne, cd_set_set]
  refine r_dup hO d_H_init_28 rfl ?_
  refine r_k hO d_H_init_29 ?_
  refine r_k hO d_H_init_30 ?_
  refine r_iast hO (cd_al_e _ _ _) (by omega) (by omega) (by decide) d_H_init_31 ?_
  try simp (disch := omega) only [cd_set_eq, cd_set_ne, cd_set_set]
  refine r_dup hO d_H_init_32 rfl ?_
  refine r_k hO d_H_init_33 ?_
  refine r_k hO d_H_init_34 ?_
  refine r_iast hO (cd_al_e _ _ _) (by omega) (by omega) (by decide) d_H_init_35 ?_
  try simp (disch := omega) only [cd_set_eq, cd_set_ne, cd_set_set]
  refine r_dup hO d_H_init_36 rfl ?_
  refine r_k hO d_H_init_37 ?_
  refine r_k hO d_H_init_39 ?_
  refine r_iast hO (cd_al_e _ _ _) (by omega) (by omega) (by decide) d_H_init_40 ?_
  try simp (disch := omega) only [cd_set_eq, cd_set_ne, cd_set_set]
  refine r_putFR hO hE f_H_9 rfl rfl rfl rfl (by simp (disch := omega) only [cd_al_n, cd_al_e, cd_sr_s, cd_sr_e, cd_sr_o, cd_sr_n, cd_al_rn]; exact hh) hl d_H_init_41 ?_
  try simp (disch := omega) only [cd_set_eq, cd_set_ne, cd_set_set]
  refine r_aload hO d_H_init_44 rfl ?_
  refine r_k hO d_H_init_45 ?_
  refine r_na0 (h + 2) hO (show h + 2 = w.1 + (S.1 + 1) by omega) (N := 5) (by decide) d_H_init_46 (by omega) (by omega) ?_
  refine r_putFR hO hE f_H_15 rfl rfl rfl rfl (by simp (disch := omega) only [cd_al_n, cd_al_e, cd_sr_s, cd_sr_e, cd_sr_o, cd_sr_n, cd_al_rn]; exact hh) hl d_H_init_48 ?_
  try simp (disch := omega) only [cd_set_eq, cd_set_ne, cd_set_set]
  refine r_aload hO d_H_init_51 rfl ?_
  refine r_k hO d_H_init_52 ?_
  refine r_anewa (h + 3) hO (show h + 3 = w.1 + (S.1 + 1 + 1) by omega) (N := 12) (by decide) (i := 0) (t := 4) (by decide) (by decide) rfl rfl cl_H_18 d_H_init_54 (by omega) (by omega) ?_
  refine r_putFR hO hE f_H_20 rfl rfl rfl rfl (by simp (disch := omega) only [cd_al_n, cd_al_e, cd_sr_s, cd_sr_e, cd_sr_o, cd_sr_n, cd_al_rn]; exact hh) hl d_H_init_57 ?_
  try simp (disch := omega) only [cd_set_eq, cd_set_ne, cd_set_set]
  refine r_aload hO d_H_init_60 rfl ?_
  refine r_k hO d_H_init_61 ?_
  refine r_putI hO f_H_24 rfl (by simp (disch := omega) only [cd_al_n, cd_al_e, cd_sr_s, cd_sr_e, cd_sr_o, cd_sr_n, cd_al_rn]; exact hh) hl d_H_init_62 ?_
  try simp (disch := omega) only [cd_set_eq, cd_set_ne, cd_set_set]
  refine r_aload hO d_H_init_65 rfl ?_
  refine r_k hO d_H_init_66 ?_
  refine r_putI hO f_H_28 rfl (by simp (disch := omega) only [cd_al_n, cd_al_e, cd_sr_s, cd_sr_e, cd_sr_o, cd_sr_n, cd_al_rn]; exact hh) hl d_H_init_67 ?_
  try simp (disch := omega) only [cd_set_eq, cd_set_ne, cd_set_set]
  refine r_aload hO d_H_init_70 rfl ?_
  refine r_k hO d_H_init_71 ?_
  refine r_putI hO f_H_31 rfl (by simp (disch := omega) only [cd_al_n, cd_al_e, cd_sr_s, cd_sr_e, cd_sr_o, cd_sr_n, cd_al_rn]; exact hh) hl d_H_init_72 ?_
  try simp (disch := omega) only [cd_set_eq, cd_set_ne, cd_set_set]
  refine r_aload hO d_H_init_75 rfl ?_
  refine r_k hO d_H_init_76 ?_
  refine r_anewa (h + 4) hO (show h + 4 = w.1 + (S.1 + 1 + 1 + 1) by omega) (N := 14) (by decide) (i := 1) (t := 5) (by decide) (by decide) rfl rfl cl_H_34 d_H_init_78 (by omega) (by omega) ?_
  refine r_putFR hO hE f_H_36 rfl rfl rfl rfl (by simp (disch := omega) only [cd_al_n, cd_al_e, cd_sr_s, cd_sr_e, cd_sr_o, cd_sr_n, cd_al_rn]; exact hh) hl d_H_init_81 ?_
  try simp (disch := omega) only [cd_set_eq, cd_set_ne, cd_set_set]
  refine r_aload hO d_H_init_84 rfl ?_
  refine r_k hO d_H_init_85 ?_
  refine r_putI hO f_H_40 rfl (by simp (disch := omega) only [cd_al_n, cd_al_e, cd_sr_s, cd_sr_e, cd_sr_o, cd_sr_n, cd_al_rn]; exact hh) hl d_H_init_86 ?_
  try simp (disch := omega) only [cd_set_eq, cd_set_ne, cd_set_set]
  refine r_aload hO d_H_init_89 rfl ?_
  refine r_k hO d_H_init_90 ?_
  refine r_na0 (h + 5) hO (show h + 5 = w.1 + (S.1 + 1 + 1 + 1 + 1) by omega) (N := 3) (by decide) d_H_init_91 (by omega) (by omega) ?_
  refine r_dup hO d_H_init_93 rfl ?_
  refine r_k hO d_H_init_94 ?_
  refine r_ldc hO k_H_43 d_H_init_95 ?_
  refine r_iast hO (cd_al_e _ _ _) (by omega) (by omega) (by decide) d_H_init_97 ?_
  try simp (disch := omega) only [cd_set_eq, cd_set_ne, cd_set_set]
  refine r_dup hO d_H_init_98 rfl ?_
  refine r_k hO d_H_init_99 ?_
  refine r_ldc hO k_H_43 d_H_init_100 ?_
  refine r_iast hO (cd_al_e _ _ _) (by omega) (by omega) (by decide) d_H_init_102 ?_
  try simp (disch := omega) only [cd_set_eq, cd_set_ne, cd_set_set]
  refine r_dup hO d_H_init_103 rfl ?_
  refine r_k hO d_H_init_104 ?_
  refine r_ldc hO k_H_43 d_H_init_105 ?_
  refine r_iast hO (cd_al_e _ _ _) (by omega) (by omega) (by decide) d_H_init_107 ?_
  try simp (disch := omega) only [cd_set_eq, cd_set_ne, cd_set_set]
  refine r_putFR hO hE f_H_44 rfl rfl rfl rfl (by simp (disch := omega) only [cd_al_n, cd_al_e, cd_sr_s, cd_sr_e, cd_sr_o, cd_sr_n, cd_al_rn]; exact hh) hl d_H_init_108 ?_
  try simp (disch := omega) only [cd_set_eq, cd_set_ne, cd_set_set]
  refine r_k hO d_H_init_111 ?_
  refine r_sI1 hO d_H_init_112 rfl ?_
  refine loop 12 0 _ _ _ _ (by omega) ?_ (by omega) (by omega)
  refine ⟨rfl, fun b hb => ⟨?_, ?_⟩, ⟨?_, ⟨?_, ?_⟩, ⟨?_, ?_⟩, ⟨?_, ?_⟩, ⟨?_, ?_⟩, ⟨?_, ?_⟩⟩, fun a ha => absurd ha (Nat.not_lt_zero _), fun b hb => ?_, ⟨?_, ?_, ?_, ?_⟩, ⟨?_, ?_, ?_, fun k k3 k7 => ?_⟩, fun k hk => ?_, fun k hk => ?_, fun a ha => absurd ha (Nat.not_lt_zero _)⟩
  · simp (disch := omega) only [cd_al_n, cd_al_e, cd_sr_s, cd_sr_e, cd_sr_o, cd_sr_n, cd_al_rn]
  · simp (disch := omega) only [cd_al_n, cd_al_e, cd_sr_s, cd_sr_e, cd_sr_o, cd_sr_n, cd_al_rn]
  · simp (disch := omega) only [cd_al_n, cd_al_e, cd_sr_s, cd_sr_e, cd_sr_o, cd_sr_n, cd_al_rn]; exact hh
  · simp (disch := omega) only [cd_al_n, cd_al_e, cd_sr_s, cd_sr_e, cd_sr_o, cd_sr_n, cd_al_rn]
  · simp (disch := omega) only [cd_al_n, cd_al_e, cd_sr_s, cd_sr_e, cd_sr_o, cd_sr_n, cd_al_rn]
  · simp (disch := omega) only [cd_al_n, cd_al_e, cd_sr_s, cd_sr_e, cd_sr_o, cd_sr_n, cd_al_rn]
  · simp (disch := omega) only [cd_al_n, cd_al_e, cd_sr_s, cd_sr_e, cd_sr_o, cd_sr_n, cd_al_rn]
  · simp (disch := omega) only [cd_al_n, cd_al_e, cd_sr_s, cd_sr_e, cd_sr_o, cd_sr_n, cd_al_rn]
  · simp (disch := omega) only [cd_al_n, cd_al_e, cd_sr_s, cd_sr_e, cd_sr_o, cd_sr_n, cd_al_rn]
  · simp (disch := omega) only [cd_al_n, cd_al_e, cd_sr_s, cd_sr_e, cd_sr_o, cd_sr_n, cd_al_rn]
  · simp (disch := omega) only [cd_al_n, cd_al_e, cd_sr_s, cd_sr_e, cd_sr_o, cd_sr_n, cd_al_rn]
  · simp (disch := omega) only [cd_al_n, cd_al_e, cd_sr_s, cd_sr_e, cd_sr_o, cd_sr_n, cd_al_rn]
  · simp (disch := omega) only [cd_al_n, cd_al_e, cd_sr_s, cd_sr_e, cd_sr_o, cd_sr_n, cd_al_rn]
  · simp (disch := omega) only [cd_set_ne]
  · simp (disch := omega) only [cd_set_eq, cd_set_ne]; rfl
  · simp (disch := omega) only [cd_set_eq, cd_set_ne]; rfl
  · simp (disch := omega) only [cd_set_eq, cd_set_ne]; rfl
  · simp (disch := omega) only [cd_set_eq, cd_set_ne]; rfl
  · simp (disch := omega) only [cd_set_eq, cd_set_ne]; rfl
  · simp (disch := omega) only [cd_set_eq, cd_set_ne]; rfl
  · simp (disch := omega) only [cd_set_eq, cd_set_ne]; rfl
  · simp (disch := omega) only [cd_set_eq, cd_set_ne]
    rcases (show k = 3 ∨ k = 4 ∨ k = 5 ∨ k = 6 by omega) with rfl | rfl | rfl | rfl <;> rfl
  · simp (disch := omega) only [cd_set_eq, cd_set_ne]
  · simp (disch := omega) only [cd_set_eq, cd_set_ne]
    rcases (show k = 0 ∨ k = 1 ∨ k = 2 by omega) with rfl | rfl | rfl <;> rfl
