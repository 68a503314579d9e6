theorem cd_copy_ok {y n p : Nat} (hy : y ≤ 24) (hn : n < 2 ^ 31) (hp : p < 2 ^ 31) (h : ¬ nI y - nI n < nI p) : p + n ≤ y := by
  rw [Int32.lt_iff_toInt_lt, Int32.toInt_sub, nI_toInt (show y < 2 ^ 31 by omega), nI_toInt hn, nI_toInt hp] at h
  unfold Int.bmod at h
  dsimp only at h
  split at h <;> omega
theorem cd_copy_ok2 {y n p : Nat} (hy : y ≤ 24) (hn : n < 2 ^ 31) (hp : p < 2 ^ 31) (h : nI p ≤ nI y - nI n) : p + n ≤ y := cd_copy_ok hy hn hp (fun q => by
  rw [Int32.lt_iff_toInt_lt] at q
  rw [Int32.le_iff_toInt_le] at h
  omega)
theorem cd_rg_s0 (r : Nat → Int32) (k : Nat) (f : Nat → Int32) : upd (cd_rg r 0 k f) k (f k) = cd_rg r 0 (k + 1) f := by
  have := cd_rg_s r 0 k f
  rwa [Nat.zero_add] at this
def sp_copy (so sz ce : Nat → Int32) (f p t a n : Int32) : Int32 × (Nat → Int32) := if nI 0 ≤ f ∧ f ≤ nI 3 then (if nI 0 ≤ t ∧ t ≤ nI 3 then (if so (cd_tn f) < 0 then (cd_NOTHING, ce) else if 0 ≤ so (cd_tn t) then (if so (cd_tn f) = so (cd_tn t) then (if p < 0 then (cd_INDEX, ce) else if a < 0 then (cd_INDEX, ce) else if n < 0 then (cd_INDEX, ce) else if sz (cd_tn f) - n < p then (cd_INDEX, ce) else if a ≤ sz (cd_tn t) - n then (n, cd_rg ce (24 * cd_tn t + cd_tn a) (cd_tn n) (fun i => ce (24 * cd_tn f + cd_tn p + i))) else (cd_INDEX, ce)) else (cd_KIND, ce)) else (cd_NOTHING, ce)) else (cd_BAD, ce)) else (cd_BAD, ce)
theorem d_M_copy_0 : cd_D_iload b_M_copy 0 1 1 := Or.inr ⟨1, ⟨by decide +kernel, rfl⟩, rfl⟩
theorem d_M_copy_1 : cd_D 3 b_M_copy 1 (.invokestatic 183) 4 := ⟨by decide +kernel, rfl⟩
theorem d_M_copy_4 : cd_D_if_eq b_M_copy 4 14 7 := ⟨10, by decide +kernel, by decide, rfl⟩
theorem d_M_copy_7 : cd_D_iload b_M_copy 7 3 8 := Or.inr ⟨3, ⟨by decide +kernel, rfl⟩, rfl⟩
theorem d_M_copy_8 : cd_D 3 b_M_copy 8 (.invokestatic 183) 11 := ⟨by decide +kernel, rfl⟩
theorem d_M_copy_11 : cd_D_if_ne b_M_copy 11 17 14 := ⟨6, by decide +kernel, by decide, rfl⟩
theorem d_M_copy_14 : cd_D 2 b_M_copy 14 (.ldc 87) 16 := ⟨by decide +kernel, rfl⟩
theorem d_M_copy_16 : cd_D 1 b_M_copy 16 .ireturn 17 := ⟨by decide +kernel, rfl⟩
theorem d_M_copy_17 : cd_D_aload b_M_copy 17 0 18 := Or.inr ⟨0, ⟨by decide +kernel, rfl⟩, rfl⟩
theorem d_M_copy_18 : cd_D 3 b_M_copy 18 (.getfield 48) 21 := ⟨by decide +kernel, rfl⟩
theorem d_M_copy_21 : cd_D_iload b_M_copy 21 1 22 := Or.inr ⟨1, ⟨by decide +kernel, rfl⟩, rfl⟩
theorem d_M_copy_22 : cd_D 1 b_M_copy 22 .iaload 23 := ⟨by decide +kernel, rfl⟩
theorem d_M_copy_23 : cd_D_if_lt b_M_copy 23 35 26 := ⟨12, by decide +kernel, by decide, rfl⟩
theorem d_M_copy_26 : cd_D_aload b_M_copy 26 0 27 := Or.inr ⟨0, ⟨by decide +kernel, rfl⟩, rfl⟩
theorem d_M_copy_27 : cd_D 3 b_M_copy 27 (.getfield 48) 30 := ⟨by decide +kernel, rfl⟩
theorem d_M_copy_30 : cd_D_iload b_M_copy 30 3 31 := Or.inr ⟨3, ⟨by decide +kernel, rfl⟩, rfl⟩
theorem d_M_copy_31 : cd_D 1 b_M_copy 31 .iaload 32 := ⟨by decide +kernel, rfl⟩
theorem d_M_copy_32 : cd_D_if_ge b_M_copy 32 38 35 := ⟨6, by decide +kernel, by decide, rfl⟩
theorem d_M_copy_35 : cd_D 2 b_M_copy 35 (.ldc 186) 37 := ⟨by decide +kernel, rfl⟩
theorem d_M_copy_37 : cd_D 1 b_M_copy 37 .ireturn 38 := ⟨by decide +kernel, rfl⟩
theorem d_M_copy_38 : cd_D_aload b_M_copy 38 0 39 := Or.inr ⟨0, ⟨by decide +kernel, rfl⟩, rfl⟩
theorem d_M_copy_39 : cd_D 3 b_M_copy 39 (.getfield 48) 42 := ⟨by decide +kernel, rfl⟩
theorem d_M_copy_42 : cd_D_iload b_M_copy 42 1 43 := Or.inr ⟨1, ⟨by decide +kernel, rfl⟩, rfl⟩
theorem d_M_copy_43 : cd_D 1 b_M_copy 43 .iaload 44 := ⟨by decide +kernel, rfl⟩
theorem d_M_copy_44 : cd_D_aload b_M_copy 44 0 45 := Or.inr ⟨0, ⟨by decide +kernel, rfl⟩, rfl⟩
theorem d_M_copy_45 : cd_D 3 b_M_copy 45 (.getfield 48) 48 := ⟨by decide +kernel, rfl⟩
theorem d_M_copy_48 : cd_D_iload b_M_copy 48 3 49 := Or.inr ⟨3, ⟨by decide +kernel, rfl⟩, rfl⟩
theorem d_M_copy_49 : cd_D 1 b_M_copy 49 .iaload 50 := ⟨by decide +kernel, rfl⟩
theorem d_M_copy_50 : cd_D_icmp_eq b_M_copy 50 56 53 := ⟨6, by decide +kernel, by decide, rfl⟩
theorem d_M_copy_53 : cd_D 2 b_M_copy 53 (.ldc 133) 55 := ⟨by decide +kernel, rfl⟩
theorem d_M_copy_55 : cd_D 1 b_M_copy 55 .ireturn 56 := ⟨by decide +kernel, rfl⟩
theorem d_M_copy_56 : cd_D_iload b_M_copy 56 2 57 := Or.inr ⟨2, ⟨by decide +kernel, rfl⟩, rfl⟩
theorem d_M_copy_57 : cd_D_if_lt b_M_copy 57 97 60 := ⟨40, by decide +kernel, by decide, rfl⟩
theorem d_M_copy_60 : cd_D_iload b_M_copy 60 4 62 := Or.inl ⟨by decide +kernel, rfl⟩
theorem d_M_copy_62 : cd_D_if_lt b_M_copy 62 97 65 := ⟨35, by decide +kernel, by decide, rfl⟩
theorem d_M_copy_65 : cd_D_iload b_M_copy 65 5 67 := Or.inl ⟨by decide +kernel, rfl⟩
theorem d_M_copy_67 : cd_D_if_lt b_M_copy 67 97 70 := ⟨30, by decide +kernel, by decide, rfl⟩
theorem d_M_copy_70 : cd_D_iload b_M_copy 70 2 71 := Or.inr ⟨2, ⟨by decide +kernel, rfl⟩, rfl⟩
theorem d_M_copy_71 : cd_D_aload b_M_copy 71 0 72 := Or.inr ⟨0, ⟨by decide +kernel, rfl⟩, rfl⟩
theorem d_M_copy_72 : cd_D 3 b_M_copy 72 (.getfield 51) 75 := ⟨by decide +kernel, rfl⟩
theorem d_M_copy_75 : cd_D_iload b_M_copy 75 1 76 := Or.inr ⟨1, ⟨by decide +kernel, rfl⟩, rfl⟩
theorem d_M_copy_76 : cd_D 1 b_M_copy 76 .iaload 77 := ⟨by decide +kernel, rfl⟩
theorem d_M_copy_77 : cd_D_iload b_M_copy 77 5 79 := Or.inl ⟨by decide +kernel, rfl⟩
theorem d_M_copy_79 : cd_D 1 b_M_copy 79 .isub 80 := ⟨by decide +kernel, rfl⟩
theorem d_M_copy_80 : cd_D_icmp_gt b_M_copy 80 97 83 := ⟨17, by decide +kernel, by decide, rfl⟩
theorem d_M_copy_83 : cd_D_iload b_M_copy 83 4 85 := Or.inl ⟨by decide +kernel, rfl⟩
theorem d_M_copy_85 : cd_D_aload b_M_copy 85 0 86 := Or.inr ⟨0, ⟨by decide +kernel, rfl⟩, rfl⟩
theorem d_M_copy_86 : cd_D 3 b_M_copy 86 (.getfield 51) 89 := ⟨by decide +kernel, rfl⟩
theorem d_M_copy_89 : cd_D_iload b_M_copy 89 3 90 := Or.inr ⟨3, ⟨by decide +kernel, rfl⟩, rfl⟩
theorem d_M_copy_90 : cd_D 1 b_M_copy 90 .iaload 91 := ⟨by decide +kernel, rfl⟩
theorem d_M_copy_91 : cd_D_iload b_M_copy 91 5 93 := Or.inl ⟨by decide +kernel, rfl⟩
theorem d_M_copy_93 : cd_D 1 b_M_copy 93 .isub 94 := ⟨by decide +kernel, rfl⟩
theorem d_M_copy_94 : cd_D_icmp_le b_M_copy 94 101 97 := ⟨7, by decide +kernel, by decide, rfl⟩
theorem d_M_copy_97 : cd_D 3 b_M_copy 97 (.ldc_w 260) 100 := ⟨by decide +kernel, rfl⟩
theorem d_M_copy_100 : cd_D 1 b_M_copy 100 .ireturn 101 := ⟨by decide +kernel, rfl⟩
theorem d_M_copy_101 : cd_Dk b_M_copy 101 (nI 0) 102 := Or.inl ⟨0, ⟨by decide +kernel, rfl⟩, by decide +kernel⟩
theorem d_M_copy_102 : cd_D_istore b_M_copy 102 6 104 := Or.inl ⟨by decide +kernel, rfl⟩
theorem d_M_copy_104 : cd_D_iload b_M_copy 104 6 106 := Or.inl ⟨by decide +kernel, rfl⟩
theorem d_M_copy_106 : cd_D_iload b_M_copy 106 5 108 := Or.inl ⟨by decide +kernel, rfl⟩
theorem d_M_copy_108 : cd_D_icmp_ge b_M_copy 108 138 111 := ⟨30, by decide +kernel, by decide, rfl⟩
theorem d_M_copy_111 : cd_D_aload b_M_copy 111 0 112 := Or.inr ⟨0, ⟨by decide +kernel, rfl⟩, rfl⟩
theorem d_M_copy_112 : cd_D 3 b_M_copy 112 (.getfield 69) 115 := ⟨by decide +kernel, rfl⟩
theorem d_M_copy_115 : cd_D_iload b_M_copy 115 6 117 := Or.inl ⟨by decide +kernel, rfl⟩
theorem d_M_copy_117 : cd_D_aload b_M_copy 117 0 118 := Or.inr ⟨0, ⟨by decide +kernel, rfl⟩, rfl⟩
theorem d_M_copy_118 : cd_D 3 b_M_copy 118 (.getfield 54) 121 := ⟨by decide +kernel, rfl⟩
theorem d_M_copy_121 : cd_Dk b_M_copy 121 (nI 24) 123 := Or.inr (Or.inl ⟨24, ⟨by decide +kernel, rfl⟩, by decide +kernel⟩)
theorem d_M_copy_123 : cd_D_iload b_M_copy 123 1 124 := Or.inr ⟨1, ⟨by decide +kernel, rfl⟩, rfl⟩
theorem d_M_copy_124 : cd_D 1 b_M_copy 124 .imul 125 := ⟨by decide +kernel, rfl⟩
theorem d_M_copy_125 : cd_D_iload b_M_copy 125 2 126 := Or.inr ⟨2, ⟨by decide +kernel, rfl⟩, rfl⟩
theorem d_M_copy_126 : cd_D 1 b_M_copy 126 .iadd 127 := ⟨by decide +kernel, rfl⟩
theorem d_M_copy_127 : cd_D_iload b_M_copy 127 6 129 := Or.inl ⟨by decide +kernel, rfl⟩
theorem d_M_copy_129 : cd_D 1 b_M_copy 129 .iadd 130 := ⟨by decide +kernel, rfl⟩
theorem d_M_copy_130 : cd_D 1 b_M_copy 130 .iaload 131 := ⟨by decide +kernel, rfl⟩
theorem d_M_copy_131 : cd_D 1 b_M_copy 131 .iastore 132 := ⟨by decide +kernel, rfl⟩
theorem d_M_copy_132 : cd_D 3 b_M_copy 132 (.iinc 6 (1)) 135 := ⟨by decide +kernel, rfl⟩
theorem d_M_copy_135 : cd_D_goto b_M_copy 135 104 := ⟨-31, by decide +kernel, by decide⟩
theorem d_M_copy_138 : cd_Dk b_M_copy 138 (nI 0) 139 := Or.inl ⟨0, ⟨by decide +kernel, rfl⟩, by decide +kernel⟩
theorem d_M_copy_139 : cd_D_istore b_M_copy 139 6 141 := Or.inl ⟨by decide +kernel, rfl⟩
theorem d_M_copy_141 : cd_D_iload b_M_copy 141 6 143 := Or.inl ⟨by decide +kernel, rfl⟩
theorem d_M_copy_143 : cd_D_iload b_M_copy 143 5 145 := Or.inl ⟨by decide +kernel, rfl⟩
theorem d_M_copy_145 : cd_D_icmp_ge b_M_copy 145 176 148 := ⟨31, by decide +kernel, by decide, rfl⟩
theorem d_M_copy_148 : cd_D_aload b_M_copy 148 0 149 := Or.inr ⟨0, ⟨by decide +kernel, rfl⟩, rfl⟩
theorem d_M_copy_149 : cd_D 3 b_M_copy 149 (.getfield 54) 152 := ⟨by decide +kernel, rfl⟩
theorem d_M_copy_152 : cd_Dk b_M_copy 152 (nI 24) 154 := Or.inr (Or.inl ⟨24, ⟨by decide +kernel, rfl⟩, by decide +kernel⟩)
theorem d_M_copy_154 : cd_D_iload b_M_copy 154 3 155 := Or.inr ⟨3, ⟨by decide +kernel, rfl⟩, rfl⟩
theorem d_M_copy_155 : cd_D 1 b_M_copy 155 .imul 156 := ⟨by decide +kernel, rfl⟩
theorem d_M_copy_156 : cd_D_iload b_M_copy 156 4 158 := Or.inl ⟨by decide +kernel, rfl⟩
theorem d_M_copy_158 : cd_D 1 b_M_copy 158 .iadd 159 := ⟨by decide +kernel, rfl⟩
theorem d_M_copy_159 : cd_D_iload b_M_copy 159 6 161 := Or.inl ⟨by decide +kernel, rfl⟩
theorem d_M_copy_161 : cd_D 1 b_M_copy 161 .iadd 162 := ⟨by decide +kernel, rfl⟩
theorem d_M_copy_162 : cd_D_aload b_M_copy 162 0 163 := Or.inr ⟨0, ⟨by decide +kernel, rfl⟩, rfl⟩
theorem d_M_copy_163 : cd_D 3 b_M_copy 163 (.getfield 69) 166 := ⟨by decide +kernel, rfl⟩
theorem d_M_copy_166 : cd_D_iload b_M_copy 166 6 168 := Or.inl ⟨by decide +kernel, rfl⟩
theorem d_M_copy_168 : cd_D 1 b_M_copy 168 .iaload 169 := ⟨by decide +kernel, rfl⟩
theorem d_M_copy_169 : cd_D 1 b_M_copy 169 .iastore 170 := ⟨by decide +kernel, rfl⟩
theorem d_M_copy_170 : cd_D 3 b_M_copy 170 (.iinc 6 (1)) 173 := ⟨by decide +kernel, rfl⟩
theorem d_M_copy_173 : cd_D_goto b_M_copy 173 141 := ⟨-32, by decide +kernel, by decide⟩
theorem d_M_copy_176 : cd_D_iload b_M_copy 176 5 178 := Or.inl ⟨by decide +kernel, rfl⟩
theorem d_M_copy_178 : cd_D 1 b_M_copy 178 .ireturn 179 := ⟨by decide +kernel, rfl⟩
theorem c_M_copy {l : Launch} {w : cd_WT} {S : cd_Sp} {I : cd_Mem} {m : Nat} (hM : cd_MO w S m) (hVS : cd_VS (I (m + 13)) (I (m + 14))) (f p t a n : Int32) : cd_C l w m_M_copy 2 0 0 [.ref m, .int f, .int p, .int t, .int a, .int n] S I (cd_Pi S (fun x I' => x = (sp_copy (I (m + 13)) (I (m + 14)) (I (m + 15)) f p t a n).1 ∧ I' (m + 15) = (sp_copy (I (m + 13)) (I (m + 14)) (I (m + 15)) f p t a n).2 ∧ cd_off I I' [m + 15, m + 20])) := by
  refine cd_intro (by decide) (by simp [Value.category]) (Nat.le_of_ble_eq_true rfl) ?_
  intro X hO hE
  show cd_J w X 0 0 S I 0 [some (.ref m), some (.int f), some (.int p), some (.int t), some (.int a), some (.int n), none] []
  have main : ∀ (z p9 y a9 n9 : Nat) (hz : z < 4) (hy : y < 4) (hpn : p9 + n9 ≤ 24) (han : a9 + n9 ≤ 24) (hp : sp_copy (I (m + 13)) (I (m + 14)) (I (m + 15)) f p t a n = (nI n9, cd_rg (I (m + 15)) (24 * y + a9) n9 (fun i => I (m + 15) (24 * z + p9 + i)))), cd_J w X 0 0 S I 101 [some (.ref m), some (.int (nI z)), some (.int (nI p9)), some (.int (nI y)), some (.int (nI a9)), some (.int (nI n9)), none] [] := by
    intro z p9 y a9 n9 hz hy hpn han hp
    have second : ∀ (r k : Nat), k + r = n9 → cd_J w X 0 0 S (cd_set (cd_set I (m + 20) (cd_rg (I (m + 20)) 0 n9 (fun i => I (m + 15) (24 * z + p9 + i)))) (m + 15) (cd_rg (I (m + 15)) (24 * y + a9) k (fun i => I (m + 15) (24 * z + p9 + i)))) 141 [some (.ref m), some (.int (nI z)), some (.int (nI p9)), some (.int (nI y)), some (.int (nI a9)), some (.int (nI n9)), some (.int (nI k))] [] := by
      intro r
      induction r with
      | zero =>
        intro k hk
        have hkn : k = n9 := by omega
        subst hkn
        refine r_iload hO d_M_copy_141 rfl ?_
        refine r_iload hO d_M_copy_143 rfl ?_
        refine r_icmp_ge hO d_M_copy_145 (fun c_145 => ?_) (fun c_145 => ?_)
        · refine r_iload hO d_M_copy_176 rfl ?_
          refine r_iret hO hE (Nat.zero_le _) (Nat.zero_le _) d_M_copy_178 ?_
          exact ⟨_, rfl, rfl, by rw [hp], by rw [hp, cd_set_eq], (cd_off.set _ _ (by simp)).tr (cd_off.set _ _ (by simp))⟩
        · exact absurd (nI_le (Nat.le_refl _) (by omega)) c_145
      | succ r ih =>
        intro k hk
        refine r_iload hO d_M_copy_141 rfl ?_
        refine r_iload hO d_M_copy_143 rfl ?_
        refine r_icmp_ge hO d_M_copy_145 (fun c_145 => ?_) (fun c_145 => ?_)
        · exact absurd c_145 (nI_ge (by omega) (by omega))
        · refine r_aload hO d_M_copy_148 rfl ?_
          refine r_getR hO f_M_54 rfl hM.2.1 (mo_r15 hM) d_M_copy_149 ?_
          try simp (disch := omega) only [cd_set_eq, cd_set_ne, cd_set_set]
          refine r_k hO d_M_copy_152 ?_
          refine r_iload hO d_M_copy_154 rfl ?_
          refine r_imulN hO d_M_copy_155 ?_
          refine r_iload hO d_M_copy_156 rfl ?_
          refine r_iaddN hO d_M_copy_158 ?_
          refine r_iload hO d_M_copy_159 rfl ?_
          refine r_iaddN hO d_M_copy_161 ?_
          refine r_aload hO d_M_copy_162 rfl ?_
          refine r_getR hO f_M_69 rfl hM.2.1 (mo_r20 hM) d_M_copy_163 ?_
          try simp (disch := omega) only [cd_set_eq, cd_set_ne, cd_set_set]
          refine r_iload hO d_M_copy_166 rfl ?_
          refine r_iald hO (mo_s20 hM) (by omega) (by decide) d_M_copy_168 ?_
          try simp (disch := omega) only [cd_set_eq, cd_set_ne, cd_set_set]
          refine r_tops (show cd_rg (I (m + 20)) 0 n9 (fun i => I (m + 15) (24 * z + p9 + i)) k = I (m + 15) (24 * z + p9 + k) by unfold cd_rg; rw [if_pos (by omega)]; rfl) ?_
          refine r_iast hO (mo_s15 hM) (mo_l15 hM) (by omega) (by decide) d_M_copy_169 ?_
          try simp (disch := omega) only [cd_set_eq, cd_set_ne, cd_set_set]
          rw [show upd (cd_rg (I (m + 15)) (24 * y + a9) k (fun i => I (m + 15) (24 * z + p9 + i))) (24 * y + a9 + k) (I (m + 15) (24 * z + p9 + k)) = cd_rg (I (m + 15)) (24 * y + a9) (k + 1) (fun i => I (m + 15) (24 * z + p9 + i)) from cd_rg_s _ _ _ _]
          refine r_incN6 hO d_M_copy_170 rfl ?_
          refine r_goto hO d_M_copy_173 ?_
          exact ih (k + 1) (by omega)
    have first : ∀ (r k : Nat), k + r = n9 → cd_J w X 0 0 S (cd_set I (m + 20) (cd_rg (I (m + 20)) 0 k (fun i => I (m + 15) (24 * z + p9 + i)))) 104 [some (.ref m), some (.int (nI z)), some (.int (nI p9)), some (.int (nI y)), some (.int (nI a9)), some (.int (nI n9)), some (.int (nI k))] [] := by
      intro r
      induction r with
      | zero =>
        intro k hk
        have hkn : k = n9 := by omega
        subst hkn
        refine r_iload hO d_M_copy_104 rfl ?_
        refine r_iload hO d_M_copy_106 rfl ?_
        refine r_icmp_ge hO d_M_copy_108 (fun c_108 => ?_) (fun c_108 => ?_)
        · refine r_k hO d_M_copy_138 ?_
          refine r_sI6 hO d_M_copy_139 rfl ?_
          refine r_mem (show _ = cd_set (cd_set I (m + 20) (cd_rg (I (m + 20)) 0 k (fun i => I (m + 15) (24 * z + p9 + i)))) (m + 15) (cd_rg (I (m + 15)) (24 * y + a9) 0 (fun i => I (m + 15) (24 * z + p9 + i))) by rw [cd_rg_0]; exact (cd_set_self_at _ _ (cd_set_ne _ _ (by omega))).symm) ?_
          exact second k 0 (Nat.zero_add _)
        · exact absurd (nI_le (Nat.le_refl _) (by omega)) c_108
      | succ r ih =>
        intro k hk
        refine r_iload hO d_M_copy_104 rfl ?_
        refine r_iload hO d_M_copy_106 rfl ?_
        refine r_icmp_ge hO d_M_copy_108 (fun c_108 => ?_) (fun c_108 => ?_)
        · exact absurd c_108 (nI_ge (by omega) (by omega))
        · refine r_aload hO d_M_copy_111 rfl ?_
          refine r_getR hO f_M_69 rfl hM.2.1 (mo_r20 hM) d_M_copy_112 ?_
          try simp (disch := omega) only [cd_set_eq, cd_set_ne, cd_set_set]
          refine r_iload hO d_M_copy_115 rfl ?_
          refine r_aload hO d_M_copy_117 rfl ?_
          refine r_getR hO f_M_54 rfl hM.2.1 (mo_r15 hM) d_M_copy_118 ?_
          try simp (disch := omega) only [cd_set_eq, cd_set_ne, cd_set_set]
          refine r_k hO d_M_copy_121 ?_
          refine r_iload hO d_M_copy_123 rfl ?_
          refine r_imulN hO d_M_copy_124 ?_
          refine r_iload hO d_M_copy_125 rfl ?_
          refine r_iaddN hO d_M_copy_126 ?_
          refine r_iload hO d_M_copy_127 rfl ?_
          refine r_iaddN hO d_M_copy_129 ?_
          refine r_iald hO (mo_s15 hM) (by omega) (by decide) d_M_copy_130 ?_
          try simp (disch := omega) only [cd_set_eq, cd_set_ne, cd_set_set]
          refine r_iast hO (mo_s20 hM) (mo_l20 hM) (by omega) (by decide) d_M_copy_131 ?_
          try simp (disch := omega) only [cd_set_eq, cd_set_ne, cd_set_set]
          rw [show upd (cd_rg (I (m + 20)) 0 k (fun i => I (m + 15) (24 * z + p9 + i))) k (I (m + 15) (24 * z + p9 + k)) = cd_rg (I (m + 20)) 0 (k + 1) (fun i => I (m + 15) (24 * z + p9 + i)) from cd_rg_s0 _ _ _]
          refine r_incN6 hO d_M_copy_132 rfl ?_
          refine r_goto hO d_M_copy_135 ?_
          exact ih (k + 1) (by omega)
    refine r_k hO d_M_copy_101 ?_
    refine r_sI6 hO d_M_copy_102 rfl ?_
    refine r_mem (show I = cd_set I (m + 20) (cd_rg (I (m + 20)) 0 0 (fun i => I (m + 15) (24 * z + p9 + i))) by rw [cd_rg_0, cd_set_self]) ?_
    exact first n9 0 (Nat.zero_add _)
  refine r_iload hO d_M_copy_0 rfl ?_
  refine r_cS1fi hO hE (c_M_isSheet _) mf_M_isSheet lk_M_183 (by decide) rfl (Nat.le_of_ble_eq_true rfl) d_M_copy_1 (Nat.zero_le _) (Nat.zero_le _) ?_
  refine r_if_eqB hO d_M_copy_4 (fun c_4 => ?_) (fun c_4 => ?_)
  · refine r_ldc hO k_M_87 d_M_copy_14 ?_
    refine r_iret hO hE (Nat.zero_le _) (Nat.zero_le _) d_M_copy_16 ?_
    exact ⟨_, rfl, rfl, by unfold sp_copy; rw [if_neg c_4], by unfold sp_copy; rw [if_neg c_4], cd_off.rf _ _⟩
  · obtain ⟨z, hz1, hz2, rfl⟩ := cd_in_ex c_4 (by decide) (by decide)
    obtain ⟨sf, hsf, hszf, -⟩ := hVS z (by omega)
    refine r_iload hO d_M_copy_7 rfl ?_
    refine r_cS1fi hO hE (c_M_isSheet _) mf_M_isSheet lk_M_183 (by decide) rfl (Nat.le_of_ble_eq_true rfl) d_M_copy_8 (Nat.zero_le _) (Nat.zero_le _) ?_
    refine r_if_neB hO d_M_copy_11 (fun c_11 => ?_) (fun c_11 => ?_)
    · obtain ⟨y, hy1, hy2, rfl⟩ := cd_in_ex c_11 (by decide) (by decide)
      obtain ⟨sv, hsv, hszt, -⟩ := hVS y (by omega)
      refine r_aload hO d_M_copy_17 rfl ?_
      refine r_getR hO f_M_48 rfl hM.2.1 (mo_r13 hM) d_M_copy_18 ?_
      refine r_iload hO d_M_copy_21 rfl ?_
      refine r_iald hO (mo_s13 hM) (by omega) (by decide) d_M_copy_22 ?_
      refine r_if_lt hO d_M_copy_23 (fun c_23 => ?_) (fun c_23 => ?_)
      · refine r_ldc hO k_M_186 d_M_copy_35 ?_
        refine r_iret hO hE (Nat.zero_le _) (Nat.zero_le _) d_M_copy_37 ?_
        exact ⟨_, rfl, rfl, by unfold sp_copy; rw [if_pos c_4, if_pos c_11, cd_tn_nI (i := z) (by omega), cd_tn_nI (i := y) (by omega), if_pos c_23], by unfold sp_copy; rw [if_pos c_4, if_pos c_11, cd_tn_nI (i := z) (by omega), cd_tn_nI (i := y) (by omega), if_pos c_23], cd_off.rf _ _⟩
      · refine r_aload hO d_M_copy_26 rfl ?_
        refine r_getR hO f_M_48 rfl hM.2.1 (mo_r13 hM) d_M_copy_27 ?_
        refine r_iload hO d_M_copy_30 rfl ?_
        refine r_iald hO (mo_s13 hM) (by omega) (by decide) d_M_copy_31 ?_
        refine r_if_ge hO d_M_copy_32 (fun c_32 => ?_) (fun c_32 => ?_)
        · refine r_aload hO d_M_copy_38 rfl ?_
          refine r_getR hO f_M_48 rfl hM.2.1 (mo_r13 hM) d_M_copy_39 ?_
          refine r_iload hO d_M_copy_42 rfl ?_
          refine r_iald hO (mo_s13 hM) (by omega) (by decide) d_M_copy_43 ?_
          refine r_aload hO d_M_copy_44 rfl ?_
          refine r_getR hO f_M_48 rfl hM.2.1 (mo_r13 hM) d_M_copy_45 ?_
          refine r_iload hO d_M_copy_48 rfl ?_
          refine r_iald hO (mo_s13 hM) (by omega) (by decide) d_M_copy_49 ?_
          refine r_icmp_eq hO d_M_copy_50 (fun c_50 => ?_) (fun c_50 => ?_)
          · refine r_iload hO d_M_copy_56 rfl ?_
            refine r_if_lt hO d_M_copy_57 (fun c_57 => ?_) (fun c_57 => ?_)
            · refine r_ldcw hO k_M_260 d_M_copy_97 ?_
              refine r_iret hO hE (Nat.zero_le _) (Nat.zero_le _) d_M_copy_100 ?_
              exact ⟨_, rfl, rfl, by unfold sp_copy; rw [if_pos c_4, if_pos c_11, cd_tn_nI (i := z) (by omega), cd_tn_nI (i := y) (by omega), if_neg c_23, if_pos c_32, if_pos c_50, if_pos c_57], by unfold sp_copy; rw [if_pos c_4, if_pos c_11, cd_tn_nI (i := z) (by omega), cd_tn_nI (i := y) (by omega), if_neg c_23, if_pos c_32, if_pos c_50, if_pos c_57], cd_off.rf _ _⟩
            · refine r_iload hO d_M_copy_60 rfl ?_
              refine r_if_lt hO d_M_copy_62 (fun c_62 => ?_) (fun c_62 => ?_)
              · refine r_ldcw hO k_M_260 d_M_copy_97 ?_
                refine r_iret hO hE (Nat.zero_le _) (Nat.zero_le _) d_M_copy_100 ?_
                exact ⟨_, rfl, rfl, by unfold sp_copy; rw [if_pos c_4, if_pos c_11, cd_tn_nI (i := z) (by omega), cd_tn_nI (i := y) (by omega), if_neg c_23, if_pos c_32, if_pos c_50, if_neg c_57, if_pos c_62], by unfold sp_copy; rw [if_pos c_4, if_pos c_11, cd_tn_nI (i := z) (by omega), cd_tn_nI (i := y) (by omega), if_neg c_23, if_pos c_32, if_pos c_50, if_neg c_57, if_pos c_62], cd_off.rf _ _⟩
              · refine r_iload hO d_M_copy_65 rfl ?_
                refine r_if_lt hO d_M_copy_67 (fun c_67 => ?_) (fun c_67 => ?_)
                · refine r_ldcw hO k_M_260 d_M_copy_97 ?_
                  refine r_iret hO hE (Nat.zero_le _) (Nat.zero_le _) d_M_copy_100 ?_
                  exact ⟨_, rfl, rfl, by unfold sp_copy; rw [if_pos c_4, if_pos c_11, cd_tn_nI (i := z) (by omega), cd_tn_nI (i := y) (by omega), if_neg c_23, if_pos c_32, if_pos c_50, if_neg c_57, if_neg c_62, if_pos c_67], by unfold sp_copy; rw [if_pos c_4, if_pos c_11, cd_tn_nI (i := z) (by omega), cd_tn_nI (i := y) (by omega), if_neg c_23, if_pos c_32, if_pos c_50, if_neg c_57, if_neg c_62, if_pos c_67], cd_off.rf _ _⟩
                · refine r_iload hO d_M_copy_70 rfl ?_
                  refine r_aload hO d_M_copy_71 rfl ?_
                  refine r_getR hO f_M_51 rfl hM.2.1 (mo_r14 hM) d_M_copy_72 ?_
                  refine r_iload hO d_M_copy_75 rfl ?_
                  refine r_iald hO (mo_s14 hM) (by omega) (by decide) d_M_copy_76 ?_
                  refine r_iload hO d_M_copy_77 rfl ?_
                  refine r_isub hO d_M_copy_79 ?_
                  refine r_icmp_gt hO d_M_copy_80 (fun c_80 => ?_) (fun c_80 => ?_)
                  · refine r_ldcw hO k_M_260 d_M_copy_97 ?_
                    refine r_iret hO hE (Nat.zero_le _) (Nat.zero_le _) d_M_copy_100 ?_
                    exact ⟨_, rfl, rfl, by unfold sp_copy; rw [if_pos c_4, if_pos c_11, cd_tn_nI (i := z) (by omega), cd_tn_nI (i := y) (by omega), if_neg c_23, if_pos c_32, if_pos c_50, if_neg c_57, if_neg c_62, if_neg c_67, if_pos c_80], by unfold sp_copy; rw [if_pos c_4, if_pos c_11, cd_tn_nI (i := z) (by omega), cd_tn_nI (i := y) (by omega), if_neg c_23, if_pos c_32, if_pos c_50, if_neg c_57, if_neg c_62, if_neg c_67, if_pos c_80], cd_off.rf _ _⟩
                  · refine r_iload hO d_M_copy_83 rfl ?_
                    refine r_aload hO d_M_copy_85 rfl ?_
                    refine r_getR hO f_M_51 rfl hM.2.1 (mo_r14 hM) d_M_copy_86 ?_
                    refine r_iload hO d_M_copy_89 rfl ?_
                    refine r_iald hO (mo_s14 hM) (by omega) (by decide) d_M_copy_90 ?_
                    refine r_iload hO d_M_copy_91 rfl ?_
                    refine r_isub hO d_M_copy_93 ?_
                    refine r_icmp_le hO d_M_copy_94 (fun c_94 => ?_) (fun c_94 => ?_)
                    · obtain ⟨p9, hp9, rfl⟩ := nI_of c_57
                      obtain ⟨a9, ha9, rfl⟩ := nI_of c_62
                      obtain ⟨n9, hn9, rfl⟩ := nI_of c_67
                      have hpn := cd_copy_ok hsf hn9 hp9 (by rw [← hszf]; exact c_80)
                      have han := cd_copy_ok2 hsv hn9 ha9 (by rw [← hszt]; exact c_94)
                      exact main z p9 y a9 n9 (by omega) (by omega) (by omega) (by omega) (by unfold sp_copy; rw [if_pos c_4, if_pos c_11, cd_tn_nI (i := z) (by omega), cd_tn_nI (i := y) (by omega), if_neg c_23, if_pos c_32, if_pos c_50, if_neg c_57, if_neg c_62, if_neg c_67, if_neg c_80, if_pos c_94, cd_tn_nI (i := p9) hp9, cd_tn_nI (i := a9) ha9, cd_tn_nI (i := n9) hn9])
                    · refine r_ldcw hO k_M_260 d_M_copy_97 ?_
                      refine r_iret hO hE (Nat.zero_le _) (Nat.zero_le _) d_M_copy_100 ?_
                      exact ⟨_, rfl, rfl, by unfold sp_copy; rw [if_pos c_4, if_pos c_11, cd_tn_nI (i := z) (by omega), cd_tn_nI (i := y) (by omega), if_neg c_23, if_pos c_32, if_pos c_50, if_neg c_57, if_neg c_62, if_neg c_67, if_neg c_80, if_neg c_94], by unfold sp_copy; rw [if_pos c_4, if_pos c_11, cd_tn_nI (i := z) (by omega), cd_tn_nI (i := y) (by omega), if_neg c_23, if_pos c_32, if_pos c_50, if_neg c_57, if_neg c_62, if_neg c_67, if_neg c_80, if_neg c_94], cd_off.rf _ _⟩
          · refine r_ldc hO k_M_133 d_M_copy_53 ?_
            refine r_iret hO hE (Nat.zero_le _) (Nat.zero_le _) d_M_copy_55 ?_
            exact ⟨_, rfl, rfl, by unfold sp_copy; rw [if_pos c_4, if_pos c_11, cd_tn_nI (i := z) (by omega), cd_tn_nI (i := y) (by omega), if_neg c_23, if_pos c_32, if_neg c_50], by unfold sp_copy; rw [if_pos c_4, if_pos c_11, cd_tn_nI (i := z) (by omega), cd_tn_nI (i := y) (by omega), if_neg c_23, if_pos c_32, if_neg c_50], cd_off.rf _ _⟩
        · refine r_ldc hO k_M_186 d_M_copy_35 ?_
          refine r_iret hO hE (Nat.zero_le _) (Nat.zero_le _) d_M_copy_37 ?_
          exact ⟨_, rfl, rfl, by unfold sp_copy; rw [if_pos c_4, if_pos c_11, cd_tn_nI (i := z) (by omega), cd_tn_nI (i := y) (by omega), if_neg c_23, if_neg c_32], by unfold sp_copy; rw [if_pos c_4, if_pos c_11, cd_tn_nI (i := z) (by omega), cd_tn_nI (i := y) (by omega), if_neg c_23, if_neg c_32], cd_off.rf _ _⟩
    · refine r_ldc hO k_M_87 d_M_copy_14 ?_
      refine r_iret hO hE (Nat.zero_le _) (Nat.zero_le _) d_M_copy_16 ?_
      exact ⟨_, rfl, rfl, by unfold sp_copy; rw [if_pos c_4, if_neg c_11], by unfold sp_copy; rw [if_pos c_4, if_neg c_11], cd_off.rf _ _⟩
def cd_l3 (I : cd_Mem) (m s : Nat) (t a b : Int32) : cd_Mem := cd_set (cd_set (cd_set I (m + 16) (upd (I (m + 16)) s t)) (m + 17) (upd (I (m + 17)) s a)) (m + 18) (upd (I (m + 18)) s b)
def sp_lay (I : cd_Mem) (m : Nat) (s t k : Int32) : Int32 × cd_Mem := if nI 0 ≤ s ∧ s ≤ nI 4 then (if nI 0 ≤ t ∧ t ≤ nI 3 then (if t = nI 1 then (if cd_isA (I (m + 1)) k then (I (m + 16) (cd_tn s), cd_l3 I m (cd_tn s) t (I (m + 1) (16 + 5 * cd_tn k + 0)) (cd_wor (I (m + 1) (16 + 5 * cd_tn k + 0)) (I (m + 1) (16 + 5 * cd_tn k + 2)))) else (cd_BAD, I)) else if t = nI 2 then (if nI 0 ≤ k ∧ k ≤ nI 3 then (if 0 ≤ I (m + 13) (cd_tn k) then (I (m + 16) (cd_tn s), cd_set (cd_l3 I m (cd_tn s) t (I (m + 14) (cd_tn k)) (nI 0)) (m + 19) (cd_rg (I (m + 19)) (24 * cd_tn s) 24 (fun i => I (m + 15) (24 * cd_tn k + i)))) else (cd_NOTHING, I)) else (cd_BAD, I)) else (I (m + 16) (cd_tn s), cd_l3 I m (cd_tn s) t k (nI 0))) else (cd_BAD, I)) else (cd_BAD, I)
def sp_ask (ho hA hB : Nat → Int32) (s k : Int32) : Int32 := if nI 0 ≤ s ∧ s ≤ nI 4 then (if nI 0 ≤ k ∧ k ≤ nI 5 then (if ho (cd_tn s) = 0 then cd_NOTHING else if ho (cd_tn s) = nI 1 then (if cd_und (hA (cd_tn s)) k then hB (cd_tn s) else cd_KIND) else cd_KIND) else cd_BAD) else cd_BAD
def sp_item (ho hA hc : Nat → Int32) (s p : Int32) : Int32 := if nI 0 ≤ s ∧ s ≤ nI 4 then (if ho (cd_tn s) = 0 then cd_NOTHING else if ho (cd_tn s) = nI 2 then (if nI 0 ≤ p ∧ p ≤ hA (cd_tn s) - nI 1 then (if hc (24 * cd_tn s + cd_tn p) = cd_NONE then cd_KIND else hc (24 * cd_tn s + cd_tn p)) else cd_INDEX) else cd_KIND) else cd_BAD
def sp_rest (ho hA : Nat → Int32) (s n : Int32) : Int32 := if nI 0 ≤ s ∧ s ≤ nI 4 then (if ho (cd_tn s) = 0 then cd_NOTHING else if ho (cd_tn s) = nI 3 then (if n = 0 then cd_NO else if n = (-1) then nI 0 else cd_rem (hA (cd_tn s)) n) else cd_KIND) else cd_BAD
def cd_VL (ho hA : Nat → Int32) : Prop := ∀ s, s < 5 → ho s = nI 2 → ∃ n, n ≤ 24 ∧ hA s = nI n
theorem d_M_lay_0 : cd_D_iload b_M_lay 0 1 1 := Or.inr ⟨1, ⟨by decide +kernel, rfl⟩, rfl⟩
theorem d_M_lay_1 : cd_D 3 b_M_lay 1 (.invokestatic 263) 4 := ⟨by decide +kernel, rfl⟩
theorem d_M_lay_4 : cd_D_if_eq b_M_lay 4 41 7 := ⟨37, by decide +kernel, by decide, rfl⟩
theorem d_M_lay_7 : cd_D_iload b_M_lay 7 2 8 := Or.inr ⟨2, ⟨by decide +kernel, rfl⟩, rfl⟩
theorem d_M_lay_8 : cd_Dk b_M_lay 8 (nI 0) 9 := Or.inl ⟨0, ⟨by decide +kernel, rfl⟩, by decide +kernel⟩
theorem d_M_lay_9 : cd_Dk b_M_lay 9 (nI 3) 10 := Or.inl ⟨3, ⟨by decide +kernel, rfl⟩, by decide +kernel⟩
theorem d_M_lay_10 : cd_D 3 b_M_lay 10 (.invokestatic 75) 13 := ⟨by decide +kernel, rfl⟩
theorem d_M_lay_13 : cd_D_if_eq b_M_lay 13 41 16 := ⟨28, by decide +kernel, by decide, rfl⟩
theorem d_M_lay_16 : cd_D_iload b_M_lay 16 2 17 := Or.inr ⟨2, ⟨by decide +kernel, rfl⟩, rfl⟩
theorem d_M_lay_17 : cd_Dk b_M_lay 17 (nI 1) 18 := Or.inl ⟨1, ⟨by decide +kernel, rfl⟩, by decide +kernel⟩
theorem d_M_lay_18 : cd_D_icmp_ne b_M_lay 18 29 21 := ⟨11, by decide +kernel, by decide, rfl⟩
theorem d_M_lay_21 : cd_D_aload b_M_lay 21 0 22 := Or.inr ⟨0, ⟨by decide +kernel, rfl⟩, rfl⟩
theorem d_M_lay_22 : cd_D_iload b_M_lay 22 3 23 := Or.inr ⟨3, ⟨by decide +kernel, rfl⟩, rfl⟩
theorem d_M_lay_23 : cd_D 3 b_M_lay 23 (.invokevirtual 108) 26 := ⟨by decide +kernel, rfl⟩
theorem d_M_lay_26 : cd_D_if_eq b_M_lay 26 41 29 := ⟨15, by decide +kernel, by decide, rfl⟩
theorem d_M_lay_29 : cd_D_iload b_M_lay 29 2 30 := Or.inr ⟨2, ⟨by decide +kernel, rfl⟩, rfl⟩
theorem d_M_lay_30 : cd_Dk b_M_lay 30 (nI 2) 31 := Or.inl ⟨2, ⟨by decide +kernel, rfl⟩, by decide +kernel⟩
theorem d_M_lay_31 : cd_D_icmp_ne b_M_lay 31 44 34 := ⟨13, by decide +kernel, by decide, rfl⟩
theorem d_M_lay_34 : cd_D_iload b_M_lay 34 3 35 := Or.inr ⟨3, ⟨by decide +kernel, rfl⟩, rfl⟩
theorem d_M_lay_35 : cd_D 3 b_M_lay 35 (.invokestatic 183) 38 := ⟨by decide +kernel, rfl⟩
theorem d_M_lay_38 : cd_D_if_ne b_M_lay 38 44 41 := ⟨6, by decide +kernel, by decide, rfl⟩
theorem d_M_lay_41 : cd_D 2 b_M_lay 41 (.ldc 87) 43 := ⟨by decide +kernel, rfl⟩
theorem d_M_lay_43 : cd_D 1 b_M_lay 43 .ireturn 44 := ⟨by decide +kernel, rfl⟩
theorem d_M_lay_44 : cd_D_iload b_M_lay 44 2 45 := Or.inr ⟨2, ⟨by decide +kernel, rfl⟩, rfl⟩
theorem d_M_lay_45 : cd_Dk b_M_lay 45 (nI 2) 46 := Or.inl ⟨2, ⟨by decide +kernel, rfl⟩, by decide +kernel⟩
theorem d_M_lay_46 : cd_D_icmp_ne b_M_lay 46 61 49 := ⟨15, by decide +kernel, by decide, rfl⟩
theorem d_M_lay_49 : cd_D_aload b_M_lay 49 0 50 := Or.inr ⟨0, ⟨by decide +kernel, rfl⟩, rfl⟩
theorem d_M_lay_50 : cd_D 3 b_M_lay 50 (.getfield 48) 53 := ⟨by decide +kernel, rfl⟩
theorem d_M_lay_53 : cd_D_iload b_M_lay 53 3 54 := Or.inr ⟨3, ⟨by decide +kernel, rfl⟩, rfl⟩
theorem d_M_lay_54 : cd_D 1 b_M_lay 54 .iaload 55 := ⟨by decide +kernel, rfl⟩
theorem d_M_lay_55 : cd_D_if_ge b_M_lay 55 61 58 := ⟨6, by decide +kernel, by decide, rfl⟩
theorem d_M_lay_58 : cd_D 2 b_M_lay 58 (.ldc 186) 60 := ⟨by decide +kernel, rfl⟩
theorem d_M_lay_60 : cd_D 1 b_M_lay 60 .ireturn 61 := ⟨by decide +kernel, rfl⟩
theorem d_M_lay_61 : cd_D_aload b_M_lay 61 0 62 := Or.inr ⟨0, ⟨by decide +kernel, rfl⟩, rfl⟩
theorem d_M_lay_62 : cd_D 3 b_M_lay 62 (.getfield 57) 65 := ⟨by decide +kernel, rfl⟩
theorem d_M_lay_65 : cd_D_iload b_M_lay 65 1 66 := Or.inr ⟨1, ⟨by decide +kernel, rfl⟩, rfl⟩
theorem d_M_lay_66 : cd_D 1 b_M_lay 66 .iaload 67 := ⟨by decide +kernel, rfl⟩
theorem d_M_lay_67 : cd_D_istore b_M_lay 67 4 69 := Or.inl ⟨by decide +kernel, rfl⟩
theorem d_M_lay_69 : cd_D_aload b_M_lay 69 0 70 := Or.inr ⟨0, ⟨by decide +kernel, rfl⟩, rfl⟩
theorem d_M_lay_70 : cd_D 3 b_M_lay 70 (.getfield 57) 73 := ⟨by decide +kernel, rfl⟩
theorem d_M_lay_73 : cd_D_iload b_M_lay 73 1 74 := Or.inr ⟨1, ⟨by decide +kernel, rfl⟩, rfl⟩
theorem d_M_lay_74 : cd_D_iload b_M_lay 74 2 75 := Or.inr ⟨2, ⟨by decide +kernel, rfl⟩, rfl⟩
theorem d_M_lay_75 : cd_D 1 b_M_lay 75 .iastore 76 := ⟨by decide +kernel, rfl⟩
theorem d_M_lay_76 : cd_D_aload b_M_lay 76 0 77 := Or.inr ⟨0, ⟨by decide +kernel, rfl⟩, rfl⟩
theorem d_M_lay_77 : cd_D 3 b_M_lay 77 (.getfield 60) 80 := ⟨by decide +kernel, rfl⟩
theorem d_M_lay_80 : cd_D_iload b_M_lay 80 1 81 := Or.inr ⟨1, ⟨by decide +kernel, rfl⟩, rfl⟩
theorem d_M_lay_81 : cd_D_iload b_M_lay 81 2 82 := Or.inr ⟨2, ⟨by decide +kernel, rfl⟩, rfl⟩
theorem d_M_lay_82 : cd_Dk b_M_lay 82 (nI 1) 83 := Or.inl ⟨1, ⟨by decide +kernel, rfl⟩, by decide +kernel⟩
theorem d_M_lay_83 : cd_D_icmp_ne b_M_lay 83 95 86 := ⟨12, by decide +kernel, by decide, rfl⟩
theorem d_M_lay_86 : cd_D_aload b_M_lay 86 0 87 := Or.inr ⟨0, ⟨by decide +kernel, rfl⟩, rfl⟩
theorem d_M_lay_87 : cd_D_iload b_M_lay 87 3 88 := Or.inr ⟨3, ⟨by decide +kernel, rfl⟩, rfl⟩
theorem d_M_lay_88 : cd_Dk b_M_lay 88 (nI 0) 89 := Or.inl ⟨0, ⟨by decide +kernel, rfl⟩, by decide +kernel⟩
theorem d_M_lay_89 : cd_D 3 b_M_lay 89 (.invokevirtual 97) 92 := ⟨by decide +kernel, rfl⟩
theorem d_M_lay_92 : cd_D_goto b_M_lay 92 110 := ⟨18, by decide +kernel, by decide⟩
theorem d_M_lay_95 : cd_D_iload b_M_lay 95 2 96 := Or.inr ⟨2, ⟨by decide +kernel, rfl⟩, rfl⟩
theorem d_M_lay_96 : cd_Dk b_M_lay 96 (nI 2) 97 := Or.inl ⟨2, ⟨by decide +kernel, rfl⟩, by decide +kernel⟩
theorem d_M_lay_97 : cd_D_icmp_ne b_M_lay 97 109 100 := ⟨12, by decide +kernel, by decide, rfl⟩
theorem d_M_lay_100 : cd_D_aload b_M_lay 100 0 101 := Or.inr ⟨0, ⟨by decide +kernel, rfl⟩, rfl⟩
theorem d_M_lay_101 : cd_D 3 b_M_lay 101 (.getfield 51) 104 := ⟨by decide +kernel, rfl⟩
theorem d_M_lay_104 : cd_D_iload b_M_lay 104 3 105 := Or.inr ⟨3, ⟨by decide +kernel, rfl⟩, rfl⟩
theorem d_M_lay_105 : cd_D 1 b_M_lay 105 .iaload 106 := ⟨by decide +kernel, rfl⟩
theorem d_M_lay_106 : cd_D_goto b_M_lay 106 110 := ⟨4, by decide +kernel, by decide⟩
theorem d_M_lay_109 : cd_D_iload b_M_lay 109 3 110 := Or.inr ⟨3, ⟨by decide +kernel, rfl⟩, rfl⟩
theorem d_M_lay_110 : cd_D 1 b_M_lay 110 .iastore 111 := ⟨by decide +kernel, rfl⟩
theorem d_M_lay_111 : cd_D_aload b_M_lay 111 0 112 := Or.inr ⟨0, ⟨by decide +kernel, rfl⟩, rfl⟩
theorem d_M_lay_112 : cd_D 3 b_M_lay 112 (.getfield 63) 115 := ⟨by decide +kernel, rfl⟩
theorem d_M_lay_115 : cd_D_iload b_M_lay 115 1 116 := Or.inr ⟨1, ⟨by decide +kernel, rfl⟩, rfl⟩
theorem d_M_lay_116 : cd_D_iload b_M_lay 116 2 117 := Or.inr ⟨2, ⟨by decide +kernel, rfl⟩, rfl⟩
theorem d_M_lay_117 : cd_Dk b_M_lay 117 (nI 1) 118 := Or.inl ⟨1, ⟨by decide +kernel, rfl⟩, by decide +kernel⟩
theorem d_M_lay_118 : cd_D_icmp_ne b_M_lay 118 129 121 := ⟨11, by decide +kernel, by decide, rfl⟩
theorem d_M_lay_121 : cd_D_aload b_M_lay 121 0 122 := Or.inr ⟨0, ⟨by decide +kernel, rfl⟩, rfl⟩
theorem d_M_lay_122 : cd_D_iload b_M_lay 122 3 123 := Or.inr ⟨3, ⟨by decide +kernel, rfl⟩, rfl⟩
theorem d_M_lay_123 : cd_D 3 b_M_lay 123 (.invokevirtual 127) 126 := ⟨by decide +kernel, rfl⟩
theorem d_M_lay_126 : cd_D_goto b_M_lay 126 130 := ⟨4, by decide +kernel, by decide⟩
theorem d_M_lay_129 : cd_Dk b_M_lay 129 (nI 0) 130 := Or.inl ⟨0, ⟨by decide +kernel, rfl⟩, by decide +kernel⟩
theorem d_M_lay_130 : cd_D 1 b_M_lay 130 .iastore 131 := ⟨by decide +kernel, rfl⟩
theorem d_M_lay_131 : cd_Dk b_M_lay 131 (nI 0) 132 := Or.inl ⟨0, ⟨by decide +kernel, rfl⟩, by decide +kernel⟩
theorem d_M_lay_132 : cd_D_istore b_M_lay 132 5 134 := Or.inl ⟨by decide +kernel, rfl⟩
theorem d_M_lay_134 : cd_D_iload b_M_lay 134 5 136 := Or.inl ⟨by decide +kernel, rfl⟩
theorem d_M_lay_136 : cd_Dk b_M_lay 136 (nI 24) 138 := Or.inr (Or.inl ⟨24, ⟨by decide +kernel, rfl⟩, by decide +kernel⟩)
theorem d_M_lay_138 : cd_D_icmp_ge b_M_lay 138 176 141 := ⟨38, by decide +kernel, by decide, rfl⟩
theorem d_M_lay_141 : cd_D_iload b_M_lay 141 2 142 := Or.inr ⟨2, ⟨by decide +kernel, rfl⟩, rfl⟩
theorem d_M_lay_142 : cd_Dk b_M_lay 142 (nI 2) 143 := Or.inl ⟨2, ⟨by decide +kernel, rfl⟩, by decide +kernel⟩
theorem d_M_lay_143 : cd_D_icmp_ne b_M_lay 143 176 146 := ⟨33, by decide +kernel, by decide, rfl⟩
theorem d_M_lay_146 : cd_D_aload b_M_lay 146 0 147 := Or.inr ⟨0, ⟨by decide +kernel, rfl⟩, rfl⟩
theorem d_M_lay_147 : cd_D 3 b_M_lay 147 (.getfield 66) 150 := ⟨by decide +kernel, rfl⟩
theorem d_M_lay_150 : cd_Dk b_M_lay 150 (nI 24) 152 := Or.inr (Or.inl ⟨24, ⟨by decide +kernel, rfl⟩, by decide +kernel⟩)
theorem d_M_lay_152 : cd_D_iload b_M_lay 152 1 153 := Or.inr ⟨1, ⟨by decide +kernel, rfl⟩, rfl⟩
theorem d_M_lay_153 : cd_D 1 b_M_lay 153 .imul 154 := ⟨by decide +kernel, rfl⟩
theorem d_M_lay_154 : cd_D_iload b_M_lay 154 5 156 := Or.inl ⟨by decide +kernel, rfl⟩
theorem d_M_lay_156 : cd_D 1 b_M_lay 156 .iadd 157 := ⟨by decide +kernel, rfl⟩
theorem d_M_lay_157 : cd_D_aload b_M_lay 157 0 158 := Or.inr ⟨0, ⟨by decide +kernel, rfl⟩, rfl⟩
theorem d_M_lay_158 : cd_D 3 b_M_lay 158 (.getfield 54) 161 := ⟨by decide +kernel, rfl⟩
theorem d_M_lay_161 : cd_Dk b_M_lay 161 (nI 24) 163 := Or.inr (Or.inl ⟨24, ⟨by decide +kernel, rfl⟩, by decide +kernel⟩)
theorem d_M_lay_163 : cd_D_iload b_M_lay 163 3 164 := Or.inr ⟨3, ⟨by decide +kernel, rfl⟩, rfl⟩
theorem d_M_lay_164 : cd_D 1 b_M_lay 164 .imul 165 := ⟨by decide +kernel, rfl⟩
theorem d_M_lay_165 : cd_D_iload b_M_lay 165 5 167 := Or.inl ⟨by decide +kernel, rfl⟩
theorem d_M_lay_167 : cd_D 1 b_M_lay 167 .iadd 168 := ⟨by decide +kernel, rfl⟩
theorem d_M_lay_168 : cd_D 1 b_M_lay 168 .iaload 169 := ⟨by decide +kernel, rfl⟩
theorem d_M_lay_169 : cd_D 1 b_M_lay 169 .iastore 170 := ⟨by decide +kernel, rfl⟩
theorem d_M_lay_170 : cd_D 3 b_M_lay 170 (.iinc 5 (1)) 173 := ⟨by decide +kernel, rfl⟩
theorem d_M_lay_173 : cd_D_goto b_M_lay 173 134 := ⟨-39, by decide +kernel, by decide⟩
theorem d_M_lay_176 : cd_D_iload b_M_lay 176 4 178 := Or.inl ⟨by decide +kernel, rfl⟩
theorem d_M_lay_178 : cd_D 1 b_M_lay 178 .ireturn 179 := ⟨by decide +kernel, rfl⟩
theorem c_M_lay {l : Launch} {w : cd_WT} {S : cd_Sp} {I : cd_Mem} {m : Nat} (hM : cd_MO w S m) (mm tc : Nat) (hV : cd_V (I (m + 1)) mm tc) (s t k : Int32) : cd_C l w m_M_lay 2 0 0 [.ref m, .int s, .int t, .int k] S I (cd_Fi S (sp_lay I m s t k).1 (sp_lay I m s t k).2) := by
  refine cd_intro (by decide) (by simp [Value.category]) (Nat.le_of_ble_eq_true rfl) ?_
  intro X hO hE
  show cd_J w X 0 0 S I 0 [some (.ref m), some (.int s), some (.int t), some (.int k), none, none] []
  have hmm := hV.2.1
  have loop : ∀ (z k9 : Nat) (hz : z < 5) (hk9 : k9 < 4) (ht : t = nI 2) (x4 : Int32) (hp : sp_lay I m s t k = (x4, (cd_set (cd_l3 I m z t (I (m + 14) k9) (nI 0)) (m + 19) (cd_rg (I (m + 19)) (24 * z) 24 (fun i => I (m + 15) (24 * k9 + i)))))) (r j : Nat), j + r = 24 → cd_J w X 0 0 S (cd_set (cd_l3 I m z t (I (m + 14) k9) (nI 0)) (m + 19) (cd_rg (I (m + 19)) (24 * z) j (fun i => I (m + 15) (24 * k9 + i)))) 134 [some (.ref m), some (.int (nI z)), some (.int t), some (.int (nI k9)), some (.int x4), some (.int (nI j))] [] := by
    intro z k9 hz hk9 ht x4 hp r
    induction r with
    | zero =>
      intro j hj
      have hj4 : j = 24 := by omega
      subst hj4
      refine r_iload hO d_M_lay_134 rfl ?_
      refine r_k hO d_M_lay_136 ?_
      refine r_icmp_ge hO d_M_lay_138 (fun c_138 => ?_) (fun c_138 => ?_)
      · refine r_iload hO d_M_lay_176 rfl ?_
        refine r_iret hO hE (Nat.zero_le _) (Nat.zero_le _) d_M_lay_178 ?_
        exact cd_clm hp
      · exact absurd (nI_le (Nat.le_refl _) (by omega)) c_138
    | succ r ih =>
      intro j hj
      refine r_iload hO d_M_lay_134 rfl ?_
      refine r_k hO d_M_lay_136 ?_
      refine r_icmp_ge hO d_M_lay_138 (fun c_138 => ?_) (fun c_138 => ?_)
      · exact absurd c_138 (nI_ge (by omega) (by omega))
      · refine r_iload hO d_M_lay_141 rfl ?_
        refine r_k hO d_M_lay_142 ?_
        refine r_icmp_ne hO d_M_lay_143 (fun c_143 => ?_) (fun c_143 => ?_)
        · exact absurd ht c_143
        · refine r_aload hO d_M_lay_146 rfl ?_
          refine r_getR hO f_M_66 rfl hM.2.1 (mo_r19 hM) d_M_lay_147 ?_
          try simp (disch := omega) only [cd_l3, cd_set_eq, cd_set_ne, cd_set_set]
          refine r_k hO d_M_lay_150 ?_
          refine r_iload hO d_M_lay_152 rfl ?_
          refine r_imulN hO d_M_lay_153 ?_
          refine r_iload hO d_M_lay_154 rfl ?_
          refine r_iaddN hO d_M_lay_156 ?_
          refine r_aload hO d_M_lay_157 rfl ?_
          refine r_getR hO f_M_54 rfl hM.2.1 (mo_r15 hM) d_M_lay_158 ?_
          try simp (disch := omega) only [cd_l3, cd_set_eq, cd_set_ne, cd_set_set]
          refine r_k hO d_M_lay_161 ?_
          refine r_iload hO d_M_lay_163 rfl ?_
          refine r_imulN hO d_M_lay_164 ?_
          refine r_iload hO d_M_lay_165 rfl ?_
          refine r_iaddN hO d_M_lay_167 ?_
          refine r_iald hO (mo_s15 hM) (by omega) (by decide) d_M_lay_168 ?_
          try simp (disch := omega) only [cd_l3, cd_set_eq, cd_set_ne, cd_set_set]
          refine r_iast hO (mo_s19 hM) (mo_l19 hM) (by omega) (by decide) d_M_lay_169 ?_
          try simp (disch := omega) only [cd_l3, cd_set_eq, cd_set_ne, cd_set_set]
          rw [show upd (cd_rg (I (m + 19)) (24 * z) j (fun i => I (m + 15) (24 * k9 + i))) (24 * z + j) (I (m + 15) (24 * k9 + j)) = cd_rg (I (m + 19)) (24 * z) (j + 1) (fun i => I (m + 15) (24 * k9 + i)) from cd_rg_s _ _ _ _]
          refine r_incN5 hO d_M_lay_170 rfl ?_
          refine r_goto hO d_M_lay_173 ?_
          exact ih (j + 1) (by omega)
  refine r_iload hO d_M_lay_0 rfl ?_
  refine r_cS1fi hO hE (c_M_isSlot _) mf_M_isSlot lk_M_263 (by decide) rfl (Nat.le_of_ble_eq_true rfl) d_M_lay_1 (Nat.zero_le _) (Nat.zero_le _) ?_
  try simp (disch := omega) only [cd_set_eq, cd_set_ne, cd_set_set]
  refine r_if_eqB hO d_M_lay_4 (fun c_4 => ?_) (fun c_4 => ?_)
  · refine r_ldc hO k_M_87 d_M_lay_41 ?_
    refine r_iret hO hE (Nat.zero_le _) (Nat.zero_le _) d_M_lay_43 ?_
    exact cd_clm (by unfold sp_lay; rw [if_neg c_4])
  · obtain ⟨z, hz1, hz2, rfl⟩ := cd_in_ex c_4 (by decide) (by decide)
    refine r_iload hO d_M_lay_7 rfl ?_
    refine r_k hO d_M_lay_8 ?_
    refine r_k hO d_M_lay_9 ?_
    refine r_cS3fi hO hE (c_M_in _ _ _) mf_M_in lk_M_75 (by decide) rfl (Nat.le_of_ble_eq_true rfl) d_M_lay_10 (Nat.zero_le _) (Nat.zero_le _) ?_
    try simp (disch := omega) only [cd_set_eq, cd_set_ne, cd_set_set]
    refine r_if_eqB hO d_M_lay_13 (fun c_13 => ?_) (fun c_13 => ?_)
    · refine r_ldc hO k_M_87 d_M_lay_41 ?_
      refine r_iret hO hE (Nat.zero_le _) (Nat.zero_le _) d_M_lay_43 ?_
      exact cd_clm (by unfold sp_lay; rw [if_pos c_4, if_neg c_13])
    · refine r_iload hO d_M_lay_16 rfl ?_
      refine r_k hO d_M_lay_17 ?_
      refine r_icmp_ne hO d_M_lay_18 (fun c_18 => ?_) (fun c_18 => ?_)
      · refine r_iload hO d_M_lay_29 rfl ?_
        refine r_k hO d_M_lay_30 ?_
        refine r_icmp_ne hO d_M_lay_31 (fun c_31 => ?_) (fun c_31 => ?_)
        · refine r_iload hO d_M_lay_44 rfl ?_
          refine r_k hO d_M_lay_45 ?_
          refine r_icmp_ne hO d_M_lay_46 (fun c_46 => ?_) (fun c_46 => ?_)
          · refine r_aload hO d_M_lay_61 rfl ?_
            refine r_getR hO f_M_57 rfl hM.2.1 (mo_r16 hM) d_M_lay_62 ?_
            try simp (disch := omega) only [cd_set_eq, cd_set_ne, cd_set_set]
            refine r_iload hO d_M_lay_65 rfl ?_
            refine r_iald hO (mo_s16 hM) (by omega) (by decide) d_M_lay_66 ?_
            try simp (disch := omega) only [cd_set_eq, cd_set_ne, cd_set_set]
            refine r_sI4 hO d_M_lay_67 rfl ?_
            refine r_aload hO d_M_lay_69 rfl ?_
            refine r_getR hO f_M_57 rfl hM.2.1 (mo_r16 hM) d_M_lay_70 ?_
            try simp (disch := omega) only [cd_set_eq, cd_set_ne, cd_set_set]
            refine r_iload hO d_M_lay_73 rfl ?_
            refine r_iload hO d_M_lay_74 rfl ?_
            refine r_iast hO (mo_s16 hM) (mo_l16 hM) (by omega) (by decide) d_M_lay_75 ?_
            try simp (disch := omega) only [cd_set_eq, cd_set_ne, cd_set_set]
            refine r_aload hO d_M_lay_76 rfl ?_
            refine r_getR hO f_M_60 rfl hM.2.1 (mo_r17 hM) d_M_lay_77 ?_
            try simp (disch := omega) only [cd_set_eq, cd_set_ne, cd_set_set]
            refine r_iload hO d_M_lay_80 rfl ?_
            refine r_iload hO d_M_lay_81 rfl ?_
            refine r_k hO d_M_lay_82 ?_
            refine r_icmp_ne hO d_M_lay_83 (fun c_83 => ?_) (fun c_83 => ?_)
            · refine r_iload hO d_M_lay_95 rfl ?_
              refine r_k hO d_M_lay_96 ?_
              refine r_icmp_ne hO d_M_lay_97 (fun c_97 => ?_) (fun c_97 => ?_)
              · refine r_iload hO d_M_lay_109 rfl ?_
                refine r_iast hO (mo_s17 hM) (mo_l17 hM) (by omega) (by decide) d_M_lay_110 ?_
                try simp (disch := omega) only [cd_set_eq, cd_set_ne, cd_set_set]
                refine r_aload hO d_M_lay_111 rfl ?_
                refine r_getR hO f_M_63 rfl hM.2.1 (mo_r18 hM) d_M_lay_112 ?_
                try simp (disch := omega) only [cd_set_eq, cd_set_ne, cd_set_set]
                refine r_iload hO d_M_lay_115 rfl ?_
                refine r_iload hO d_M_lay_116 rfl ?_
                refine r_k hO d_M_lay_117 ?_
                refine r_icmp_ne hO d_M_lay_118 (fun c_118 => ?_) (fun c_118 => ?_)
                · refine r_k hO d_M_lay_129 ?_
                  refine r_iast hO (mo_s18 hM) (mo_l18 hM) (by omega) (by decide) d_M_lay_130 ?_
                  try simp (disch := omega) only [cd_set_eq, cd_set_ne, cd_set_set]
                  refine r_k hO d_M_lay_131 ?_
                  refine r_sI5 hO d_M_lay_132 rfl ?_
                  refine r_iload hO d_M_lay_134 rfl ?_
                  refine r_k hO d_M_lay_136 ?_
                  refine r_icmp_ge hO d_M_lay_138 (fun c_138 => ?_) (fun c_138 => ?_)
                  · exact absurd c_138 (by decide)
                  · refine r_iload hO d_M_lay_141 rfl ?_
                    refine r_k hO d_M_lay_142 ?_
                    refine r_icmp_ne hO d_M_lay_143 (fun c_143 => ?_) (fun c_143 => ?_)
                    · refine r_iload hO d_M_lay_176 rfl ?_
                      refine r_iret hO hE (Nat.zero_le _) (Nat.zero_le _) d_M_lay_178 ?_
                      exact cd_clm (by unfold sp_lay; rw [if_pos c_4, if_pos c_13, if_neg c_18, if_neg c_31, cd_tn_nI (by omega)]; rfl)
                    · exact absurd c_143 c_31
                · exact absurd c_118 c_18
              · exact absurd c_97 c_31
            · exact absurd c_83 c_18
          · exact absurd c_46 c_31
        · refine r_iload hO d_M_lay_34 rfl ?_
          refine r_cS1fi hO hE (c_M_isSheet _) mf_M_isSheet lk_M_183 (by decide) rfl (Nat.le_of_ble_eq_true rfl) d_M_lay_35 (Nat.zero_le _) (Nat.zero_le _) ?_
          try simp (disch := omega) only [cd_set_eq, cd_set_ne, cd_set_set]
          refine r_if_neB hO d_M_lay_38 (fun c_38 => ?_) (fun c_38 => ?_)
          · obtain ⟨k9, hk1, hk2, rfl⟩ := cd_in_ex c_38 (by decide) (by decide)
            refine r_iload hO d_M_lay_44 rfl ?_
            refine r_k hO d_M_lay_45 ?_
            refine r_icmp_ne hO d_M_lay_46 (fun c_46 => ?_) (fun c_46 => ?_)
            · exact absurd c_31 c_46
            · refine r_aload hO d_M_lay_49 rfl ?_
              refine r_getR hO f_M_48 rfl hM.2.1 (mo_r13 hM) d_M_lay_50 ?_
              try simp (disch := omega) only [cd_set_eq, cd_set_ne, cd_set_set]
              refine r_iload hO d_M_lay_53 rfl ?_
              refine r_iald hO (mo_s13 hM) (by omega) (by decide) d_M_lay_54 ?_
              try simp (disch := omega) only [cd_set_eq, cd_set_ne, cd_set_set]
              refine r_if_ge hO d_M_lay_55 (fun c_55 => ?_) (fun c_55 => ?_)
              · refine r_aload hO d_M_lay_61 rfl ?_
                refine r_getR hO f_M_57 rfl hM.2.1 (mo_r16 hM) d_M_lay_62 ?_
                try simp (disch := omega) only [cd_set_eq, cd_set_ne, cd_set_set]
                refine r_iload hO d_M_lay_65 rfl ?_
                refine r_iald hO (mo_s16 hM) (by omega) (by decide) d_M_lay_66 ?_
                try simp (disch := omega) only [cd_set_eq, cd_set_ne, cd_set_set]
                refine r_sI4 hO d_M_lay_67 rfl ?_
                refine r_aload hO d_M_lay_69 rfl ?_
                refine r_getR hO f_M_57 rfl hM.2.1 (mo_r16 hM) d_M_lay_70 ?_
                try simp (disch := omega) only [cd_set_eq, cd_set_ne, cd_set_set]
                refine r_iload hO d_M_lay_73 rfl ?_
                refine r_iload hO d_M_lay_74 rfl ?_
                refine r_iast hO (mo_s16 hM) (mo_l16 hM) (by omega) (by decide) d_M_lay_75 ?_
                try simp (disch := omega) only [cd_set_eq, cd_set_ne, cd_set_set]
                refine r_aload hO d_M_lay_76 rfl ?_
                refine r_getR hO f_M_60 rfl hM.2.1 (mo_r17 hM) d_M_lay_77 ?_
                try simp (disch := omega) only [cd_set_eq, cd_set_ne, cd_set_set]
                refine r_iload hO d_M_lay_80 rfl ?_
                refine r_iload hO d_M_lay_81 rfl ?_
                refine r_k hO d_M_lay_82 ?_
                refine r_icmp_ne hO d_M_lay_83 (fun c_83 => ?_) (fun c_83 => ?_)
                · refine r_iload hO d_M_lay_95 rfl ?_
                  refine r_k hO d_M_lay_96 ?_
                  refine r_icmp_ne hO d_M_lay_97 (fun c_97 => ?_) (fun c_97 => ?_)
                  · exact absurd c_31 c_97
                  · refine r_aload hO d_M_lay_100 rfl ?_
                    refine r_getR hO f_M_51 rfl hM.2.1 (mo_r14 hM) d_M_lay_101 ?_
                    try simp (disch := omega) only [cd_set_eq, cd_set_ne, cd_set_set]
                    refine r_iload hO d_M_lay_104 rfl ?_
                    refine r_iald hO (mo_s14 hM) (by omega) (by decide) d_M_lay_105 ?_
                    try simp (disch := omega) only [cd_set_eq, cd_set_ne, cd_set_set]
                    refine r_goto hO d_M_lay_106 ?_
                    refine r_iast hO (mo_s17 hM) (mo_l17 hM) (by omega) (by decide) d_M_lay_110 ?_
                    try simp (disch := omega) only [cd_set_eq, cd_set_ne, cd_set_set]
                    refine r_aload hO d_M_lay_111 rfl ?_
                    refine r_getR hO f_M_63 rfl hM.2.1 (mo_r18 hM) d_M_lay_112 ?_
                    try simp (disch := omega) only [cd_set_eq, cd_set_ne, cd_set_set]
                    refine r_iload hO d_M_lay_115 rfl ?_
                    refine r_iload hO d_M_lay_116 rfl ?_
                    refine r_k hO d_M_lay_117 ?_
                    refine r_icmp_ne hO d_M_lay_118 (fun c_118 => ?_) (fun c_118 => ?_)
                    · refine r_k hO d_M_lay_129 ?_
                      refine r_iast hO (mo_s18 hM) (mo_l18 hM) (by omega) (by decide) d_M_lay_130 ?_
                      try simp (disch := omega) only [cd_set_eq, cd_set_ne, cd_set_set]
                      refine r_k hO d_M_lay_131 ?_
                      refine r_sI5 hO d_M_lay_132 rfl ?_
                      refine r_mem (show _ = (cd_set (cd_l3 I m z t (I (m + 14) k9) (nI 0)) (m + 19) (cd_rg (I (m + 19)) (24 * z) 0 (fun i => I (m + 15) (24 * k9 + i)))) by rw [cd_rg_0]; exact (cd_set_self_at _ _ (by simp (disch := omega) only [cd_l3, cd_set_ne])).symm) ?_
                      exact loop z k9 (by omega) (by omega) c_31 _ (by unfold sp_lay; rw [if_pos c_4, if_pos c_13, if_neg c_18, if_pos c_31, if_pos c_38, cd_tn_nI (by omega), cd_tn_nI (by omega), if_pos c_55]) 24 0 (by decide)
                    · exact absurd c_118 c_18
                · exact absurd c_83 c_18
              · refine r_ldc hO k_M_186 d_M_lay_58 ?_
                refine r_iret hO hE (Nat.zero_le _) (Nat.zero_le _) d_M_lay_60 ?_
                exact cd_clm (by unfold sp_lay; rw [if_pos c_4, if_pos c_13, if_neg c_18, if_pos c_31, if_pos c_38, cd_tn_nI (by omega), cd_tn_nI (by omega), if_neg c_55])
          · refine r_ldc hO k_M_87 d_M_lay_41 ?_
            refine r_iret hO hE (Nat.zero_le _) (Nat.zero_le _) d_M_lay_43 ?_
            exact cd_clm (by unfold sp_lay; rw [if_pos c_4, if_pos c_13, if_neg c_18, if_pos c_31, if_neg c_38])
      · refine r_aload hO d_M_lay_21 rfl ?_
        refine r_iload hO d_M_lay_22 rfl ?_
        refine r_cV1fi hO hE (c_M_isAsking hM _) mf_M_isAsking lk_M_108 hM.2.1 rfl (by decide) rfl (Nat.le_of_ble_eq_true rfl) d_M_lay_23 (Nat.zero_le _) (Nat.zero_le _) ?_
        try simp (disch := omega) only [cd_set_eq, cd_set_ne, cd_set_set]
        refine r_if_eqB hO d_M_lay_26 (fun c_26 => ?_) (fun c_26 => ?_)
        · refine r_ldc hO k_M_87 d_M_lay_41 ?_
          refine r_iret hO hE (Nat.zero_le _) (Nat.zero_le _) d_M_lay_43 ?_
          exact cd_clm (by unfold sp_lay; rw [if_pos c_4, if_pos c_13, if_pos c_18, if_neg c_26])
        · obtain ⟨i, hi, rfl⟩ := cd_isA_ex hV.1 hV.2.1 c_26
          refine r_iload hO d_M_lay_29 rfl ?_
          refine r_k hO d_M_lay_30 ?_
          refine r_icmp_ne hO d_M_lay_31 (fun c_31 => ?_) (fun c_31 => ?_)
          · refine r_iload hO d_M_lay_44 rfl ?_
            refine r_k hO d_M_lay_45 ?_
            refine r_icmp_ne hO d_M_lay_46 (fun c_46 => ?_) (fun c_46 => ?_)
            · refine r_aload hO d_M_lay_61 rfl ?_
              refine r_getR hO f_M_57 rfl hM.2.1 (mo_r16 hM) d_M_lay_62 ?_
              try simp (disch := omega) only [cd_set_eq, cd_set_ne, cd_set_set]
              refine r_iload hO d_M_lay_65 rfl ?_
              refine r_iald hO (mo_s16 hM) (by omega) (by decide) d_M_lay_66 ?_
              try simp (disch := omega) only [cd_set_eq, cd_set_ne, cd_set_set]
              refine r_sI4 hO d_M_lay_67 rfl ?_
              refine r_aload hO d_M_lay_69 rfl ?_
              refine r_getR hO f_M_57 rfl hM.2.1 (mo_r16 hM) d_M_lay_70 ?_
              try simp (disch := omega) only [cd_set_eq, cd_set_ne, cd_set_set]
              refine r_iload hO d_M_lay_73 rfl ?_
              refine r_iload hO d_M_lay_74 rfl ?_
              refine r_iast hO (mo_s16 hM) (mo_l16 hM) (by omega) (by decide) d_M_lay_75 ?_
              try simp (disch := omega) only [cd_set_eq, cd_set_ne, cd_set_set]
              refine r_aload hO d_M_lay_76 rfl ?_
              refine r_getR hO f_M_60 rfl hM.2.1 (mo_r17 hM) d_M_lay_77 ?_
              try simp (disch := omega) only [cd_set_eq, cd_set_ne, cd_set_set]
              refine r_iload hO d_M_lay_80 rfl ?_
              refine r_iload hO d_M_lay_81 rfl ?_
              refine r_k hO d_M_lay_82 ?_
              refine r_icmp_ne hO d_M_lay_83 (fun c_83 => ?_) (fun c_83 => ?_)
              · exact absurd c_18 c_83
              · refine r_aload hO d_M_lay_86 rfl ?_
                refine r_iload hO d_M_lay_87 rfl ?_
                refine r_k hO d_M_lay_88 ?_
                refine r_cV2fi hO hE (c_M_of hM _ _ (by omega)) mf_M_of lk_M_97 hM.2.1 rfl (by decide) rfl (Nat.le_of_ble_eq_true rfl) d_M_lay_89 (Nat.zero_le _) (Nat.zero_le _) ?_
                try simp (disch := omega) only [cd_set_eq, cd_set_ne, cd_set_set]
                refine r_goto hO d_M_lay_92 ?_
                refine r_iast hO (mo_s17 hM) (mo_l17 hM) (by omega) (by decide) d_M_lay_110 ?_
                try simp (disch := omega) only [cd_set_eq, cd_set_ne, cd_set_set]
                refine r_aload hO d_M_lay_111 rfl ?_
                refine r_getR hO f_M_63 rfl hM.2.1 (mo_r18 hM) d_M_lay_112 ?_
                try simp (disch := omega) only [cd_set_eq, cd_set_ne, cd_set_set]
                refine r_iload hO d_M_lay_115 rfl ?_
                refine r_iload hO d_M_lay_116 rfl ?_
                refine r_k hO d_M_lay_117 ?_
                refine r_icmp_ne hO d_M_lay_118 (fun c_118 => ?_) (fun c_118 => ?_)
                · exact absurd c_18 c_118
                · refine r_aload hO d_M_lay_121 rfl ?_
                  refine r_iload hO d_M_lay_122 rfl ?_
                  refine r_cV1fi hO hE (c_M_worthOf hM _ (by omega)) mf_M_worthOf lk_M_127 hM.2.1 rfl (by decide) rfl (Nat.le_of_ble_eq_true rfl) d_M_lay_123 (Nat.zero_le _) (Nat.zero_le _) ?_
                  try simp (disch := omega) only [cd_set_eq, cd_set_ne, cd_set_set]
                  refine r_goto hO d_M_lay_126 ?_
                  refine r_iast hO (mo_s18 hM) (mo_l18 hM) (by omega) (by decide) d_M_lay_130 ?_
                  try simp (disch := omega) only [cd_set_eq, cd_set_ne, cd_set_set]
                  refine r_k hO d_M_lay_131 ?_
                  refine r_sI5 hO d_M_lay_132 rfl ?_
                  refine r_iload hO d_M_lay_134 rfl ?_
                  refine r_k hO d_M_lay_136 ?_
                  refine r_icmp_ge hO d_M_lay_138 (fun c_138 => ?_) (fun c_138 => ?_)
                  · exact absurd c_138 (by decide)
                  · refine r_iload hO d_M_lay_141 rfl ?_
                    refine r_k hO d_M_lay_142 ?_
                    refine r_icmp_ne hO d_M_lay_143 (fun c_143 => ?_) (fun c_143 => ?_)
                    · refine r_iload hO d_M_lay_176 rfl ?_
                      refine r_iret hO hE (Nat.zero_le _) (Nat.zero_le _) d_M_lay_178 ?_
                      exact cd_clm (by unfold sp_lay; rw [if_pos c_4, if_pos c_13, if_pos c_18, if_pos c_26, cd_tn_nI (by omega), cd_tn_nI (by omega)]; rfl)
                    · exact absurd c_143 c_31
            · exact absurd c_46 c_31
          · exact absurd (c_18.symm.trans c_31) (by decide)
theorem d_M_ask_0 : cd_D_iload b_M_ask 0 1 1 := Or.inr ⟨1, ⟨by decide +kernel, rfl⟩, rfl⟩
theorem d_M_ask_1 : cd_D 3 b_M_ask 1 (.invokestatic 263) 4 := ⟨by decide +kernel, rfl⟩
theorem d_M_ask_4 : cd_D_if_eq b_M_ask 4 16 7 := ⟨12, by decide +kernel, by decide, rfl⟩
theorem d_M_ask_7 : cd_D_iload b_M_ask 7 2 8 := Or.inr ⟨2, ⟨by decide +kernel, rfl⟩, rfl⟩
theorem d_M_ask_8 : cd_Dk b_M_ask 8 (nI 0) 9 := Or.inl ⟨0, ⟨by decide +kernel, rfl⟩, by decide +kernel⟩
theorem d_M_ask_9 : cd_Dk b_M_ask 9 (nI 5) 10 := Or.inl ⟨5, ⟨by decide +kernel, rfl⟩, by decide +kernel⟩
theorem d_M_ask_10 : cd_D 3 b_M_ask 10 (.invokestatic 75) 13 := ⟨by decide +kernel, rfl⟩
theorem d_M_ask_13 : cd_D_if_ne b_M_ask 13 19 16 := ⟨6, by decide +kernel, by decide, rfl⟩
theorem d_M_ask_16 : cd_D 2 b_M_ask 16 (.ldc 87) 18 := ⟨by decide +kernel, rfl⟩
theorem d_M_ask_18 : cd_D 1 b_M_ask 18 .ireturn 19 := ⟨by decide +kernel, rfl⟩
theorem d_M_ask_19 : cd_D_aload b_M_ask 19 0 20 := Or.inr ⟨0, ⟨by decide +kernel, rfl⟩, rfl⟩
theorem d_M_ask_20 : cd_D 3 b_M_ask 20 (.getfield 57) 23 := ⟨by decide +kernel, rfl⟩
theorem d_M_ask_23 : cd_D_iload b_M_ask 23 1 24 := Or.inr ⟨1, ⟨by decide +kernel, rfl⟩, rfl⟩
theorem d_M_ask_24 : cd_D 1 b_M_ask 24 .iaload 25 := ⟨by decide +kernel, rfl⟩
theorem d_M_ask_25 : cd_D_if_ne b_M_ask 25 31 28 := ⟨6, by decide +kernel, by decide, rfl⟩
theorem d_M_ask_28 : cd_D 2 b_M_ask 28 (.ldc 186) 30 := ⟨by decide +kernel, rfl⟩
theorem d_M_ask_30 : cd_D 1 b_M_ask 30 .ireturn 31 := ⟨by decide +kernel, rfl⟩
theorem d_M_ask_31 : cd_D_aload b_M_ask 31 0 32 := Or.inr ⟨0, ⟨by decide +kernel, rfl⟩, rfl⟩
theorem d_M_ask_32 : cd_D 3 b_M_ask 32 (.getfield 57) 35 := ⟨by decide +kernel, rfl⟩
theorem d_M_ask_35 : cd_D_iload b_M_ask 35 1 36 := Or.inr ⟨1, ⟨by decide +kernel, rfl⟩, rfl⟩
theorem d_M_ask_36 : cd_D 1 b_M_ask 36 .iaload 37 := ⟨by decide +kernel, rfl⟩
theorem d_M_ask_37 : cd_Dk b_M_ask 37 (nI 1) 38 := Or.inl ⟨1, ⟨by decide +kernel, rfl⟩, by decide +kernel⟩
theorem d_M_ask_38 : cd_D_icmp_ne b_M_ask 38 63 41 := ⟨25, by decide +kernel, by decide, rfl⟩
theorem d_M_ask_41 : cd_D_aload b_M_ask 41 0 42 := Or.inr ⟨0, ⟨by decide +kernel, rfl⟩, rfl⟩
theorem d_M_ask_42 : cd_D 3 b_M_ask 42 (.getfield 60) 45 := ⟨by decide +kernel, rfl⟩
theorem d_M_ask_45 : cd_D_iload b_M_ask 45 1 46 := Or.inr ⟨1, ⟨by decide +kernel, rfl⟩, rfl⟩
theorem d_M_ask_46 : cd_D 1 b_M_ask 46 .iaload 47 := ⟨by decide +kernel, rfl⟩
theorem d_M_ask_47 : cd_D_iload b_M_ask 47 2 48 := Or.inr ⟨2, ⟨by decide +kernel, rfl⟩, rfl⟩
theorem d_M_ask_48 : cd_D 3 b_M_ask 48 (.invokestatic 130) 51 := ⟨by decide +kernel, rfl⟩
theorem d_M_ask_51 : cd_D_if_eq b_M_ask 51 63 54 := ⟨12, by decide +kernel, by decide, rfl⟩
theorem d_M_ask_54 : cd_D_aload b_M_ask 54 0 55 := Or.inr ⟨0, ⟨by decide +kernel, rfl⟩, rfl⟩
theorem d_M_ask_55 : cd_D 3 b_M_ask 55 (.getfield 63) 58 := ⟨by decide +kernel, rfl⟩
theorem d_M_ask_58 : cd_D_iload b_M_ask 58 1 59 := Or.inr ⟨1, ⟨by decide +kernel, rfl⟩, rfl⟩
theorem d_M_ask_59 : cd_D 1 b_M_ask 59 .iaload 60 := ⟨by decide +kernel, rfl⟩
theorem d_M_ask_60 : cd_D_goto b_M_ask 60 65 := ⟨5, by decide +kernel, by decide⟩
theorem d_M_ask_63 : cd_D 2 b_M_ask 63 (.ldc 133) 65 := ⟨by decide +kernel, rfl⟩
theorem d_M_ask_65 : cd_D 1 b_M_ask 65 .ireturn 66 := ⟨by decide +kernel, rfl⟩
theorem c_M_ask {l : Launch} {w : cd_WT} {S : cd_Sp} {I : cd_Mem} {m : Nat} (hM : cd_MO w S m) (s k : Int32) : cd_C l w m_M_ask 2 0 0 [.ref m, .int s, .int k] S I (cd_Fi S (sp_ask (I (m + 16)) (I (m + 17)) (I (m + 18)) s k) I) := by
  refine cd_intro (by decide) (by simp [Value.category]) (Nat.le_of_ble_eq_true rfl) ?_
  intro X hO hE
  show cd_J w X 0 0 S I 0 [some (.ref m), some (.int s), some (.int k)] []
  refine r_iload hO d_M_ask_0 rfl ?_
  refine r_cS1fi hO hE (c_M_isSlot _) mf_M_isSlot lk_M_263 (by decide) rfl (Nat.le_of_ble_eq_true rfl) d_M_ask_1 (Nat.zero_le _) (Nat.zero_le _) ?_
  refine r_if_eqB hO d_M_ask_4 (fun c_4 => ?_) (fun c_4 => ?_)
  · refine r_ldc hO k_M_87 d_M_ask_16 ?_
    refine r_iret hO hE (Nat.zero_le _) (Nat.zero_le _) d_M_ask_18 ?_
    exact ⟨by unfold sp_ask; rw [if_neg c_4], rfl, rfl⟩
  · obtain ⟨z, hz1, hz2, rfl⟩ := cd_in_ex c_4 (by decide) (by decide)
    refine r_iload hO d_M_ask_7 rfl ?_
    refine r_k hO d_M_ask_8 ?_
    refine r_k hO d_M_ask_9 ?_
    refine r_cS3fi hO hE (c_M_in _ _ _) mf_M_in lk_M_75 (by decide) rfl (Nat.le_of_ble_eq_true rfl) d_M_ask_10 (Nat.zero_le _) (Nat.zero_le _) ?_
    refine r_if_neB hO d_M_ask_13 (fun c_13 => ?_) (fun c_13 => ?_)
    · refine r_aload hO d_M_ask_19 rfl ?_
      refine r_getR hO f_M_57 rfl hM.2.1 (mo_r16 hM) d_M_ask_20 ?_
      refine r_iload hO d_M_ask_23 rfl ?_
      refine r_iald hO (mo_s16 hM) (by omega) (by decide) d_M_ask_24 ?_
      refine r_if_ne hO d_M_ask_25 (fun c_25 => ?_) (fun c_25 => ?_)
      · refine r_aload hO d_M_ask_31 rfl ?_
        refine r_getR hO f_M_57 rfl hM.2.1 (mo_r16 hM) d_M_ask_32 ?_
        refine r_iload hO d_M_ask_35 rfl ?_
        refine r_iald hO (mo_s16 hM) (by omega) (by decide) d_M_ask_36 ?_
        refine r_k hO d_M_ask_37 ?_
        refine r_icmp_ne hO d_M_ask_38 (fun c_38 => ?_) (fun c_38 => ?_)
        · refine r_ldc hO k_M_133 d_M_ask_63 ?_
          refine r_iret hO hE (Nat.zero_le _) (Nat.zero_le _) d_M_ask_65 ?_
          exact ⟨by unfold sp_ask; rw [if_pos c_4, if_pos c_13, cd_tn_nI (by omega), if_neg c_25, if_neg c_38], rfl, rfl⟩
        · refine r_aload hO d_M_ask_41 rfl ?_
          refine r_getR hO f_M_60 rfl hM.2.1 (mo_r17 hM) d_M_ask_42 ?_
          refine r_iload hO d_M_ask_45 rfl ?_
          refine r_iald hO (mo_s17 hM) (by omega) (by decide) d_M_ask_46 ?_
          refine r_iload hO d_M_ask_47 rfl ?_
          refine r_cS2fi hO hE (c_M_isUnder _ _) mf_M_isUnder lk_M_130 (by decide) rfl (Nat.le_of_ble_eq_true rfl) d_M_ask_48 (Nat.zero_le _) (Nat.zero_le _) ?_
          refine r_if_eqB hO d_M_ask_51 (fun c_51 => ?_) (fun c_51 => ?_)
          · refine r_ldc hO k_M_133 d_M_ask_63 ?_
            refine r_iret hO hE (Nat.zero_le _) (Nat.zero_le _) d_M_ask_65 ?_
            exact ⟨by unfold sp_ask; rw [if_pos c_4, if_pos c_13, cd_tn_nI (by omega), if_neg c_25, if_pos c_38, if_neg c_51], rfl, rfl⟩
          · refine r_aload hO d_M_ask_54 rfl ?_
            refine r_getR hO f_M_63 rfl hM.2.1 (mo_r18 hM) d_M_ask_55 ?_
            refine r_iload hO d_M_ask_58 rfl ?_
            refine r_iald hO (mo_s18 hM) (by omega) (by decide) d_M_ask_59 ?_
            refine r_goto hO d_M_ask_60 ?_
            refine r_iret hO hE (Nat.zero_le _) (Nat.zero_le _) d_M_ask_65 ?_
            exact ⟨by unfold sp_ask; rw [if_pos c_4, if_pos c_13, cd_tn_nI (by omega), if_neg c_25, if_pos c_38, if_pos c_51], rfl, rfl⟩
      · refine r_ldc hO k_M_186 d_M_ask_28 ?_
        refine r_iret hO hE (Nat.zero_le _) (Nat.zero_le _) d_M_ask_30 ?_
        exact ⟨by unfold sp_ask; rw [if_pos c_4, if_pos c_13, cd_tn_nI (by omega), if_pos c_25], rfl, rfl⟩
    · refine r_ldc hO k_M_87 d_M_ask_16 ?_
      refine r_iret hO hE (Nat.zero_le _) (Nat.zero_le _) d_M_ask_18 ?_
      exact ⟨by unfold sp_ask; rw [if_pos c_4, if_neg c_13], rfl, rfl⟩
theorem d_M_item_0 : cd_D_iload b_M_item 0 1 1 := Or.inr ⟨1, ⟨by decide +kernel, rfl⟩, rfl⟩
theorem d_M_item_1 : cd_D 3 b_M_item 1 (.invokestatic 263) 4 := ⟨by decide +kernel, rfl⟩
theorem d_M_item_4 : cd_D_if_ne b_M_item 4 10 7 := ⟨6, by decide +kernel, by decide, rfl⟩
theorem d_M_item_7 : cd_D 2 b_M_item 7 (.ldc 87) 9 := ⟨by decide +kernel, rfl⟩
theorem d_M_item_9 : cd_D 1 b_M_item 9 .ireturn 10 := ⟨by decide +kernel, rfl⟩
theorem d_M_item_10 : cd_D_aload b_M_item 10 0 11 := Or.inr ⟨0, ⟨by decide +kernel, rfl⟩, rfl⟩
theorem d_M_item_11 : cd_D 3 b_M_item 11 (.getfield 57) 14 := ⟨by decide +kernel, rfl⟩
theorem d_M_item_14 : cd_D_iload b_M_item 14 1 15 := Or.inr ⟨1, ⟨by decide +kernel, rfl⟩, rfl⟩
theorem d_M_item_15 : cd_D 1 b_M_item 15 .iaload 16 := ⟨by decide +kernel, rfl⟩
theorem d_M_item_16 : cd_D_if_ne b_M_item 16 22 19 := ⟨6, by decide +kernel, by decide, rfl⟩
theorem d_M_item_19 : cd_D 2 b_M_item 19 (.ldc 186) 21 := ⟨by decide +kernel, rfl⟩
theorem d_M_item_21 : cd_D 1 b_M_item 21 .ireturn 22 := ⟨by decide +kernel, rfl⟩
theorem d_M_item_22 : cd_D_aload b_M_item 22 0 23 := Or.inr ⟨0, ⟨by decide +kernel, rfl⟩, rfl⟩
theorem d_M_item_23 : cd_D 3 b_M_item 23 (.getfield 57) 26 := ⟨by decide +kernel, rfl⟩
theorem d_M_item_26 : cd_D_iload b_M_item 26 1 27 := Or.inr ⟨1, ⟨by decide +kernel, rfl⟩, rfl⟩
theorem d_M_item_27 : cd_D 1 b_M_item 27 .iaload 28 := ⟨by decide +kernel, rfl⟩
theorem d_M_item_28 : cd_Dk b_M_item 28 (nI 2) 29 := Or.inl ⟨2, ⟨by decide +kernel, rfl⟩, by decide +kernel⟩
theorem d_M_item_29 : cd_D_icmp_eq b_M_item 29 35 32 := ⟨6, by decide +kernel, by decide, rfl⟩
theorem d_M_item_32 : cd_D 2 b_M_item 32 (.ldc 133) 34 := ⟨by decide +kernel, rfl⟩
theorem d_M_item_34 : cd_D 1 b_M_item 34 .ireturn 35 := ⟨by decide +kernel, rfl⟩
theorem d_M_item_35 : cd_D_iload b_M_item 35 2 36 := Or.inr ⟨2, ⟨by decide +kernel, rfl⟩, rfl⟩
theorem d_M_item_36 : cd_Dk b_M_item 36 (nI 0) 37 := Or.inl ⟨0, ⟨by decide +kernel, rfl⟩, by decide +kernel⟩
theorem d_M_item_37 : cd_D_aload b_M_item 37 0 38 := Or.inr ⟨0, ⟨by decide +kernel, rfl⟩, rfl⟩
theorem d_M_item_38 : cd_D 3 b_M_item 38 (.getfield 60) 41 := ⟨by decide +kernel, rfl⟩
theorem d_M_item_41 : cd_D_iload b_M_item 41 1 42 := Or.inr ⟨1, ⟨by decide +kernel, rfl⟩, rfl⟩
theorem d_M_item_42 : cd_D 1 b_M_item 42 .iaload 43 := ⟨by decide +kernel, rfl⟩
theorem d_M_item_43 : cd_Dk b_M_item 43 (nI 1) 44 := Or.inl ⟨1, ⟨by decide +kernel, rfl⟩, by decide +kernel⟩
theorem d_M_item_44 : cd_D 1 b_M_item 44 .isub 45 := ⟨by decide +kernel, rfl⟩
theorem d_M_item_45 : cd_D 3 b_M_item 45 (.invokestatic 75) 48 := ⟨by decide +kernel, rfl⟩
theorem d_M_item_48 : cd_D_if_ne b_M_item 48 55 51 := ⟨7, by decide +kernel, by decide, rfl⟩
theorem d_M_item_51 : cd_D 3 b_M_item 51 (.ldc_w 260) 54 := ⟨by decide +kernel, rfl⟩
theorem d_M_item_54 : cd_D 1 b_M_item 54 .ireturn 55 := ⟨by decide +kernel, rfl⟩
theorem d_M_item_55 : cd_D_aload b_M_item 55 0 56 := Or.inr ⟨0, ⟨by decide +kernel, rfl⟩, rfl⟩
theorem d_M_item_56 : cd_D 3 b_M_item 56 (.getfield 66) 59 := ⟨by decide +kernel, rfl⟩
theorem d_M_item_59 : cd_Dk b_M_item 59 (nI 24) 61 := Or.inr (Or.inl ⟨24, ⟨by decide +kernel, rfl⟩, by decide +kernel⟩)
theorem d_M_item_61 : cd_D_iload b_M_item 61 1 62 := Or.inr ⟨1, ⟨by decide +kernel, rfl⟩, rfl⟩
theorem d_M_item_62 : cd_D 1 b_M_item 62 .imul 63 := ⟨by decide +kernel, rfl⟩
theorem d_M_item_63 : cd_D_iload b_M_item 63 2 64 := Or.inr ⟨2, ⟨by decide +kernel, rfl⟩, rfl⟩
theorem d_M_item_64 : cd_D 1 b_M_item 64 .iadd 65 := ⟨by decide +kernel, rfl⟩
theorem d_M_item_65 : cd_D 1 b_M_item 65 .iaload 66 := ⟨by decide +kernel, rfl⟩
theorem d_M_item_66 : cd_D_istore b_M_item 66 3 67 := Or.inr ⟨3, ⟨by decide +kernel, rfl⟩, rfl⟩
theorem d_M_item_67 : cd_D_iload b_M_item 67 3 68 := Or.inr ⟨3, ⟨by decide +kernel, rfl⟩, rfl⟩
theorem d_M_item_68 : cd_D 2 b_M_item 68 (.ldc 176) 70 := ⟨by decide +kernel, rfl⟩
theorem d_M_item_70 : cd_D_icmp_ne b_M_item 70 78 73 := ⟨8, by decide +kernel, by decide, rfl⟩
theorem d_M_item_73 : cd_D 2 b_M_item 73 (.ldc 133) 75 := ⟨by decide +kernel, rfl⟩
theorem d_M_item_75 : cd_D_goto b_M_item 75 79 := ⟨4, by decide +kernel, by decide⟩
theorem d_M_item_78 : cd_D_iload b_M_item 78 3 79 := Or.inr ⟨3, ⟨by decide +kernel, rfl⟩, rfl⟩
theorem d_M_item_79 : cd_D 1 b_M_item 79 .ireturn 80 := ⟨by decide +kernel, rfl⟩
theorem c_M_item {l : Launch} {w : cd_WT} {S : cd_Sp} {I : cd_Mem} {m : Nat} (hM : cd_MO w S m) (hVL : cd_VL (I (m + 16)) (I (m + 17))) (s p : Int32) : cd_C l w m_M_item 2 0 0 [.ref m, .int s, .int p] S I (cd_Fi S (sp_item (I (m + 16)) (I (m + 17)) (I (m + 19)) s p) I) := by
  refine cd_intro (by decide) (by simp [Value.category]) (Nat.le_of_ble_eq_true rfl) ?_
  intro X hO hE
  show cd_J w X 0 0 S I 0 [some (.ref m), some (.int s), some (.int p), none] []
  refine r_iload hO d_M_item_0 rfl ?_
  refine r_cS1fi hO hE (c_M_isSlot _) mf_M_isSlot lk_M_263 (by decide) rfl (Nat.le_of_ble_eq_true rfl) d_M_item_1 (Nat.zero_le _) (Nat.zero_le _) ?_
  refine r_if_neB hO d_M_item_4 (fun c_4 => ?_) (fun c_4 => ?_)
  · obtain ⟨z, hz1, hz2, rfl⟩ := cd_in_ex c_4 (by decide) (by decide)
    refine r_aload hO d_M_item_10 rfl ?_
    refine r_getR hO f_M_57 rfl hM.2.1 (mo_r16 hM) d_M_item_11 ?_
    refine r_iload hO d_M_item_14 rfl ?_
    refine r_iald hO (mo_s16 hM) (by omega) (by decide) d_M_item_15 ?_
    refine r_if_ne hO d_M_item_16 (fun c_16 => ?_) (fun c_16 => ?_)
    · refine r_aload hO d_M_item_22 rfl ?_
      refine r_getR hO f_M_57 rfl hM.2.1 (mo_r16 hM) d_M_item_23 ?_
      refine r_iload hO d_M_item_26 rfl ?_
      refine r_iald hO (mo_s16 hM) (by omega) (by decide) d_M_item_27 ?_
      refine r_k hO d_M_item_28 ?_
      refine r_icmp_eq hO d_M_item_29 (fun c_29 => ?_) (fun c_29 => ?_)
      · obtain ⟨y, hy, hyz⟩ := hVL z (by omega) c_29
        refine r_iload hO d_M_item_35 rfl ?_
        refine r_k hO d_M_item_36 ?_
        refine r_aload hO d_M_item_37 rfl ?_
        refine r_getR hO f_M_60 rfl hM.2.1 (mo_r17 hM) d_M_item_38 ?_
        refine r_iload hO d_M_item_41 rfl ?_
        refine r_iald hO (mo_s17 hM) (by omega) (by decide) d_M_item_42 ?_
        refine r_k hO d_M_item_43 ?_
        refine r_isub hO d_M_item_44 ?_
        refine r_cS3fi hO hE (c_M_in _ _ _) mf_M_in lk_M_75 (by decide) rfl (Nat.le_of_ble_eq_true rfl) d_M_item_45 (Nat.zero_le _) (Nat.zero_le _) ?_
        refine r_if_neB hO d_M_item_48 (fun c_48 => ?_) (fun c_48 => ?_)
        · obtain ⟨p9, hp9, rfl⟩ := cd_isP_ex hyz hy c_48
          refine r_aload hO d_M_item_55 rfl ?_
          refine r_getR hO f_M_66 rfl hM.2.1 (mo_r19 hM) d_M_item_56 ?_
          refine r_k hO d_M_item_59 ?_
          refine r_iload hO d_M_item_61 rfl ?_
          refine r_imulN hO d_M_item_62 ?_
          refine r_iload hO d_M_item_63 rfl ?_
          refine r_iaddN hO d_M_item_64 ?_
          refine r_iald hO (mo_s19 hM) (by omega) (by decide) d_M_item_65 ?_
          refine r_sI3 hO d_M_item_66 rfl ?_
          refine r_iload hO d_M_item_67 rfl ?_
          refine r_ldc hO k_M_176 d_M_item_68 ?_
          refine r_icmp_ne hO d_M_item_70 (fun c_70 => ?_) (fun c_70 => ?_)
          · refine r_iload hO d_M_item_78 rfl ?_
            refine r_iret hO hE (Nat.zero_le _) (Nat.zero_le _) d_M_item_79 ?_
            exact ⟨by unfold sp_item; rw [if_pos c_4, cd_tn_nI (by omega), if_neg c_16, if_pos c_29, if_pos c_48, cd_tn_nI (by omega), if_neg c_70], rfl, rfl⟩
          · refine r_ldc hO k_M_133 d_M_item_73 ?_
            refine r_goto hO d_M_item_75 ?_
            refine r_iret hO hE (Nat.zero_le _) (Nat.zero_le _) d_M_item_79 ?_
            exact ⟨by unfold sp_item; rw [if_pos c_4, cd_tn_nI (by omega), if_neg c_16, if_pos c_29, if_pos c_48, cd_tn_nI (by omega), if_pos c_70], rfl, rfl⟩
        · refine r_ldcw hO k_M_260 d_M_item_51 ?_
          refine r_iret hO hE (Nat.zero_le _) (Nat.zero_le _) d_M_item_54 ?_
          exact ⟨by unfold sp_item; rw [if_pos c_4, cd_tn_nI (by omega), if_neg c_16, if_pos c_29, if_neg c_48], rfl, rfl⟩
      · refine r_ldc hO k_M_133 d_M_item_32 ?_
        refine r_iret hO hE (Nat.zero_le _) (Nat.zero_le _) d_M_item_34 ?_
        exact ⟨by unfold sp_item; rw [if_pos c_4, cd_tn_nI (by omega), if_neg c_16, if_neg c_29], rfl, rfl⟩
    · refine r_ldc hO k_M_186 d_M_item_19 ?_
      refine r_iret hO hE (Nat.zero_le _) (Nat.zero_le _) d_M_item_21 ?_
      exact ⟨by unfold sp_item; rw [if_pos c_4, cd_tn_nI (by omega), if_pos c_16], rfl, rfl⟩
  · refine r_ldc hO k_M_87 d_M_item_7 ?_
    refine r_iret hO hE (Nat.zero_le _) (Nat.zero_le _) d_M_item_9 ?_
    exact ⟨by unfold sp_item; rw [if_neg c_4], rfl, rfl⟩
theorem d_M_rest_0 : cd_D_iload b_M_rest 0 1 1 := Or.inr ⟨1, ⟨by decide +kernel, rfl⟩, rfl⟩
theorem d_M_rest_1 : cd_D 3 b_M_rest 1 (.invokestatic 263) 4 := ⟨by decide +kernel, rfl⟩
theorem d_M_rest_4 : cd_D_if_ne b_M_rest 4 10 7 := ⟨6, by decide +kernel, by decide, rfl⟩
theorem d_M_rest_7 : cd_D 2 b_M_rest 7 (.ldc 87) 9 := ⟨by decide +kernel, rfl⟩
theorem d_M_rest_9 : cd_D 1 b_M_rest 9 .ireturn 10 := ⟨by decide +kernel, rfl⟩
theorem d_M_rest_10 : cd_D_aload b_M_rest 10 0 11 := Or.inr ⟨0, ⟨by decide +kernel, rfl⟩, rfl⟩
theorem d_M_rest_11 : cd_D 3 b_M_rest 11 (.getfield 57) 14 := ⟨by decide +kernel, rfl⟩
theorem d_M_rest_14 : cd_D_iload b_M_rest 14 1 15 := Or.inr ⟨1, ⟨by decide +kernel, rfl⟩, rfl⟩
theorem d_M_rest_15 : cd_D 1 b_M_rest 15 .iaload 16 := ⟨by decide +kernel, rfl⟩
theorem d_M_rest_16 : cd_D_if_ne b_M_rest 16 22 19 := ⟨6, by decide +kernel, by decide, rfl⟩
theorem d_M_rest_19 : cd_D 2 b_M_rest 19 (.ldc 186) 21 := ⟨by decide +kernel, rfl⟩
theorem d_M_rest_21 : cd_D 1 b_M_rest 21 .ireturn 22 := ⟨by decide +kernel, rfl⟩
theorem d_M_rest_22 : cd_D_aload b_M_rest 22 0 23 := Or.inr ⟨0, ⟨by decide +kernel, rfl⟩, rfl⟩
theorem d_M_rest_23 : cd_D 3 b_M_rest 23 (.getfield 57) 26 := ⟨by decide +kernel, rfl⟩
theorem d_M_rest_26 : cd_D_iload b_M_rest 26 1 27 := Or.inr ⟨1, ⟨by decide +kernel, rfl⟩, rfl⟩
theorem d_M_rest_27 : cd_D 1 b_M_rest 27 .iaload 28 := ⟨by decide +kernel, rfl⟩
theorem d_M_rest_28 : cd_Dk b_M_rest 28 (nI 3) 29 := Or.inl ⟨3, ⟨by decide +kernel, rfl⟩, by decide +kernel⟩
theorem d_M_rest_29 : cd_D_icmp_eq b_M_rest 29 35 32 := ⟨6, by decide +kernel, by decide, rfl⟩
theorem d_M_rest_32 : cd_D 2 b_M_rest 32 (.ldc 133) 34 := ⟨by decide +kernel, rfl⟩
theorem d_M_rest_34 : cd_D 1 b_M_rest 34 .ireturn 35 := ⟨by decide +kernel, rfl⟩
theorem d_M_rest_35 : cd_D_iload b_M_rest 35 2 36 := Or.inr ⟨2, ⟨by decide +kernel, rfl⟩, rfl⟩
theorem d_M_rest_36 : cd_D_if_ne b_M_rest 36 45 39 := ⟨9, by decide +kernel, by decide, rfl⟩
theorem d_M_rest_39 : cd_D 3 b_M_rest 39 (.ldc_w 266) 42 := ⟨by decide +kernel, rfl⟩
theorem d_M_rest_42 : cd_D_goto b_M_rest 42 62 := ⟨20, by decide +kernel, by decide⟩
theorem d_M_rest_45 : cd_D_iload b_M_rest 45 2 46 := Or.inr ⟨2, ⟨by decide +kernel, rfl⟩, rfl⟩
theorem d_M_rest_46 : cd_Dk b_M_rest 46 (-1) 47 := Or.inl ⟨-1, ⟨by decide +kernel, rfl⟩, by decide +kernel⟩
theorem d_M_rest_47 : cd_D_icmp_ne b_M_rest 47 54 50 := ⟨7, by decide +kernel, by decide, rfl⟩
theorem d_M_rest_50 : cd_Dk b_M_rest 50 (nI 0) 51 := Or.inl ⟨0, ⟨by decide +kernel, rfl⟩, by decide +kernel⟩
theorem d_M_rest_51 : cd_D_goto b_M_rest 51 62 := ⟨11, by decide +kernel, by decide⟩
theorem d_M_rest_54 : cd_D_aload b_M_rest 54 0 55 := Or.inr ⟨0, ⟨by decide +kernel, rfl⟩, rfl⟩
theorem d_M_rest_55 : cd_D 3 b_M_rest 55 (.getfield 60) 58 := ⟨by decide +kernel, rfl⟩
theorem d_M_rest_58 : cd_D_iload b_M_rest 58 1 59 := Or.inr ⟨1, ⟨by decide +kernel, rfl⟩, rfl⟩
theorem d_M_rest_59 : cd_D 1 b_M_rest 59 .iaload 60 := ⟨by decide +kernel, rfl⟩
theorem d_M_rest_60 : cd_D_iload b_M_rest 60 2 61 := Or.inr ⟨2, ⟨by decide +kernel, rfl⟩, rfl⟩
theorem d_M_rest_61 : cd_D 1 b_M_rest 61 .irem 62 := ⟨by decide +kernel, rfl⟩
theorem d_M_rest_62 : cd_D 1 b_M_rest 62 .ireturn 63 := ⟨by decide +kernel, rfl⟩
theorem c_M_rest {l : Launch} {w : cd_WT} {S : cd_Sp} {I : cd_Mem} {m : Nat} (hM : cd_MO w S m) (s n : Int32) : cd_C l w m_M_rest 2 0 0 [.ref m, .int s, .int n] S I (cd_Fi S (sp_rest (I (m + 16)) (I (m + 17)) s n) I) := by
  refine cd_intro (by decide) (by simp [Value.category]) (Nat.le_of_ble_eq_true rfl) ?_
  intro X hO hE
  show cd_J w X 0 0 S I 0 [some (.ref m), some (.int s), some (.int n)] []
  refine r_iload hO d_M_rest_0 rfl ?_
  refine r_cS1fi hO hE (c_M_isSlot _) mf_M_isSlot lk_M_263 (by decide) rfl (Nat.le_of_ble_eq_true rfl) d_M_rest_1 (Nat.zero_le _) (Nat.zero_le _) ?_
  refine r_if_neB hO d_M_rest_4 (fun c_4 => ?_) (fun c_4 => ?_)
  · obtain ⟨z, hz1, hz2, rfl⟩ := cd_in_ex c_4 (by decide) (by decide)
    refine r_aload hO d_M_rest_10 rfl ?_
    refine r_getR hO f_M_57 rfl hM.2.1 (mo_r16 hM) d_M_rest_11 ?_
    refine r_iload hO d_M_rest_14 rfl ?_
    refine r_iald hO (mo_s16 hM) (by omega) (by decide) d_M_rest_15 ?_
    refine r_if_ne hO d_M_rest_16 (fun c_16 => ?_) (fun c_16 => ?_)
    · refine r_aload hO d_M_rest_22 rfl ?_
      refine r_getR hO f_M_57 rfl hM.2.1 (mo_r16 hM) d_M_rest_23 ?_
      refine r_iload hO d_M_rest_26 rfl ?_
      refine r_iald hO (mo_s16 hM) (by omega) (by decide) d_M_rest_27 ?_
      refine r_k hO d_M_rest_28 ?_
      refine r_icmp_eq hO d_M_rest_29 (fun c_29 => ?_) (fun c_29 => ?_)
      · refine r_iload hO d_M_rest_35 rfl ?_
        refine r_if_ne hO d_M_rest_36 (fun c_36 => ?_) (fun c_36 => ?_)
        · refine r_iload hO d_M_rest_45 rfl ?_
          refine r_k hO d_M_rest_46 ?_
          refine r_icmp_ne hO d_M_rest_47 (fun c_47 => ?_) (fun c_47 => ?_)
          · refine r_aload hO d_M_rest_54 rfl ?_
            refine r_getR hO f_M_60 rfl hM.2.1 (mo_r17 hM) d_M_rest_55 ?_
            refine r_iload hO d_M_rest_58 rfl ?_
            refine r_iald hO (mo_s17 hM) (by omega) (by decide) d_M_rest_59 ?_
            refine r_iload hO d_M_rest_60 rfl ?_
            refine r_irem hO d_M_rest_61 c_36 ?_
            refine r_iret hO hE (Nat.zero_le _) (Nat.zero_le _) d_M_rest_62 ?_
            exact ⟨by unfold sp_rest; rw [if_pos c_4, cd_tn_nI (by omega), if_neg c_16, if_pos c_29, if_neg c_36, if_neg c_47], rfl, rfl⟩
          · refine r_k hO d_M_rest_50 ?_
            refine r_goto hO d_M_rest_51 ?_
            refine r_iret hO hE (Nat.zero_le _) (Nat.zero_le _) d_M_rest_62 ?_
            exact ⟨by unfold sp_rest; rw [if_pos c_4, cd_tn_nI (by omega), if_neg c_16, if_pos c_29, if_neg c_36, if_pos c_47], rfl, rfl⟩
        · refine r_ldcw hO k_M_266 d_M_rest_39 ?_
          refine r_goto hO d_M_rest_42 ?_
          refine r_iret hO hE (Nat.zero_le _) (Nat.zero_le _) d_M_rest_62 ?_
          exact ⟨by unfold sp_rest; rw [if_pos c_4, cd_tn_nI (by omega), if_neg c_16, if_pos c_29, if_pos c_36], rfl, rfl⟩
      · refine r_ldc hO k_M_133 d_M_rest_32 ?_
        refine r_iret hO hE (Nat.zero_le _) (Nat.zero_le _) d_M_rest_34 ?_
        exact ⟨by unfold sp_rest; rw [if_pos c_4, cd_tn_nI (by omega), if_neg c_16, if_neg c_29], rfl, rfl⟩
    · refine r_ldc hO k_M_186 d_M_rest_19 ?_
      refine r_iret hO hE (Nat.zero_le _) (Nat.zero_le _) d_M_rest_21 ?_
      exact ⟨by unfold sp_rest; rw [if_pos c_4, cd_tn_nI (by omega), if_pos c_16], rfl, rfl⟩
  · refine r_ldc hO k_M_87 d_M_rest_7 ?_
    refine r_iret hO hE (Nat.zero_le _) (Nat.zero_le _) d_M_rest_9 ?_
    exact ⟨by unfold sp_rest; rw [if_neg c_4], rfl, rfl⟩
