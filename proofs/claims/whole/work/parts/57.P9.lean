/-- the reading of a whole text: whether it is one, the fault's place, its key, its codes -/
def px_res (B : Nat → Nat) (L : Nat) : Bool × Nat × Nat × List Int32 := if px_ky B (px_tk B L False 0) = 3 then (false, (px_tk B L False 0).1, 0, []) else if (px_rdt B L (px_ky B (px_tk B L False 0)) 800 0 0 0 (px_adv B L (px_tk B L False 0))).1 = true ∧ (px_rdt B L (px_ky B (px_tk B L False 0)) 800 0 0 0 (px_adv B L (px_tk B L False 0))).2.1.2.1 = 0 then (true, 0, px_ky B (px_tk B L False 0), (px_rdt B L (px_ky B (px_tk B L False 0)) 800 0 0 0 (px_adv B L (px_tk B L False 0))).2.2) else (false, (px_rdt B L (px_ky B (px_tk B L False 0)) 800 0 0 0 (px_adv B L (px_tk B L False 0))).2.1.1, 0, [])
theorem px_res_3 {B : Nat → Nat} {L : Nat} {t0 : px_Tok} (ht : px_tk B L False 0 = t0) (h : px_ky B t0 = 3) : px_res B L = (false, t0.1, 0, []) := by
  unfold px_res
  rw [ht, if_pos h]
theorem px_res_n {B : Nat → Nat} {L : Nat} {t0 : px_Tok} (ht : px_tk B L False 0 = t0) (h : px_ky B t0 < 3) {r : Bool × px_Tok × List Int32} (hr : r = px_rdt B L (px_ky B t0) 800 0 0 0 (px_adv B L t0)) (h2 : ¬ (r.1 = true ∧ r.2.1.2.1 = 0)) : px_res B L = (false, r.2.1.1, 0, []) := by
  unfold px_res
  rw [ht, if_neg (by omega), ← hr, if_neg h2]
theorem px_res_y {B : Nat → Nat} {L : Nat} {t0 : px_Tok} (ht : px_tk B L False 0 = t0) (h : px_ky B t0 < 3) {r : Bool × px_Tok × List Int32} (hr : r = px_rdt B L (px_ky B t0) 800 0 0 0 (px_adv B L t0)) (h2 : r.1 = true ∧ r.2.1.2.1 = 0) : px_res B L = (true, 0, px_ky B t0, r.2.2) := by
  unfold px_res
  rw [ht, if_neg (by omega), ← hr, if_pos h2]
def px_tN (N : Nat → Int32) (tc ky : Nat) (c : List Int32) : Nat → Int32 := upd (cd_rg (upd (upd N (76 + 2 * tc) (nI (1000 * ky + c.length))) (76 + 2 * tc + 1) (nI (px_lv c))) (104 + 96 * tc) c.length (fun k => c.getD k 0)) 15 (nI (tc + 1))
def sp_text (N : Nat → Int32) (tc : Nat) (B : Nat → Nat) (L : Nat) : Int32 × (Nat → Int32) := if (px_res B L).1 = true then (if tc = 14 then (cd_FULL, N) else (nI tc, px_tN N tc (px_res B L).2.2.1 (px_res B L).2.2.2)) else ((-100) - nI (px_res B L).2.1, N)
def px_TQ (I I' : cd_Mem) (m : Nat) (N' : Nat → Int32) : Prop := I' (m + 1) = N' ∧ I' m 6 = nI 0 ∧ cd_off I I' [m, m + 1, m + 8, m + 9, m + 10] ∧ ∀ k, k < 6 ∨ 13 ≤ k ∧ k < 16 ∨ k = 18 ∨ 20 ≤ k → I' m k = I m k
theorem px_m1 : ∀ q, q < 97 → ¬ (-1 : Int32) = nI q := by decide +kernel
theorem d_M_text_0 : cd_D_aload b_M_text 0 0 1 := Or.inr ⟨0, ⟨by decide +kernel, rfl⟩, rfl⟩
theorem d_M_text_1 : cd_Dk b_M_text 1 (nI 0) 2 := Or.inl ⟨0, ⟨by decide +kernel, rfl⟩, by decide +kernel⟩
theorem d_M_text_2 : cd_D 3 b_M_text 2 (.putfield 195) 5 := ⟨by decide +kernel, rfl⟩
theorem d_M_text_5 : cd_D_aload b_M_text 5 0 6 := Or.inr ⟨0, ⟨by decide +kernel, rfl⟩, rfl⟩
theorem d_M_text_6 : cd_Dk b_M_text 6 (-1) 7 := Or.inl ⟨-1, ⟨by decide +kernel, rfl⟩, by decide +kernel⟩
theorem d_M_text_7 : cd_D 3 b_M_text 7 (.putfield 201) 10 := ⟨by decide +kernel, rfl⟩
theorem d_M_text_10 : cd_D_aload b_M_text 10 0 11 := Or.inr ⟨0, ⟨by decide +kernel, rfl⟩, rfl⟩
theorem d_M_text_11 : cd_D 3 b_M_text 11 (.invokevirtual 219) 14 := ⟨by decide +kernel, rfl⟩
theorem d_M_text_14 : cd_D_aload b_M_text 14 0 15 := Or.inr ⟨0, ⟨by decide +kernel, rfl⟩, rfl⟩
theorem d_M_text_15 : cd_D 3 b_M_text 15 (.invokevirtual 250) 18 := ⟨by decide +kernel, rfl⟩
theorem d_M_text_18 : cd_D_if_eq b_M_text 18 32 21 := ⟨14, by decide +kernel, by decide, rfl⟩
theorem d_M_text_21 : cd_D_aload b_M_text 21 0 22 := Or.inr ⟨0, ⟨by decide +kernel, rfl⟩, rfl⟩
theorem d_M_text_22 : cd_D 3 b_M_text 22 (.invokevirtual 253) 25 := ⟨by decide +kernel, rfl⟩
theorem d_M_text_25 : cd_D_if_eq b_M_text 25 32 28 := ⟨7, by decide +kernel, by decide, rfl⟩
theorem d_M_text_28 : cd_Dk b_M_text 28 (nI 1) 29 := Or.inl ⟨1, ⟨by decide +kernel, rfl⟩, by decide +kernel⟩
theorem d_M_text_29 : cd_D_goto b_M_text 29 33 := ⟨4, by decide +kernel, by decide⟩
theorem d_M_text_32 : cd_Dk b_M_text 32 (nI 0) 33 := Or.inl ⟨0, ⟨by decide +kernel, rfl⟩, by decide +kernel⟩
theorem d_M_text_33 : cd_D_istore b_M_text 33 1 34 := Or.inr ⟨1, ⟨by decide +kernel, rfl⟩, rfl⟩
theorem d_M_text_34 : cd_D_aload b_M_text 34 0 35 := Or.inr ⟨0, ⟨by decide +kernel, rfl⟩, rfl⟩
theorem d_M_text_35 : cd_Dk b_M_text 35 (nI 0) 36 := Or.inl ⟨0, ⟨by decide +kernel, rfl⟩, by decide +kernel⟩
theorem d_M_text_36 : cd_D 3 b_M_text 36 (.putfield 191) 39 := ⟨by decide +kernel, rfl⟩
theorem d_M_text_39 : cd_D_iload b_M_text 39 1 40 := Or.inr ⟨1, ⟨by decide +kernel, rfl⟩, rfl⟩
theorem d_M_text_40 : cd_D_if_ne b_M_text 40 51 43 := ⟨11, by decide +kernel, by decide, rfl⟩
theorem d_M_text_43 : cd_Dk b_M_text 43 (-100) 45 := Or.inr (Or.inl ⟨-100, ⟨by decide +kernel, rfl⟩, by decide +kernel⟩)
theorem d_M_text_45 : cd_D_aload b_M_text 45 0 46 := Or.inr ⟨0, ⟨by decide +kernel, rfl⟩, rfl⟩
theorem d_M_text_46 : cd_D 3 b_M_text 46 (.getfield 198) 49 := ⟨by decide +kernel, rfl⟩
theorem d_M_text_49 : cd_D 1 b_M_text 49 .isub 50 := ⟨by decide +kernel, rfl⟩
theorem d_M_text_50 : cd_D 1 b_M_text 50 .ireturn 51 := ⟨by decide +kernel, rfl⟩
theorem d_M_text_51 : cd_D_aload b_M_text 51 0 52 := Or.inr ⟨0, ⟨by decide +kernel, rfl⟩, rfl⟩
theorem d_M_text_52 : cd_D 3 b_M_text 52 (.getfield 9) 55 := ⟨by decide +kernel, rfl⟩
theorem d_M_text_55 : cd_Dk b_M_text 55 (nI 15) 57 := Or.inr (Or.inl ⟨15, ⟨by decide +kernel, rfl⟩, by decide +kernel⟩)
theorem d_M_text_57 : cd_D 1 b_M_text 57 .iaload 58 := ⟨by decide +kernel, rfl⟩
theorem d_M_text_58 : cd_Dk b_M_text 58 (nI 14) 60 := Or.inr (Or.inl ⟨14, ⟨by decide +kernel, rfl⟩, by decide +kernel⟩)
theorem d_M_text_60 : cd_D_icmp_ne b_M_text 60 66 63 := ⟨6, by decide +kernel, by decide, rfl⟩
theorem d_M_text_63 : cd_D 2 b_M_text 63 (.ldc 88) 65 := ⟨by decide +kernel, rfl⟩
theorem d_M_text_65 : cd_D 1 b_M_text 65 .ireturn 66 := ⟨by decide +kernel, rfl⟩
theorem d_M_text_66 : cd_D_aload b_M_text 66 0 67 := Or.inr ⟨0, ⟨by decide +kernel, rfl⟩, rfl⟩
theorem d_M_text_67 : cd_D 3 b_M_text 67 (.getfield 9) 70 := ⟨by decide +kernel, rfl⟩
theorem d_M_text_70 : cd_Dk b_M_text 70 (nI 15) 72 := Or.inr (Or.inl ⟨15, ⟨by decide +kernel, rfl⟩, by decide +kernel⟩)
theorem d_M_text_72 : cd_D 1 b_M_text 72 .iaload 73 := ⟨by decide +kernel, rfl⟩
theorem d_M_text_73 : cd_D_istore b_M_text 73 2 74 := Or.inr ⟨2, ⟨by decide +kernel, rfl⟩, rfl⟩
theorem d_M_text_74 : cd_D_aload b_M_text 74 0 75 := Or.inr ⟨0, ⟨by decide +kernel, rfl⟩, rfl⟩
theorem d_M_text_75 : cd_D 3 b_M_text 75 (.getfield 9) 78 := ⟨by decide +kernel, rfl⟩
theorem d_M_text_78 : cd_Dk b_M_text 78 (nI 76) 80 := Or.inr (Or.inl ⟨76, ⟨by decide +kernel, rfl⟩, by decide +kernel⟩)
theorem d_M_text_80 : cd_Dk b_M_text 80 (nI 2) 81 := Or.inl ⟨2, ⟨by decide +kernel, rfl⟩, by decide +kernel⟩
theorem d_M_text_81 : cd_D_iload b_M_text 81 2 82 := Or.inr ⟨2, ⟨by decide +kernel, rfl⟩, rfl⟩
theorem d_M_text_82 : cd_D 1 b_M_text 82 .imul 83 := ⟨by decide +kernel, rfl⟩
theorem d_M_text_83 : cd_D 1 b_M_text 83 .iadd 84 := ⟨by decide +kernel, rfl⟩
theorem d_M_text_84 : cd_Dk b_M_text 84 (nI 1000) 87 := Or.inr (Or.inr ⟨1000, ⟨by decide +kernel, rfl⟩, by decide +kernel⟩)
theorem d_M_text_87 : cd_D_aload b_M_text 87 0 88 := Or.inr ⟨0, ⟨by decide +kernel, rfl⟩, rfl⟩
theorem d_M_text_88 : cd_D 3 b_M_text 88 (.getfield 216) 91 := ⟨by decide +kernel, rfl⟩
theorem d_M_text_91 : cd_D 1 b_M_text 91 .imul 92 := ⟨by decide +kernel, rfl⟩
theorem d_M_text_92 : cd_D_aload b_M_text 92 0 93 := Or.inr ⟨0, ⟨by decide +kernel, rfl⟩, rfl⟩
theorem d_M_text_93 : cd_D 3 b_M_text 93 (.getfield 228) 96 := ⟨by decide +kernel, rfl⟩
theorem d_M_text_96 : cd_D 1 b_M_text 96 .iadd 97 := ⟨by decide +kernel, rfl⟩
theorem d_M_text_97 : cd_D 1 b_M_text 97 .iastore 98 := ⟨by decide +kernel, rfl⟩
theorem d_M_text_98 : cd_D_aload b_M_text 98 0 99 := Or.inr ⟨0, ⟨by decide +kernel, rfl⟩, rfl⟩
theorem d_M_text_99 : cd_D 3 b_M_text 99 (.getfield 9) 102 := ⟨by decide +kernel, rfl⟩
theorem d_M_text_102 : cd_Dk b_M_text 102 (nI 76) 104 := Or.inr (Or.inl ⟨76, ⟨by decide +kernel, rfl⟩, by decide +kernel⟩)
theorem d_M_text_104 : cd_Dk b_M_text 104 (nI 2) 105 := Or.inl ⟨2, ⟨by decide +kernel, rfl⟩, by decide +kernel⟩
theorem d_M_text_105 : cd_D_iload b_M_text 105 2 106 := Or.inr ⟨2, ⟨by decide +kernel, rfl⟩, rfl⟩
theorem d_M_text_106 : cd_D 1 b_M_text 106 .imul 107 := ⟨by decide +kernel, rfl⟩
theorem d_M_text_107 : cd_D 1 b_M_text 107 .iadd 108 := ⟨by decide +kernel, rfl⟩
theorem d_M_text_108 : cd_Dk b_M_text 108 (nI 1) 109 := Or.inl ⟨1, ⟨by decide +kernel, rfl⟩, by decide +kernel⟩
theorem d_M_text_109 : cd_D 1 b_M_text 109 .iadd 110 := ⟨by decide +kernel, rfl⟩
theorem d_M_text_110 : cd_D_aload b_M_text 110 0 111 := Or.inr ⟨0, ⟨by decide +kernel, rfl⟩, rfl⟩
theorem d_M_text_111 : cd_D 3 b_M_text 111 (.getfield 234) 114 := ⟨by decide +kernel, rfl⟩
theorem d_M_text_114 : cd_D 1 b_M_text 114 .iastore 115 := ⟨by decide +kernel, rfl⟩
theorem d_M_text_115 : cd_Dk b_M_text 115 (nI 0) 116 := Or.inl ⟨0, ⟨by decide +kernel, rfl⟩, by decide +kernel⟩
theorem d_M_text_116 : cd_D_istore b_M_text 116 3 117 := Or.inr ⟨3, ⟨by decide +kernel, rfl⟩, rfl⟩
theorem d_M_text_117 : cd_D_iload b_M_text 117 3 118 := Or.inr ⟨3, ⟨by decide +kernel, rfl⟩, rfl⟩
theorem d_M_text_118 : cd_D_aload b_M_text 118 0 119 := Or.inr ⟨0, ⟨by decide +kernel, rfl⟩, rfl⟩
theorem d_M_text_119 : cd_D 3 b_M_text 119 (.getfield 228) 122 := ⟨by decide +kernel, rfl⟩
theorem d_M_text_122 : cd_D_icmp_ge b_M_text 122 151 125 := ⟨29, by decide +kernel, by decide, rfl⟩
theorem d_M_text_125 : cd_D_aload b_M_text 125 0 126 := Or.inr ⟨0, ⟨by decide +kernel, rfl⟩, rfl⟩
theorem d_M_text_126 : cd_D 3 b_M_text 126 (.getfield 9) 129 := ⟨by decide +kernel, rfl⟩
theorem d_M_text_129 : cd_Dk b_M_text 129 (nI 104) 131 := Or.inr (Or.inl ⟨104, ⟨by decide +kernel, rfl⟩, by decide +kernel⟩)
theorem d_M_text_131 : cd_Dk b_M_text 131 (nI 96) 133 := Or.inr (Or.inl ⟨96, ⟨by decide +kernel, rfl⟩, by decide +kernel⟩)
theorem d_M_text_133 : cd_D_iload b_M_text 133 2 134 := Or.inr ⟨2, ⟨by decide +kernel, rfl⟩, rfl⟩
theorem d_M_text_134 : cd_D 1 b_M_text 134 .imul 135 := ⟨by decide +kernel, rfl⟩
theorem d_M_text_135 : cd_D 1 b_M_text 135 .iadd 136 := ⟨by decide +kernel, rfl⟩
theorem d_M_text_136 : cd_D_iload b_M_text 136 3 137 := Or.inr ⟨3, ⟨by decide +kernel, rfl⟩, rfl⟩
theorem d_M_text_137 : cd_D 1 b_M_text 137 .iadd 138 := ⟨by decide +kernel, rfl⟩
theorem d_M_text_138 : cd_D_aload b_M_text 138 0 139 := Or.inr ⟨0, ⟨by decide +kernel, rfl⟩, rfl⟩
theorem d_M_text_139 : cd_D 3 b_M_text 139 (.getfield 32) 142 := ⟨by decide +kernel, rfl⟩
theorem d_M_text_142 : cd_D_iload b_M_text 142 3 143 := Or.inr ⟨3, ⟨by decide +kernel, rfl⟩, rfl⟩
theorem d_M_text_143 : cd_D 1 b_M_text 143 .iaload 144 := ⟨by decide +kernel, rfl⟩
theorem d_M_text_144 : cd_D 1 b_M_text 144 .iastore 145 := ⟨by decide +kernel, rfl⟩
theorem d_M_text_145 : cd_D 3 b_M_text 145 (.iinc 3 (1)) 148 := ⟨by decide +kernel, rfl⟩
theorem d_M_text_148 : cd_D_goto b_M_text 148 117 := ⟨-31, by decide +kernel, by decide⟩
theorem d_M_text_151 : cd_D_aload b_M_text 151 0 152 := Or.inr ⟨0, ⟨by decide +kernel, rfl⟩, rfl⟩
theorem d_M_text_152 : cd_D 3 b_M_text 152 (.getfield 9) 155 := ⟨by decide +kernel, rfl⟩
theorem d_M_text_155 : cd_Dk b_M_text 155 (nI 15) 157 := Or.inr (Or.inl ⟨15, ⟨by decide +kernel, rfl⟩, by decide +kernel⟩)
theorem d_M_text_157 : cd_D 1 b_M_text 157 .dup2 158 := ⟨by decide +kernel, rfl⟩
theorem d_M_text_158 : cd_D 1 b_M_text 158 .iaload 159 := ⟨by decide +kernel, rfl⟩
theorem d_M_text_159 : cd_Dk b_M_text 159 (nI 1) 160 := Or.inl ⟨1, ⟨by decide +kernel, rfl⟩, by decide +kernel⟩
theorem d_M_text_160 : cd_D 1 b_M_text 160 .iadd 161 := ⟨by decide +kernel, rfl⟩
theorem d_M_text_161 : cd_D 1 b_M_text 161 .iastore 162 := ⟨by decide +kernel, rfl⟩
theorem d_M_text_162 : cd_D_iload b_M_text 162 2 163 := Or.inr ⟨2, ⟨by decide +kernel, rfl⟩, rfl⟩
theorem d_M_text_163 : cd_D 1 b_M_text 163 .ireturn 164 := ⟨by decide +kernel, rfl⟩
theorem c_M_text {l : Launch} {w : cd_WT} {S : cd_Sp} {I : cd_Mem} {m : Nat} (hM : cd_MO w S m) {B : Nat → Nat} {L tc : Nat} (hN : I (m + 1) 15 = nI tc) (htc : tc ≤ 14) (a1 : I m 6 = nI L) (a2 : px_TP (I (m + 5)) B L) (hK6 : ∀ j, j < 12 → I (m + 6) j = nI (px_kc j)) (hK7 : ∀ j, j < 4 → I (m + 7) j = nI (px_ka j)) : cd_C l w m_M_text 4 0 0 [.ref m] S I (cd_Pi S (fun y I' => y = (sp_text (I (m + 1)) tc B L).1 ∧ px_TQ I I' m (sp_text (I (m + 1)) tc B L).2)) := by
  refine cd_intro (by decide) (by simp [Value.category]) (Nat.le_of_ble_eq_true rfl) ?_
  intro X hO hE
  show cd_J w X 0 0 S I 0 [some (.ref m), none, none, none] []
  have hT1 := a2.1
  have fail : ∀ (I5 : cd_Mem) (p : Nat) (x2 x3 : Option Value), (px_res B L).1 = false → p = (px_res B L).2.1 → I5 m 8 = nI p → px_TQ I I5 m (I (m + 1)) → cd_J w X 0 0 S I5 43 [some (.ref m), some (.int (nI 0)), x2, x3] [] := by
    intro I5 p x2 x3 h1 h2 h8 hq
    refine r_k hO d_M_text_43 ?_
    refine r_aload hO d_M_text_45 rfl ?_
    refine r_getI hO f_M_198 rfl hM.2.1 d_M_text_46 ?_
    refine r_tops (show _ = nI p from h8) ?_
    refine r_isub hO d_M_text_49 ?_
    refine r_iret hO hE (Nat.zero_le _) (Nat.zero_le _) d_M_text_50 ?_
    exact ⟨_, rfl, rfl, by unfold sp_text; rw [if_neg (by rw [h1]; decide), ← h2], by unfold sp_text; rw [if_neg (by rw [h1]; decide)]; exact hq⟩
  have succ : ∀ (I5 : cd_Mem) (ky : Nat) (c : List Int32) (x2 x3 : Option Value), px_res B L = (true, 0, ky, c) → c.length ≤ 96 → I5 m 12 = nI ky → I5 m 16 = nI c.length → I5 m 17 = nI (px_lv c) → px_cl (I5 (m + 8)) c → px_TQ I I5 m (I (m + 1)) → cd_J w X 0 0 S I5 51 [some (.ref m), some (.int (nI 1)), x2, x3] [] := by
    intro I5 ky c x2 x3 h1 hc g12 g16 g17 g8 hq
    have h15 : I5 (m + 1) 15 = nI tc := by rw [hq.1]; exact hN
    have sp : sp_text (I (m + 1)) tc B L = if tc = 14 then (cd_FULL, I (m + 1)) else (nI tc, px_tN (I (m + 1)) tc ky c) := by unfold sp_text; rw [h1, if_pos rfl]
    obtain ⟨N1, hN1⟩ : ∃ N1, N1 = upd (upd (I (m + 1)) (76 + 2 * tc) (nI (1000 * ky + c.length))) (76 + 2 * tc + 1) (nI (px_lv c)) := ⟨_, rfl⟩
    have loop : ∀ r k, k + r = c.length → tc < 14 → cd_J w X 0 0 S (cd_set I5 (m + 1) (cd_rg N1 (104 + 96 * tc) k (fun k => c.getD k 0))) 117 [some (.ref m), some (.int (nI 1)), some (.int (nI tc)), some (.int (nI k))] [] := by
      intro r
      induction r with
      | zero =>
        intro k hk ht
        have hkn : k = c.length := by omega
        subst hkn
        have e15 : cd_rg N1 (104 + 96 * tc) c.length (fun k => c.getD k 0) 15 = nI tc := by
          unfold cd_rg
          rw [if_neg (by omega), hN1, px_un _ _ (by omega), px_un _ _ (by omega)]
          exact hN
        refine r_iload hO d_M_text_117 rfl ?_
        refine r_aload hO d_M_text_118 rfl ?_
        refine r_getI hO f_M_228 rfl hM.2.1 d_M_text_119 ?_
        try simp (disch := omega) only [cd_set_eq, cd_set_ne, cd_set_set]
        refine r_tops (show _ = nI c.length from g16) ?_
        refine r_icmp_ge hO d_M_text_122 (fun c_122 => ?_) (fun c_122 => ?_)
        · refine r_aload hO d_M_text_151 rfl ?_
          refine r_getR hO f_M_9 rfl hM.2.1 (mo_r1 hM) d_M_text_152 ?_
          try simp (disch := omega) only [cd_set_eq, cd_set_ne, cd_set_set]
          refine r_k hO d_M_text_155 ?_
          refine r_dup2 hO d_M_text_157 rfl rfl ?_
          refine r_iald hO (mo_s1 hM) (by omega) (by decide) d_M_text_158 ?_
          try simp (disch := omega) only [cd_set_eq, cd_set_ne, cd_set_set]
          rw [e15]
          refine r_k hO d_M_text_159 ?_
          refine r_iaddN hO d_M_text_160 ?_
          refine r_iast hO (mo_s1 hM) (mo_l1 hM) (by omega) (by decide) d_M_text_161 ?_
          try simp (disch := omega) only [cd_set_eq, cd_set_ne, cd_set_set]
          refine r_iload hO d_M_text_162 rfl ?_
          refine r_iret hO hE (Nat.zero_le _) (Nat.zero_le _) d_M_text_163 ?_
          exact ⟨_, rfl, rfl, by rw [sp, if_neg (by omega)], by
            rw [sp, if_neg (by omega)]
            refine ⟨?_, ?_, ?_, ?_⟩
            · rw [cd_set_eq, hN1]; rfl
            · rw [cd_set_ne _ _ (by omega)]; exact hq.2.1
            · exact hq.2.2.1.tr (cd_off.set _ _ (by simp))
            · intro k hk
              rw [cd_set_ne _ _ (by omega)]; exact hq.2.2.2 k hk⟩
        · exact absurd (nI_le (Nat.le_refl _) (by omega)) c_122
      | succ r ih =>
        intro k hk ht
        refine r_iload hO d_M_text_117 rfl ?_
        refine r_aload hO d_M_text_118 rfl ?_
        refine r_getI hO f_M_228 rfl hM.2.1 d_M_text_119 ?_
        try simp (disch := omega) only [cd_set_eq, cd_set_ne, cd_set_set]
        refine r_tops (show _ = nI c.length from g16) ?_
        refine r_icmp_ge hO d_M_text_122 (fun c_122 => ?_) (fun c_122 => ?_)
        · exact absurd c_122 (nI_ge (by omega) (by omega))
        · refine r_aload hO d_M_text_125 rfl ?_
          refine r_getR hO f_M_9 rfl hM.2.1 (mo_r1 hM) d_M_text_126 ?_
          try simp (disch := omega) only [cd_set_eq, cd_set_ne, cd_set_set]
          refine r_k hO d_M_text_129 ?_
          refine r_k hO d_M_text_131 ?_
          refine r_iload hO d_M_text_133 rfl ?_
          refine r_imulN hO d_M_text_134 ?_
          refine r_iaddN hO d_M_text_135 ?_
          refine r_iload hO d_M_text_136 rfl ?_
          refine r_iaddN hO d_M_text_137 ?_
          refine r_aload hO d_M_text_138 rfl ?_
          refine r_getR hO f_M_32 rfl hM.2.1 (mo_r8 hM) d_M_text_139 ?_
          try simp (disch := omega) only [cd_set_eq, cd_set_ne, cd_set_set]
          refine r_iload hO d_M_text_142 rfl ?_
          refine r_iald hO (mo_s8 hM) (by omega) (by decide) d_M_text_143 ?_
          try simp (disch := omega) only [cd_set_eq, cd_set_ne, cd_set_set]
          rw [g8 k (by omega)]
          refine r_iast hO (mo_s1 hM) (mo_l1 hM) (by omega) (by decide) d_M_text_144 ?_
          try simp (disch := omega) only [cd_set_eq, cd_set_ne, cd_set_set]
          rw [cd_rg_s N1 (104 + 96 * tc) k (fun k => c.getD k 0)]
          refine r_incN3 hO d_M_text_145 rfl ?_
          refine r_goto hO d_M_text_148 ?_
          exact ih (k + 1) (by omega) ht
    refine r_aload hO d_M_text_51 rfl ?_
    refine r_getR hO f_M_9 rfl hM.2.1 (mo_r1 hM) d_M_text_52 ?_
    refine r_k hO d_M_text_55 ?_
    refine r_iald hO (mo_s1 hM) (by omega) (by decide) d_M_text_57 ?_
    rw [h15]
    refine r_k hO d_M_text_58 ?_
    refine r_icmp_ne hO d_M_text_60 (fun c_60 => ?_) (fun c_60 => ?_)
    · rw [nI_eq (by omega) (by omega)] at c_60
      refine r_aload hO d_M_text_66 rfl ?_
      refine r_getR hO f_M_9 rfl hM.2.1 (mo_r1 hM) d_M_text_67 ?_
      refine r_k hO d_M_text_70 ?_
      refine r_iald hO (mo_s1 hM) (by omega) (by decide) d_M_text_72 ?_
      rw [h15]
      refine r_sI2 hO d_M_text_73 rfl ?_
      refine r_aload hO d_M_text_74 rfl ?_
      refine r_getR hO f_M_9 rfl hM.2.1 (mo_r1 hM) d_M_text_75 ?_
      refine r_k hO d_M_text_78 ?_
      refine r_k hO d_M_text_80 ?_
      refine r_iload hO d_M_text_81 rfl ?_
      refine r_imulN hO d_M_text_82 ?_
      refine r_iaddN hO d_M_text_83 ?_
      refine r_k hO d_M_text_84 ?_
      refine r_aload hO d_M_text_87 rfl ?_
      refine r_getI hO f_M_216 rfl hM.2.1 d_M_text_88 ?_
      refine r_tops (show _ = nI ky from g12) ?_
      refine r_imulN hO d_M_text_91 ?_
      refine r_aload hO d_M_text_92 rfl ?_
      refine r_getI hO f_M_228 rfl hM.2.1 d_M_text_93 ?_
      refine r_tops (show _ = nI c.length from g16) ?_
      refine r_iaddN hO d_M_text_96 ?_
      refine r_iast hO (mo_s1 hM) (mo_l1 hM) (by omega) (by decide) d_M_text_97 ?_
      refine r_aload hO d_M_text_98 rfl ?_
      refine r_getR hO f_M_9 rfl hM.2.1 (mo_r1 hM) d_M_text_99 ?_
      try simp (disch := omega) only [cd_set_eq, cd_set_ne, cd_set_set]
      refine r_k hO d_M_text_102 ?_
      refine r_k hO d_M_text_104 ?_
      refine r_iload hO d_M_text_105 rfl ?_
      refine r_imulN hO d_M_text_106 ?_
      refine r_iaddN hO d_M_text_107 ?_
      refine r_k hO d_M_text_108 ?_
      refine r_iaddN hO d_M_text_109 ?_
      refine r_aload hO d_M_text_110 rfl ?_
      refine r_getI hO f_M_234 rfl hM.2.1 d_M_text_111 ?_
      try simp (disch := omega) only [cd_set_eq, cd_set_ne, cd_set_set]
      refine r_tops (show _ = nI (px_lv c) from g17) ?_
      refine r_iast hO (mo_s1 hM) (mo_l1 hM) (by omega) (by decide) d_M_text_114 ?_
      try simp (disch := omega) only [cd_set_eq, cd_set_ne, cd_set_set]
      refine r_k hO d_M_text_115 ?_
      refine r_sI3 hO d_M_text_116 rfl ?_
      refine r_mem (show _ = cd_set I5 (m + 1) (cd_rg N1 (104 + 96 * tc) 0 (fun k => c.getD k 0)) by rw [cd_rg_0, hN1, hq.1]) ?_
      exact loop c.length 0 (by omega) (by omega)
    · rw [nI_eq (by omega) (by omega)] at c_60
      refine r_ldc hO k_M_88 d_M_text_63 ?_
      refine r_iret hO hE (Nat.zero_le _) (Nat.zero_le _) d_M_text_65 ?_
      exact ⟨_, rfl, rfl, by rw [sp, if_pos c_60], by rw [sp, if_pos c_60]; exact hq⟩
  refine r_aload hO d_M_text_0 rfl ?_
  refine r_k hO d_M_text_1 ?_
  refine r_putI hO f_M_195 rfl hM.2.1 hM.1 d_M_text_2 ?_
  refine r_aload hO d_M_text_5 rfl ?_
  refine r_k hO d_M_text_6 ?_
  refine r_putI hO f_M_201 rfl hM.2.1 hM.1 d_M_text_7 ?_
  try simp (disch := omega) only [cd_set_eq, cd_set_ne, cd_set_set]
  refine r_aload hO d_M_text_10 rfl ?_
  refine r_cV0v hO hE (c_M_go hM (B := B) (L := L) (p := 0) (by rw [cd_set_eq]; exact a1) (by rw [cd_set_ne _ _ (by omega)]; exact a2) (by rw [cd_set_eq]; rfl) (Nat.zero_le _) False (by rw [cd_set_eq]; exact ⟨fun q => q.elim, fun _ q _ q2 e => absurd (show (-1 : Int32) = nI q from e) (px_m1 q (by omega))⟩)) mf_M_go lk_M_219 hM.2.1 rfl (by decide) rfl (Nat.le_of_ble_eq_true rfl) d_M_text_11 (Nat.zero_le _) (Nat.zero_le _) ?_
  rintro I2 ⟨Q, rfl, hQ⟩
  rw [cd_set_eq] at hQ
  rw [cd_set_set]
  obtain ⟨t0, ht0⟩ : ∃ t0, px_tk B L False 0 = t0 := ⟨_, rfl⟩
  rw [ht0] at hQ
  have b1 := px_GO_TF hQ
  have b2 : px_TO B L t0 := by rw [← ht0]; exact (px_tk_ok B False (Nat.zero_le _)).1
  have b3 : ∀ k, k < 7 ∨ 12 ≤ k → Q k = I m k := fun k hk => (hQ.1 k (by omega) (by omega) (by omega) (by omega) (by omega)).trans (by simp only [upd, show ¬ k = 11 by omega, show ¬ k = 7 by omega, if_false])
  try simp (disch := omega) only [cd_set_eq, cd_set_ne, cd_set_set]
  refine r_aload hO d_M_text_14 rfl ?_
  refine r_cV0i hO hE (c_M_takesKey hM (B := B) (L := L) (t := t0) (by rw [cd_set_eq]; exact (b3 6 (by decide)).trans a1) (by rw [cd_set_ne _ _ (by omega)]; exact a2) (by rw [cd_set_eq]; exact b1) b2 (by rw [cd_set_ne _ _ (by omega)]; exact hK6) (by rw [cd_set_ne _ _ (by omega)]; exact hK7)) mf_M_takesKey lk_M_250 hM.2.1 rfl (by decide) rfl (Nat.le_of_ble_eq_true rfl) d_M_text_15 (Nat.zero_le _) (Nat.zero_le _) ?_
  rintro y I3 h3
  try simp (disch := omega) only [cd_set_eq, cd_set_ne, cd_set_set]
  rcases h3 with ⟨k3, rfl, rfl⟩ | ⟨k3, rfl, Q3, rfl, g1, g2, g3⟩
  · refine r_if_eq hO d_M_text_18 (fun c_18 => ?_) (fun c_18 => ?_)
    · refine r_k hO d_M_text_32 ?_
      refine r_sI1 hO d_M_text_33 rfl ?_
      refine r_aload hO d_M_text_34 rfl ?_
      refine r_k hO d_M_text_35 ?_
      refine r_putI hO f_M_191 rfl hM.2.1 hM.1 d_M_text_36 ?_
      try simp (disch := omega) only [cd_set_eq, cd_set_ne, cd_set_set]
      refine r_iload hO d_M_text_39 rfl ?_
      refine r_if_ne hO d_M_text_40 (fun c_40 => ?_) (fun c_40 => ?_)
      · exact absurd rfl c_40
      · refine fail _ t0.1 _ _ (by rw [px_res_3 ht0 k3]) (by rw [px_res_3 ht0 k3]) (by rw [cd_set_eq]; exact b1.1) ⟨cd_set_ne _ _ (by omega), by rw [cd_set_eq]; rfl, cd_off.set _ _ (by simp), fun k hk => ?_⟩
        rw [cd_set_eq]
        exact (px_un _ _ (by omega)).trans (b3 k (by omega))
    · exact absurd rfl c_18
  · rw [cd_set_eq] at g2
    rw [cd_set_set]
    obtain ⟨r, hr⟩ : ∃ r, r = px_rdt B L (px_ky B t0) 800 0 0 0 (px_adv B L t0) := ⟨_, rfl⟩
    refine r_if_eq hO d_M_text_18 (fun c_18 => ?_) (fun c_18 => ?_)
    · exact absurd c_18 (by decide)
    · refine r_aload hO d_M_text_21 rfl ?_
      refine r_cV0i hO hE (c_M_takesE hM (B := B) (L := L) (ky := px_ky B t0) (t0 := px_adv B L t0) (by rw [cd_set_eq, g2 6 (by omega) (by decide)]; exact (b3 6 (by decide)).trans a1) (by rw [cd_set_ne _ _ (by omega)]; exact a2) (by rw [cd_set_eq]; exact ⟨g1, by omega⟩) (by rw [cd_set_eq]; exact g3) (px_adv_ok b2).1 hr) mf_M_takesE lk_M_253 hM.2.1 rfl (by decide) rfl (Nat.le_of_ble_eq_true rfl) d_M_text_22 (Nat.zero_le _) (Nat.zero_le _) ?_
      rintro y I4 ⟨hy, hf4, h8, hok⟩
      subst hy
      have qk : ∀ k, k < 6 ∨ 13 ≤ k ∧ k < 16 ∨ k = 18 ∨ 20 ≤ k → I4 m k = I m k := fun k hk => by
        rw [hf4.2 k (by omega), cd_set_eq, g2 k (by omega) (by omega)]
        exact b3 k (by omega)
      have qo : cd_off I I4 [m, m + 1, m + 8, m + 9, m + 10] := fun b hb => by
        rw [hf4.1 b (by simp at hb ⊢; omega), cd_set_ne _ _ (by simp at hb; omega)]
      have q1 : I4 (m + 1) = I (m + 1) := by rw [hf4.1 (m + 1) (by simp), cd_set_ne _ _ (by omega)]
      have tq : px_TQ I (cd_set I4 m (upd (I4 m) 6 (nI 0))) m (I (m + 1)) := ⟨(cd_set_ne _ _ (by omega)).trans q1, by rw [cd_set_eq]; rfl, qo.tr (cd_off.set _ _ (by simp)), fun k hk => by rw [cd_set_eq]; exact (px_un _ _ (by omega)).trans (qk k hk)⟩
      by_cases hrk : r.1 = true ∧ r.2.1.2.1 = 0
      · refine r_if_eqB hO d_M_text_25 (fun c_25 => ?_) (fun c_25 => ?_)
        · exact absurd hrk c_25
        · refine r_k hO d_M_text_28 ?_
          refine r_goto hO d_M_text_29 ?_
          refine r_sI1 hO d_M_text_33 rfl ?_
          refine r_aload hO d_M_text_34 rfl ?_
          refine r_k hO d_M_text_35 ?_
          refine r_putI hO f_M_191 rfl hM.2.1 hM.1 d_M_text_36 ?_
          refine r_iload hO d_M_text_39 rfl ?_
          refine r_if_ne hO d_M_text_40 (fun c_40 => ?_) (fun c_40 => ?_)
          · have hrd := rd_ok (B := B) (L := L) (ky := px_ky B t0) 800 0 0 0 _ (px_adv_ok b2).1 (Or.inl (by decide))
            rw [← hr] at hrd
            have hl1 := (hrd.2 hrk.1).1
            have hl2 := hrd.1.1
            obtain ⟨o1, o2, o3⟩ := hok hrk
            refine succ _ (px_ky B t0) r.2.2 _ _ (px_res_y ht0 k3 hr hrk) (by omega) ?_ ?_ ?_ ?_ tq
            · rw [cd_set_eq]; exact (hf4.2 12 (by decide)).trans (by rw [cd_set_eq]; exact g1)
            · rw [cd_set_eq]; exact o1
            · rw [cd_set_eq]; exact o3
            · rw [cd_set_ne _ _ (by omega)]; exact o2
          · exact absurd c_40 (by decide)
      · refine r_if_eqB hO d_M_text_25 (fun c_25 => ?_) (fun c_25 => ?_)
        · refine r_k hO d_M_text_32 ?_
          refine r_sI1 hO d_M_text_33 rfl ?_
          refine r_aload hO d_M_text_34 rfl ?_
          refine r_k hO d_M_text_35 ?_
          refine r_putI hO f_M_191 rfl hM.2.1 hM.1 d_M_text_36 ?_
          refine r_iload hO d_M_text_39 rfl ?_
          refine r_if_ne hO d_M_text_40 (fun c_40 => ?_) (fun c_40 => ?_)
          · exact absurd rfl c_40
          · exact fail _ r.2.1.1 _ _ (by rw [px_res_n ht0 k3 hr hrk]) (by rw [px_res_n ht0 k3 hr hrk]) (by rw [cd_set_eq]; exact h8) tq
        · exact absurd c_25 hrk
