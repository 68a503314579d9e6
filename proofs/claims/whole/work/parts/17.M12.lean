/-- a stretch of a row is written anew -/
def cd_rg (r : Nat → Int32) (b k : Nat) (f : Nat → Int32) : Nat → Int32 := fun j => if b ≤ j ∧ j < b + k then f (j - b) else r j
theorem cd_rg_0 (r : Nat → Int32) (b : Nat) (f : Nat → Int32) : cd_rg r b 0 f = r := by
  funext j
  unfold cd_rg
  rw [if_neg (by omega)]
theorem cd_rg_s (r : Nat → Int32) (b k : Nat) (f : Nat → Int32) : upd (cd_rg r b k f) (b + k) (f k) = cd_rg r b (k + 1) f := by
  funext j
  unfold upd cd_rg
  by_cases h : j = b + k
  · subst h
    rw [if_pos rfl, if_pos (by omega), Nat.add_sub_cancel_left]
  · rw [if_neg h]
    by_cases h2 : b ≤ j ∧ j < b + k
    · rw [if_pos h2, if_pos (by omega)]
    · rw [if_neg h2, if_neg (by omega)]
def cd_sdo (I : cd_Mem) (m : Nat) (s : Nat) (so n : Int32) : cd_Mem := cd_set (cd_set (cd_set I (m + 13) (upd (I (m + 13)) s so)) (m + 14) (upd (I (m + 14)) s n)) (m + 15) (cd_rg (I (m + 15)) (24 * s) 24 (fun _ => nI 0))
def sp_sheet (I : cd_Mem) (m : Nat) (s so n : Int32) : Int32 × cd_Mem := if nI 0 ≤ s ∧ s ≤ nI 3 then (if (-1) ≤ so ∧ so ≤ nI 1 then (if so < 0 then (nI 0, cd_sdo I m (cd_tn s) so (nI 0)) else if n ≤ nI 24 then (if 0 ≤ n then (n, cd_sdo I m (cd_tn s) so n) else (cd_SIZE, I)) else (cd_BAD, I)) else (cd_BAD, I)) else (cd_BAD, I)
theorem cd_clm {S : cd_Sp} {I : cd_Mem} {v : Int32} {sp : Int32 × cd_Mem} (h : sp = (v, I)) : cd_Fi S sp.1 sp.2 (some (.int v)) S I := by
  rw [h]
  exact ⟨rfl, rfl, rfl⟩
def cd_mst (I : cd_Mem) (m s p : Nat) (v : Int32) : Int32 × cd_Mem := (nI 1, cd_set I (m + 15) (upd (I (m + 15)) (24 * s + p) (if I (m + 13) s = 0 then v.toInt16.toInt32 else v)))
def cd_m60 (I : cd_Mem) (m s p : Nat) (v : Int32) : Int32 × cd_Mem := if I (m + 13) s = nI 1 then (if v = cd_NONE then cd_mst I m s p v else if (-99999) ≤ v ∧ v ≤ 99999 then cd_mst I m s p v else (cd_BAD, I)) else cd_mst I m s p v
def sp_mark (I : cd_Mem) (m : Nat) (s p v : Int32) : Int32 × cd_Mem := if nI 0 ≤ s ∧ s ≤ nI 3 then (if 0 ≤ I (m + 13) (cd_tn s) then (if nI 0 ≤ p ∧ p ≤ I (m + 14) (cd_tn s) - nI 1 then (if I (m + 13) (cd_tn s) = 0 then (if v = cd_NONE then (cd_KIND, I) else cd_m60 I m (cd_tn s) (cd_tn p) v) else cd_m60 I m (cd_tn s) (cd_tn p) v) else (cd_INDEX, I)) else (cd_NOTHING, I)) else (cd_BAD, I)
def cd_po (N ce : Nat → Int32) (s : Nat) : Nat → Int32 × (Nat → Int32)
  | 0 => (nI 0, N)
  | a + 1 => ((cd_po N ce s a).1 + (if (cd_po N ce s a).2 (16 + 5 * a + 2) = (if ce (24 * s + a) = cd_NONE then (cd_po N ce s a).2 (16 + 5 * a + 2) else cd_wi (ce (24 * s + a)) (nI 0) (nI 99)) then nI 0 else nI 1), upd (cd_po N ce s a).2 (16 + 5 * a + 2) (if ce (24 * s + a) = cd_NONE then (cd_po N ce s a).2 (16 + 5 * a + 2) else cd_wi (ce (24 * s + a)) (nI 0) (nI 99)))
def sp_pour (N so sz ce : Nat → Int32) (mm : Nat) (s : Int32) : Int32 × (Nat → Int32) := if nI 0 ≤ s ∧ s ≤ nI 3 then (if 0 ≤ so (cd_tn s) then cd_po N ce (cd_tn s) (min (cd_tn (sz (cd_tn s))) mm) else (cd_NOTHING, N)) else (cd_BAD, N)
def cd_rd (N ce : Nat → Int32) (s : Nat) : Nat → Nat → Int32
  | 0, _ => cd_NONE
  | r + 1, k => if ce (24 * s + k) = cd_NONE then cd_rd N ce s r (k + 1) else if cd_isA N (nI k) then (if ce (24 * s + k) = N (16 + 5 * k + 1) then cd_rd N ce s r (k + 1) else nI k) else nI k
def sp_reads (N so sz ce : Nat → Int32) (s : Int32) : Int32 := if nI 0 ≤ s ∧ s ≤ nI 3 then (if 0 ≤ so (cd_tn s) then cd_rd N ce (cd_tn s) (cd_tn (sz (cd_tn s))) 0 else cd_NOTHING) else cd_BAD
theorem cd_set_self_at (I : cd_Mem) (a : Nat) {r : Nat → Int32} (h : I a = r) : cd_set I a r = I := by rw [← h, cd_set_self]
theorem cd_nle0 {x : Int32} (h : x < 0) : ¬ 0 ≤ x := by
  rw [Int32.lt_iff_toInt_lt] at h
  rw [Int32.le_iff_toInt_le]
  omega
theorem cd_le0x {x : Int32} (h : ¬ x < 0) : 0 ≤ x := by
  rw [Int32.lt_iff_toInt_lt] at h
  rw [Int32.le_iff_toInt_le]
  omega
theorem d_M_sheet_0 : cd_D_iload b_M_sheet 0 1 1 := Or.inr ⟨1, ⟨by decide +kernel, rfl⟩, rfl⟩
theorem d_M_sheet_1 : cd_D 3 b_M_sheet 1 (.invokestatic 183) 4 := ⟨by decide +kernel, rfl⟩
theorem d_M_sheet_4 : cd_D_if_eq b_M_sheet 4 26 7 := ⟨22, by decide +kernel, by decide, rfl⟩
theorem d_M_sheet_7 : cd_D_iload b_M_sheet 7 2 8 := Or.inr ⟨2, ⟨by decide +kernel, rfl⟩, rfl⟩
theorem d_M_sheet_8 : cd_Dk b_M_sheet 8 (-1) 9 := Or.inl ⟨-1, ⟨by decide +kernel, rfl⟩, by decide +kernel⟩
theorem d_M_sheet_9 : cd_Dk b_M_sheet 9 (nI 1) 10 := Or.inl ⟨1, ⟨by decide +kernel, rfl⟩, by decide +kernel⟩
theorem d_M_sheet_10 : cd_D 3 b_M_sheet 10 (.invokestatic 75) 13 := ⟨by decide +kernel, rfl⟩
theorem d_M_sheet_13 : cd_D_if_eq b_M_sheet 13 26 16 := ⟨13, by decide +kernel, by decide, rfl⟩
theorem d_M_sheet_16 : cd_D_iload b_M_sheet 16 2 17 := Or.inr ⟨2, ⟨by decide +kernel, rfl⟩, rfl⟩
theorem d_M_sheet_17 : cd_D_if_lt b_M_sheet 17 29 20 := ⟨12, by decide +kernel, by decide, rfl⟩
theorem d_M_sheet_20 : cd_D_iload b_M_sheet 20 3 21 := Or.inr ⟨3, ⟨by decide +kernel, rfl⟩, rfl⟩
theorem d_M_sheet_21 : cd_Dk b_M_sheet 21 (nI 24) 23 := Or.inr (Or.inl ⟨24, ⟨by decide +kernel, rfl⟩, by decide +kernel⟩)
theorem d_M_sheet_23 : cd_D_icmp_le b_M_sheet 23 29 26 := ⟨6, by decide +kernel, by decide, rfl⟩
theorem d_M_sheet_26 : cd_D 2 b_M_sheet 26 (.ldc 87) 28 := ⟨by decide +kernel, rfl⟩
theorem d_M_sheet_28 : cd_D 1 b_M_sheet 28 .ireturn 29 := ⟨by decide +kernel, rfl⟩
theorem d_M_sheet_29 : cd_D_iload b_M_sheet 29 2 30 := Or.inr ⟨2, ⟨by decide +kernel, rfl⟩, rfl⟩
theorem d_M_sheet_30 : cd_D_if_lt b_M_sheet 30 41 33 := ⟨11, by decide +kernel, by decide, rfl⟩
theorem d_M_sheet_33 : cd_D_iload b_M_sheet 33 3 34 := Or.inr ⟨3, ⟨by decide +kernel, rfl⟩, rfl⟩
theorem d_M_sheet_34 : cd_D_if_ge b_M_sheet 34 41 37 := ⟨7, by decide +kernel, by decide, rfl⟩
theorem d_M_sheet_37 : cd_D 3 b_M_sheet 37 (.ldc_w 259) 40 := ⟨by decide +kernel, rfl⟩
theorem d_M_sheet_40 : cd_D 1 b_M_sheet 40 .ireturn 41 := ⟨by decide +kernel, rfl⟩
theorem d_M_sheet_41 : cd_D_aload b_M_sheet 41 0 42 := Or.inr ⟨0, ⟨by decide +kernel, rfl⟩, rfl⟩
theorem d_M_sheet_42 : cd_D 3 b_M_sheet 42 (.getfield 48) 45 := ⟨by decide +kernel, rfl⟩
theorem d_M_sheet_45 : cd_D_iload b_M_sheet 45 1 46 := Or.inr ⟨1, ⟨by decide +kernel, rfl⟩, rfl⟩
theorem d_M_sheet_46 : cd_D_iload b_M_sheet 46 2 47 := Or.inr ⟨2, ⟨by decide +kernel, rfl⟩, rfl⟩
theorem d_M_sheet_47 : cd_D 1 b_M_sheet 47 .iastore 48 := ⟨by decide +kernel, rfl⟩
theorem d_M_sheet_48 : cd_D_aload b_M_sheet 48 0 49 := Or.inr ⟨0, ⟨by decide +kernel, rfl⟩, rfl⟩
theorem d_M_sheet_49 : cd_D 3 b_M_sheet 49 (.getfield 51) 52 := ⟨by decide +kernel, rfl⟩
theorem d_M_sheet_52 : cd_D_iload b_M_sheet 52 1 53 := Or.inr ⟨1, ⟨by decide +kernel, rfl⟩, rfl⟩
theorem d_M_sheet_53 : cd_D_iload b_M_sheet 53 2 54 := Or.inr ⟨2, ⟨by decide +kernel, rfl⟩, rfl⟩
theorem d_M_sheet_54 : cd_D_if_ge b_M_sheet 54 61 57 := ⟨7, by decide +kernel, by decide, rfl⟩
theorem d_M_sheet_57 : cd_Dk b_M_sheet 57 (nI 0) 58 := Or.inl ⟨0, ⟨by decide +kernel, rfl⟩, by decide +kernel⟩
theorem d_M_sheet_58 : cd_D_goto b_M_sheet 58 62 := ⟨4, by decide +kernel, by decide⟩
theorem d_M_sheet_61 : cd_D_iload b_M_sheet 61 3 62 := Or.inr ⟨3, ⟨by decide +kernel, rfl⟩, rfl⟩
theorem d_M_sheet_62 : cd_D 1 b_M_sheet 62 .iastore 63 := ⟨by decide +kernel, rfl⟩
theorem d_M_sheet_63 : cd_Dk b_M_sheet 63 (nI 0) 64 := Or.inl ⟨0, ⟨by decide +kernel, rfl⟩, by decide +kernel⟩
theorem d_M_sheet_64 : cd_D_istore b_M_sheet 64 4 66 := Or.inl ⟨by decide +kernel, rfl⟩
theorem d_M_sheet_66 : cd_D_iload b_M_sheet 66 4 68 := Or.inl ⟨by decide +kernel, rfl⟩
theorem d_M_sheet_68 : cd_Dk b_M_sheet 68 (nI 24) 70 := Or.inr (Or.inl ⟨24, ⟨by decide +kernel, rfl⟩, by decide +kernel⟩)
theorem d_M_sheet_70 : cd_D_icmp_ge b_M_sheet 70 92 73 := ⟨22, by decide +kernel, by decide, rfl⟩
theorem d_M_sheet_73 : cd_D_aload b_M_sheet 73 0 74 := Or.inr ⟨0, ⟨by decide +kernel, rfl⟩, rfl⟩
theorem d_M_sheet_74 : cd_D 3 b_M_sheet 74 (.getfield 54) 77 := ⟨by decide +kernel, rfl⟩
theorem d_M_sheet_77 : cd_Dk b_M_sheet 77 (nI 24) 79 := Or.inr (Or.inl ⟨24, ⟨by decide +kernel, rfl⟩, by decide +kernel⟩)
theorem d_M_sheet_79 : cd_D_iload b_M_sheet 79 1 80 := Or.inr ⟨1, ⟨by decide +kernel, rfl⟩, rfl⟩
theorem d_M_sheet_80 : cd_D 1 b_M_sheet 80 .imul 81 := ⟨by decide +kernel, rfl⟩
theorem d_M_sheet_81 : cd_D_iload b_M_sheet 81 4 83 := Or.inl ⟨by decide +kernel, rfl⟩
theorem d_M_sheet_83 : cd_D 1 b_M_sheet 83 .iadd 84 := ⟨by decide +kernel, rfl⟩
theorem d_M_sheet_84 : cd_Dk b_M_sheet 84 (nI 0) 85 := Or.inl ⟨0, ⟨by decide +kernel, rfl⟩, by decide +kernel⟩
theorem d_M_sheet_85 : cd_D 1 b_M_sheet 85 .iastore 86 := ⟨by decide +kernel, rfl⟩
theorem d_M_sheet_86 : cd_D 3 b_M_sheet 86 (.iinc 4 (1)) 89 := ⟨by decide +kernel, rfl⟩
theorem d_M_sheet_89 : cd_D_goto b_M_sheet 89 66 := ⟨-23, by decide +kernel, by decide⟩
theorem d_M_sheet_92 : cd_D_aload b_M_sheet 92 0 93 := Or.inr ⟨0, ⟨by decide +kernel, rfl⟩, rfl⟩
theorem d_M_sheet_93 : cd_D 3 b_M_sheet 93 (.getfield 51) 96 := ⟨by decide +kernel, rfl⟩
theorem d_M_sheet_96 : cd_D_iload b_M_sheet 96 1 97 := Or.inr ⟨1, ⟨by decide +kernel, rfl⟩, rfl⟩
theorem d_M_sheet_97 : cd_D 1 b_M_sheet 97 .iaload 98 := ⟨by decide +kernel, rfl⟩
theorem d_M_sheet_98 : cd_D 1 b_M_sheet 98 .ireturn 99 := ⟨by decide +kernel, rfl⟩
theorem c_M_sheet {l : Launch} {w : cd_WT} {S : cd_Sp} {I : cd_Mem} {m : Nat} (hM : cd_MO w S m) (s so n : Int32) : cd_C l w m_M_sheet 2 0 0 [.ref m, .int s, .int so, .int n] S I (cd_Fi S (sp_sheet I m s so n).1 (sp_sheet I m s so n).2) := by
  refine cd_intro (by decide) (by simp [Value.category]) (Nat.le_of_ble_eq_true rfl) ?_
  intro X hO hE
  show cd_J w X 0 0 S I 0 [some (.ref m), some (.int s), some (.int so), some (.int n), none] []
  have loop : ∀ (z : Nat) (hz : z < 4) (y : Int32) (x3 : Int32) (hp : sp_sheet I m s so n = (y, cd_sdo I m z so y)) (r k : Nat), k + r = 24 → cd_J w X 0 0 S (cd_set (cd_set (cd_set I (m + 13) (upd (I (m + 13)) z so)) (m + 14) (upd (I (m + 14)) z y)) (m + 15) (cd_rg (I (m + 15)) (24 * z) k (fun _ => nI 0))) 66 [some (.ref m), some (.int (nI z)), some (.int so), some (.int x3), some (.int (nI k))] [] := by
    intro z hz y x3 hp r
    induction r with
    | zero =>
      intro k hk
      have hk4 : k = 24 := by omega
      subst hk4
      refine r_iload hO d_M_sheet_66 rfl ?_
      refine r_k hO d_M_sheet_68 ?_
      refine r_icmp_ge hO d_M_sheet_70 (fun c_70 => ?_) (fun c_70 => ?_)
      · refine r_aload hO d_M_sheet_92 rfl ?_
        refine r_getR hO f_M_51 rfl hM.2.1 (mo_r14 hM) d_M_sheet_93 ?_
        try simp (disch := omega) only [cd_set_eq, cd_set_ne, cd_set_set]
        refine r_iload hO d_M_sheet_96 rfl ?_
        refine r_iald hO (mo_s14 hM) (by omega) (by decide) d_M_sheet_97 ?_
        try simp (disch := omega) only [cd_set_eq, cd_set_ne, cd_set_set]
        refine r_iret hO hE (Nat.zero_le _) (Nat.zero_le _) d_M_sheet_98 ?_
        exact ⟨by rw [hp]; simp [upd], rfl, by rw [hp]; rfl⟩
      · exact absurd (nI_le (Nat.le_refl _) (by omega)) c_70
    | succ r ih =>
      intro k hk
      refine r_iload hO d_M_sheet_66 rfl ?_
      refine r_k hO d_M_sheet_68 ?_
      refine r_icmp_ge hO d_M_sheet_70 (fun c_70 => ?_) (fun c_70 => ?_)
      · exact absurd c_70 (nI_ge (by omega) (by omega))
      · refine r_aload hO d_M_sheet_73 rfl ?_
        refine r_getR hO f_M_54 rfl hM.2.1 (mo_r15 hM) d_M_sheet_74 ?_
        try simp (disch := omega) only [cd_set_eq, cd_set_ne, cd_set_set]
        refine r_k hO d_M_sheet_77 ?_
        refine r_iload hO d_M_sheet_79 rfl ?_
        refine r_imulN hO d_M_sheet_80 ?_
        refine r_iload hO d_M_sheet_81 rfl ?_
        refine r_iaddN hO d_M_sheet_83 ?_
        refine r_k hO d_M_sheet_84 ?_
        refine r_iast hO (mo_s15 hM) (mo_l15 hM) (by omega) (by decide) d_M_sheet_85 ?_
        try simp (disch := omega) only [cd_set_eq, cd_set_ne, cd_set_set]
        rw [cd_rg_s]
        refine r_incN4 hO d_M_sheet_86 rfl ?_
        refine r_goto hO d_M_sheet_89 ?_
        exact ih (k + 1) (by omega)
  refine r_iload hO d_M_sheet_0 rfl ?_
  refine r_cS1fi hO hE (c_M_isSheet _) mf_M_isSheet lk_M_183 (by decide) rfl (Nat.le_of_ble_eq_true rfl) d_M_sheet_1 (Nat.zero_le _) (Nat.zero_le _) ?_
  try simp (disch := omega) only [cd_set_eq, cd_set_ne, cd_set_set]
  refine r_if_eqB hO d_M_sheet_4 (fun c_4 => ?_) (fun c_4 => ?_)
  · refine r_ldc hO k_M_87 d_M_sheet_26 ?_
    refine r_iret hO hE (Nat.zero_le _) (Nat.zero_le _) d_M_sheet_28 ?_
    exact cd_clm (by unfold sp_sheet; rw [if_neg c_4])
  · obtain ⟨z, hz1, hz2, rfl⟩ := cd_in_ex c_4 (by decide) (by decide)
    refine r_iload hO d_M_sheet_7 rfl ?_
    refine r_k hO d_M_sheet_8 ?_
    refine r_k hO d_M_sheet_9 ?_
    refine r_cS3fi hO hE (c_M_in _ _ _) mf_M_in lk_M_75 (by decide) rfl (Nat.le_of_ble_eq_true rfl) d_M_sheet_10 (Nat.zero_le _) (Nat.zero_le _) ?_
    try simp (disch := omega) only [cd_set_eq, cd_set_ne, cd_set_set]
    refine r_if_eqB hO d_M_sheet_13 (fun c_13 => ?_) (fun c_13 => ?_)
    · refine r_ldc hO k_M_87 d_M_sheet_26 ?_
      refine r_iret hO hE (Nat.zero_le _) (Nat.zero_le _) d_M_sheet_28 ?_
      exact cd_clm (by unfold sp_sheet; rw [if_pos c_4, if_neg c_13])
    · refine r_iload hO d_M_sheet_16 rfl ?_
      refine r_if_lt hO d_M_sheet_17 (fun c_17 => ?_) (fun c_17 => ?_)
      · refine r_iload hO d_M_sheet_29 rfl ?_
        refine r_if_lt hO d_M_sheet_30 (fun c_30 => ?_) (fun c_30 => ?_)
        · refine r_aload hO d_M_sheet_41 rfl ?_
          refine r_getR hO f_M_48 rfl hM.2.1 (mo_r13 hM) d_M_sheet_42 ?_
          try simp (disch := omega) only [cd_set_eq, cd_set_ne, cd_set_set]
          refine r_iload hO d_M_sheet_45 rfl ?_
          refine r_iload hO d_M_sheet_46 rfl ?_
          refine r_iast hO (mo_s13 hM) (mo_l13 hM) (by omega) (by decide) d_M_sheet_47 ?_
          try simp (disch := omega) only [cd_set_eq, cd_set_ne, cd_set_set]
          refine r_aload hO d_M_sheet_48 rfl ?_
          refine r_getR hO f_M_51 rfl hM.2.1 (mo_r14 hM) d_M_sheet_49 ?_
          try simp (disch := omega) only [cd_set_eq, cd_set_ne, cd_set_set]
          refine r_iload hO d_M_sheet_52 rfl ?_
          refine r_iload hO d_M_sheet_53 rfl ?_
          refine r_if_ge hO d_M_sheet_54 (fun c_54 => ?_) (fun c_54 => ?_)
          · exact absurd c_54 (cd_nle0 c_17)
          · refine r_k hO d_M_sheet_57 ?_
            refine r_goto hO d_M_sheet_58 ?_
            refine r_iast hO (mo_s14 hM) (mo_l14 hM) (by omega) (by decide) d_M_sheet_62 ?_
            try simp (disch := omega) only [cd_set_eq, cd_set_ne, cd_set_set]
            refine r_k hO d_M_sheet_63 ?_
            refine r_sI4 hO d_M_sheet_64 rfl ?_
            refine r_mem (show _ = (cd_set (cd_set (cd_set I (m + 13) (upd (I (m + 13)) z so)) (m + 14) (upd (I (m + 14)) z (nI 0))) (m + 15) (cd_rg (I (m + 15)) (24 * z) 0 (fun _ => nI 0))) by rw [cd_rg_0]; exact (cd_set_self_at _ _ (by simp (disch := omega) only [cd_set_ne])).symm) ?_
            exact loop z (by omega) (nI 0) _ (by unfold sp_sheet; rw [if_pos c_4, if_pos c_13, if_pos c_17, cd_tn_nI (by omega)]) 24 0 (by decide)
        · exact absurd c_17 c_30
      · refine r_iload hO d_M_sheet_20 rfl ?_
        refine r_k hO d_M_sheet_21 ?_
        refine r_icmp_le hO d_M_sheet_23 (fun c_23 => ?_) (fun c_23 => ?_)
        · refine r_iload hO d_M_sheet_29 rfl ?_
          refine r_if_lt hO d_M_sheet_30 (fun c_30 => ?_) (fun c_30 => ?_)
          · exact absurd c_30 c_17
          · refine r_iload hO d_M_sheet_33 rfl ?_
            refine r_if_ge hO d_M_sheet_34 (fun c_34 => ?_) (fun c_34 => ?_)
            · refine r_aload hO d_M_sheet_41 rfl ?_
              refine r_getR hO f_M_48 rfl hM.2.1 (mo_r13 hM) d_M_sheet_42 ?_
              try simp (disch := omega) only [cd_set_eq, cd_set_ne, cd_set_set]
              refine r_iload hO d_M_sheet_45 rfl ?_
              refine r_iload hO d_M_sheet_46 rfl ?_
              refine r_iast hO (mo_s13 hM) (mo_l13 hM) (by omega) (by decide) d_M_sheet_47 ?_
              try simp (disch := omega) only [cd_set_eq, cd_set_ne, cd_set_set]
              refine r_aload hO d_M_sheet_48 rfl ?_
              refine r_getR hO f_M_51 rfl hM.2.1 (mo_r14 hM) d_M_sheet_49 ?_
              try simp (disch := omega) only [cd_set_eq, cd_set_ne, cd_set_set]
              refine r_iload hO d_M_sheet_52 rfl ?_
              refine r_iload hO d_M_sheet_53 rfl ?_
              refine r_if_ge hO d_M_sheet_54 (fun c_54 => ?_) (fun c_54 => ?_)
              · refine r_iload hO d_M_sheet_61 rfl ?_
                refine r_iast hO (mo_s14 hM) (mo_l14 hM) (by omega) (by decide) d_M_sheet_62 ?_
                try simp (disch := omega) only [cd_set_eq, cd_set_ne, cd_set_set]
                refine r_k hO d_M_sheet_63 ?_
                refine r_sI4 hO d_M_sheet_64 rfl ?_
                refine r_mem (show _ = (cd_set (cd_set (cd_set I (m + 13) (upd (I (m + 13)) z so)) (m + 14) (upd (I (m + 14)) z n)) (m + 15) (cd_rg (I (m + 15)) (24 * z) 0 (fun _ => nI 0))) by rw [cd_rg_0]; exact (cd_set_self_at _ _ (by simp (disch := omega) only [cd_set_ne])).symm) ?_
                exact loop z (by omega) n _ (by unfold sp_sheet; rw [if_pos c_4, if_pos c_13, if_neg c_17, if_pos c_23, if_pos c_34, cd_tn_nI (by omega)]) 24 0 (by decide)
              · exact absurd (cd_le0x c_17) c_54
            · refine r_ldcw hO k_M_259 d_M_sheet_37 ?_
              refine r_iret hO hE (Nat.zero_le _) (Nat.zero_le _) d_M_sheet_40 ?_
              exact cd_clm (by unfold sp_sheet; rw [if_pos c_4, if_pos c_13, if_neg c_17, if_pos c_23, if_neg c_34])
        · refine r_ldc hO k_M_87 d_M_sheet_26 ?_
          refine r_iret hO hE (Nat.zero_le _) (Nat.zero_le _) d_M_sheet_28 ?_
          exact cd_clm (by unfold sp_sheet; rw [if_pos c_4, if_pos c_13, if_neg c_17, if_neg c_23])
theorem cd_isP_ex {x y : Int32} {n : Nat} (h1 : y = nI n) (hm : n ≤ 24) (h : nI 0 ≤ x ∧ x ≤ y - nI 1) : ∃ i, i < n ∧ x = nI i := by
  obtain ⟨h2, h3⟩ := h
  rw [h1] at h3
  by_cases h0 : n = 0
  · subst h0
    exfalso
    rw [Int32.le_iff_toInt_le] at h2 h3
    have e1 : (nI 0).toInt = 0 := rfl
    have e2 : (nI 0 - nI 1).toInt = -1 := rfl
    omega
  · rw [pk_sub (by omega)] at h3
    obtain ⟨q, -, h4, rfl⟩ := cd_in_ex ⟨h2, h3⟩ (by decide) (by omega)
    exact ⟨q, by omega, rfl⟩
theorem d_M_mark_0 : cd_D_iload b_M_mark 0 1 1 := Or.inr ⟨1, ⟨by decide +kernel, rfl⟩, rfl⟩
theorem d_M_mark_1 : cd_D 3 b_M_mark 1 (.invokestatic 183) 4 := ⟨by decide +kernel, rfl⟩
theorem d_M_mark_4 : cd_D_if_ne b_M_mark 4 10 7 := ⟨6, by decide +kernel, by decide, rfl⟩
theorem d_M_mark_7 : cd_D 2 b_M_mark 7 (.ldc 87) 9 := ⟨by decide +kernel, rfl⟩
theorem d_M_mark_9 : cd_D 1 b_M_mark 9 .ireturn 10 := ⟨by decide +kernel, rfl⟩
theorem d_M_mark_10 : cd_D_aload b_M_mark 10 0 11 := Or.inr ⟨0, ⟨by decide +kernel, rfl⟩, rfl⟩
theorem d_M_mark_11 : cd_D 3 b_M_mark 11 (.getfield 48) 14 := ⟨by decide +kernel, rfl⟩
theorem d_M_mark_14 : cd_D_iload b_M_mark 14 1 15 := Or.inr ⟨1, ⟨by decide +kernel, rfl⟩, rfl⟩
theorem d_M_mark_15 : cd_D 1 b_M_mark 15 .iaload 16 := ⟨by decide +kernel, rfl⟩
theorem d_M_mark_16 : cd_D_if_ge b_M_mark 16 22 19 := ⟨6, by decide +kernel, by decide, rfl⟩
theorem d_M_mark_19 : cd_D 2 b_M_mark 19 (.ldc 186) 21 := ⟨by decide +kernel, rfl⟩
theorem d_M_mark_21 : cd_D 1 b_M_mark 21 .ireturn 22 := ⟨by decide +kernel, rfl⟩
theorem d_M_mark_22 : cd_D_iload b_M_mark 22 2 23 := Or.inr ⟨2, ⟨by decide +kernel, rfl⟩, rfl⟩
theorem d_M_mark_23 : cd_Dk b_M_mark 23 (nI 0) 24 := Or.inl ⟨0, ⟨by decide +kernel, rfl⟩, by decide +kernel⟩
theorem d_M_mark_24 : cd_D_aload b_M_mark 24 0 25 := Or.inr ⟨0, ⟨by decide +kernel, rfl⟩, rfl⟩
theorem d_M_mark_25 : cd_D 3 b_M_mark 25 (.getfield 51) 28 := ⟨by decide +kernel, rfl⟩
theorem d_M_mark_28 : cd_D_iload b_M_mark 28 1 29 := Or.inr ⟨1, ⟨by decide +kernel, rfl⟩, rfl⟩
theorem d_M_mark_29 : cd_D 1 b_M_mark 29 .iaload 30 := ⟨by decide +kernel, rfl⟩
theorem d_M_mark_30 : cd_Dk b_M_mark 30 (nI 1) 31 := Or.inl ⟨1, ⟨by decide +kernel, rfl⟩, by decide +kernel⟩
theorem d_M_mark_31 : cd_D 1 b_M_mark 31 .isub 32 := ⟨by decide +kernel, rfl⟩
theorem d_M_mark_32 : cd_D 3 b_M_mark 32 (.invokestatic 75) 35 := ⟨by decide +kernel, rfl⟩
theorem d_M_mark_35 : cd_D_if_ne b_M_mark 35 42 38 := ⟨7, by decide +kernel, by decide, rfl⟩
theorem d_M_mark_38 : cd_D 3 b_M_mark 38 (.ldc_w 260) 41 := ⟨by decide +kernel, rfl⟩
theorem d_M_mark_41 : cd_D 1 b_M_mark 41 .ireturn 42 := ⟨by decide +kernel, rfl⟩
theorem d_M_mark_42 : cd_D_aload b_M_mark 42 0 43 := Or.inr ⟨0, ⟨by decide +kernel, rfl⟩, rfl⟩
theorem d_M_mark_43 : cd_D 3 b_M_mark 43 (.getfield 48) 46 := ⟨by decide +kernel, rfl⟩
theorem d_M_mark_46 : cd_D_iload b_M_mark 46 1 47 := Or.inr ⟨1, ⟨by decide +kernel, rfl⟩, rfl⟩
theorem d_M_mark_47 : cd_D 1 b_M_mark 47 .iaload 48 := ⟨by decide +kernel, rfl⟩
theorem d_M_mark_48 : cd_D_if_ne b_M_mark 48 60 51 := ⟨12, by decide +kernel, by decide, rfl⟩
theorem d_M_mark_51 : cd_D_iload b_M_mark 51 3 52 := Or.inr ⟨3, ⟨by decide +kernel, rfl⟩, rfl⟩
theorem d_M_mark_52 : cd_D 2 b_M_mark 52 (.ldc 176) 54 := ⟨by decide +kernel, rfl⟩
theorem d_M_mark_54 : cd_D_icmp_ne b_M_mark 54 60 57 := ⟨6, by decide +kernel, by decide, rfl⟩
theorem d_M_mark_57 : cd_D 2 b_M_mark 57 (.ldc 133) 59 := ⟨by decide +kernel, rfl⟩
theorem d_M_mark_59 : cd_D 1 b_M_mark 59 .ireturn 60 := ⟨by decide +kernel, rfl⟩
theorem d_M_mark_60 : cd_D_aload b_M_mark 60 0 61 := Or.inr ⟨0, ⟨by decide +kernel, rfl⟩, rfl⟩
theorem d_M_mark_61 : cd_D 3 b_M_mark 61 (.getfield 48) 64 := ⟨by decide +kernel, rfl⟩
theorem d_M_mark_64 : cd_D_iload b_M_mark 64 1 65 := Or.inr ⟨1, ⟨by decide +kernel, rfl⟩, rfl⟩
theorem d_M_mark_65 : cd_D 1 b_M_mark 65 .iaload 66 := ⟨by decide +kernel, rfl⟩
theorem d_M_mark_66 : cd_Dk b_M_mark 66 (nI 1) 67 := Or.inl ⟨1, ⟨by decide +kernel, rfl⟩, by decide +kernel⟩
theorem d_M_mark_67 : cd_D_icmp_ne b_M_mark 67 92 70 := ⟨25, by decide +kernel, by decide, rfl⟩
theorem d_M_mark_70 : cd_D_iload b_M_mark 70 3 71 := Or.inr ⟨3, ⟨by decide +kernel, rfl⟩, rfl⟩
theorem d_M_mark_71 : cd_D 2 b_M_mark 71 (.ldc 176) 73 := ⟨by decide +kernel, rfl⟩
theorem d_M_mark_73 : cd_D_icmp_eq b_M_mark 73 92 76 := ⟨19, by decide +kernel, by decide, rfl⟩
theorem d_M_mark_76 : cd_D_iload b_M_mark 76 3 77 := Or.inr ⟨3, ⟨by decide +kernel, rfl⟩, rfl⟩
theorem d_M_mark_77 : cd_D 3 b_M_mark 77 (.ldc_w 261) 80 := ⟨by decide +kernel, rfl⟩
theorem d_M_mark_80 : cd_D 3 b_M_mark 80 (.ldc_w 262) 83 := ⟨by decide +kernel, rfl⟩
theorem d_M_mark_83 : cd_D 3 b_M_mark 83 (.invokestatic 75) 86 := ⟨by decide +kernel, rfl⟩
theorem d_M_mark_86 : cd_D_if_ne b_M_mark 86 92 89 := ⟨6, by decide +kernel, by decide, rfl⟩
theorem d_M_mark_89 : cd_D 2 b_M_mark 89 (.ldc 87) 91 := ⟨by decide +kernel, rfl⟩
theorem d_M_mark_91 : cd_D 1 b_M_mark 91 .ireturn 92 := ⟨by decide +kernel, rfl⟩
theorem d_M_mark_92 : cd_D_aload b_M_mark 92 0 93 := Or.inr ⟨0, ⟨by decide +kernel, rfl⟩, rfl⟩
theorem d_M_mark_93 : cd_D 3 b_M_mark 93 (.getfield 54) 96 := ⟨by decide +kernel, rfl⟩
theorem d_M_mark_96 : cd_Dk b_M_mark 96 (nI 24) 98 := Or.inr (Or.inl ⟨24, ⟨by decide +kernel, rfl⟩, by decide +kernel⟩)
theorem d_M_mark_98 : cd_D_iload b_M_mark 98 1 99 := Or.inr ⟨1, ⟨by decide +kernel, rfl⟩, rfl⟩
theorem d_M_mark_99 : cd_D 1 b_M_mark 99 .imul 100 := ⟨by decide +kernel, rfl⟩
theorem d_M_mark_100 : cd_D_iload b_M_mark 100 2 101 := Or.inr ⟨2, ⟨by decide +kernel, rfl⟩, rfl⟩
theorem d_M_mark_101 : cd_D 1 b_M_mark 101 .iadd 102 := ⟨by decide +kernel, rfl⟩
theorem d_M_mark_102 : cd_D_aload b_M_mark 102 0 103 := Or.inr ⟨0, ⟨by decide +kernel, rfl⟩, rfl⟩
theorem d_M_mark_103 : cd_D 3 b_M_mark 103 (.getfield 48) 106 := ⟨by decide +kernel, rfl⟩
theorem d_M_mark_106 : cd_D_iload b_M_mark 106 1 107 := Or.inr ⟨1, ⟨by decide +kernel, rfl⟩, rfl⟩
theorem d_M_mark_107 : cd_D 1 b_M_mark 107 .iaload 108 := ⟨by decide +kernel, rfl⟩
theorem d_M_mark_108 : cd_D_if_ne b_M_mark 108 116 111 := ⟨8, by decide +kernel, by decide, rfl⟩
theorem d_M_mark_111 : cd_D_iload b_M_mark 111 3 112 := Or.inr ⟨3, ⟨by decide +kernel, rfl⟩, rfl⟩
theorem d_M_mark_112 : cd_D 1 b_M_mark 112 .i2s 113 := ⟨by decide +kernel, rfl⟩
theorem d_M_mark_113 : cd_D_goto b_M_mark 113 117 := ⟨4, by decide +kernel, by decide⟩
theorem d_M_mark_116 : cd_D_iload b_M_mark 116 3 117 := Or.inr ⟨3, ⟨by decide +kernel, rfl⟩, rfl⟩
theorem d_M_mark_117 : cd_D 1 b_M_mark 117 .iastore 118 := ⟨by decide +kernel, rfl⟩
theorem d_M_mark_118 : cd_Dk b_M_mark 118 (nI 1) 119 := Or.inl ⟨1, ⟨by decide +kernel, rfl⟩, by decide +kernel⟩
theorem d_M_mark_119 : cd_D 1 b_M_mark 119 .ireturn 120 := ⟨by decide +kernel, rfl⟩
theorem c_M_mark {l : Launch} {w : cd_WT} {S : cd_Sp} {I : cd_Mem} {m : Nat} (hM : cd_MO w S m) (hVS : cd_VS (I (m + 13)) (I (m + 14))) (s p v : Int32) : cd_C l w m_M_mark 2 0 0 [.ref m, .int s, .int p, .int v] S I (cd_Fi S (sp_mark I m s p v).1 (sp_mark I m s p v).2) := by
  refine cd_intro (by decide) (by simp [Value.category]) (Nat.le_of_ble_eq_true rfl) ?_
  intro X hO hE
  show cd_J w X 0 0 S I 0 [some (.ref m), some (.int s), some (.int p), some (.int v)] []
  have rest : ∀ (z p' : Nat) (hz : z < 4) (hp4 : p' < 24) (hp : sp_mark I m s p v = cd_mst I m z p' v), cd_J w X 0 0 S I 92 [some (.ref m), some (.int (nI z)), some (.int (nI p')), some (.int v)] [] := by
    intro z p' hz hp4 hp
    refine r_aload hO d_M_mark_92 rfl ?_
    refine r_getR hO f_M_54 rfl hM.2.1 (mo_r15 hM) d_M_mark_93 ?_
    refine r_k hO d_M_mark_96 ?_
    refine r_iload hO d_M_mark_98 rfl ?_
    refine r_imulN hO d_M_mark_99 ?_
    refine r_iload hO d_M_mark_100 rfl ?_
    refine r_iaddN hO d_M_mark_101 ?_
    refine r_aload hO d_M_mark_102 rfl ?_
    refine r_getR hO f_M_48 rfl hM.2.1 (mo_r13 hM) d_M_mark_103 ?_
    refine r_iload hO d_M_mark_106 rfl ?_
    refine r_iald hO (mo_s13 hM) (by omega) (by decide) d_M_mark_107 ?_
    refine r_if_ne hO d_M_mark_108 (fun c_108 => ?_) (fun c_108 => ?_)
    · refine r_iload hO d_M_mark_116 rfl ?_
      refine r_iast hO (mo_s15 hM) (mo_l15 hM) (by omega) (by decide) d_M_mark_117 ?_
      refine r_k hO d_M_mark_118 ?_
      refine r_iret hO hE (Nat.zero_le _) (Nat.zero_le _) d_M_mark_119 ?_
      exact ⟨by rw [hp]; rfl, rfl, by rw [hp]; unfold cd_mst; rw [if_neg c_108]⟩
    · refine r_iload hO d_M_mark_111 rfl ?_
      refine r_i2s hO d_M_mark_112 ?_
      refine r_goto hO d_M_mark_113 ?_
      refine r_iast hO (mo_s15 hM) (mo_l15 hM) (by omega) (by decide) d_M_mark_117 ?_
      refine r_k hO d_M_mark_118 ?_
      refine r_iret hO hE (Nat.zero_le _) (Nat.zero_le _) d_M_mark_119 ?_
      exact ⟨by rw [hp]; rfl, rfl, by rw [hp]; unfold cd_mst; rw [if_pos c_108]⟩
  refine r_iload hO d_M_mark_0 rfl ?_
  refine r_cS1fi hO hE (c_M_isSheet _) mf_M_isSheet lk_M_183 (by decide) rfl (Nat.le_of_ble_eq_true rfl) d_M_mark_1 (Nat.zero_le _) (Nat.zero_le _) ?_
  refine r_if_neB hO d_M_mark_4 (fun c_4 => ?_) (fun c_4 => ?_)
  · obtain ⟨z, hz1, hz2, rfl⟩ := cd_in_ex c_4 (by decide) (by decide)
    obtain ⟨y, hy, hyz, hso⟩ := hVS z (by omega)
    refine r_aload hO d_M_mark_10 rfl ?_
    refine r_getR hO f_M_48 rfl hM.2.1 (mo_r13 hM) d_M_mark_11 ?_
    refine r_iload hO d_M_mark_14 rfl ?_
    refine r_iald hO (mo_s13 hM) (by omega) (by decide) d_M_mark_15 ?_
    refine r_if_ge hO d_M_mark_16 (fun c_16 => ?_) (fun c_16 => ?_)
    · refine r_iload hO d_M_mark_22 rfl ?_
      refine r_k hO d_M_mark_23 ?_
      refine r_aload hO d_M_mark_24 rfl ?_
      refine r_getR hO f_M_51 rfl hM.2.1 (mo_r14 hM) d_M_mark_25 ?_
      refine r_iload hO d_M_mark_28 rfl ?_
      refine r_iald hO (mo_s14 hM) (by omega) (by decide) d_M_mark_29 ?_
      refine r_k hO d_M_mark_30 ?_
      refine r_isub hO d_M_mark_31 ?_
      refine r_cS3fi hO hE (c_M_in _ _ _) mf_M_in lk_M_75 (by decide) rfl (Nat.le_of_ble_eq_true rfl) d_M_mark_32 (Nat.zero_le _) (Nat.zero_le _) ?_
      refine r_if_neB hO d_M_mark_35 (fun c_35 => ?_) (fun c_35 => ?_)
      · obtain ⟨p9, hp9, rfl⟩ := cd_isP_ex hyz hy c_35
        refine r_aload hO d_M_mark_42 rfl ?_
        refine r_getR hO f_M_48 rfl hM.2.1 (mo_r13 hM) d_M_mark_43 ?_
        refine r_iload hO d_M_mark_46 rfl ?_
        refine r_iald hO (mo_s13 hM) (by omega) (by decide) d_M_mark_47 ?_
        refine r_if_ne hO d_M_mark_48 (fun c_48 => ?_) (fun c_48 => ?_)
        · refine r_aload hO d_M_mark_60 rfl ?_
          refine r_getR hO f_M_48 rfl hM.2.1 (mo_r13 hM) d_M_mark_61 ?_
          refine r_iload hO d_M_mark_64 rfl ?_
          refine r_iald hO (mo_s13 hM) (by omega) (by decide) d_M_mark_65 ?_
          refine r_k hO d_M_mark_66 ?_
          refine r_icmp_ne hO d_M_mark_67 (fun c_67 => ?_) (fun c_67 => ?_)
          · exact rest z p9 (by omega) (by omega) (by unfold sp_mark; rw [if_pos c_4, cd_tn_nI (by omega), if_pos c_16, if_pos c_35, cd_tn_nI (by omega), if_neg c_48]; unfold cd_m60; rw [if_neg c_67])
          · refine r_iload hO d_M_mark_70 rfl ?_
            refine r_ldc hO k_M_176 d_M_mark_71 ?_
            refine r_icmp_eq hO d_M_mark_73 (fun c_73 => ?_) (fun c_73 => ?_)
            · exact rest z p9 (by omega) (by omega) (by unfold sp_mark; rw [if_pos c_4, cd_tn_nI (by omega), if_pos c_16, if_pos c_35, cd_tn_nI (by omega), if_neg c_48]; unfold cd_m60; rw [if_pos c_67, if_pos c_73])
            · refine r_iload hO d_M_mark_76 rfl ?_
              refine r_ldcw hO k_M_261 d_M_mark_77 ?_
              refine r_ldcw hO k_M_262 d_M_mark_80 ?_
              refine r_cS3fi hO hE (c_M_in _ _ _) mf_M_in lk_M_75 (by decide) rfl (Nat.le_of_ble_eq_true rfl) d_M_mark_83 (Nat.zero_le _) (Nat.zero_le _) ?_
              refine r_if_neB hO d_M_mark_86 (fun c_86 => ?_) (fun c_86 => ?_)
              · exact rest z p9 (by omega) (by omega) (by unfold sp_mark; rw [if_pos c_4, cd_tn_nI (by omega), if_pos c_16, if_pos c_35, cd_tn_nI (by omega), if_neg c_48]; unfold cd_m60; rw [if_pos c_67, if_neg c_73, if_pos c_86])
              · refine r_ldc hO k_M_87 d_M_mark_89 ?_
                refine r_iret hO hE (Nat.zero_le _) (Nat.zero_le _) d_M_mark_91 ?_
                exact cd_clm (by unfold sp_mark; rw [if_pos c_4, cd_tn_nI (by omega), if_pos c_16, if_pos c_35, cd_tn_nI (by omega), if_neg c_48]; unfold cd_m60; rw [if_pos c_67, if_neg c_73, if_neg c_86])
        · refine r_iload hO d_M_mark_51 rfl ?_
          refine r_ldc hO k_M_176 d_M_mark_52 ?_
          refine r_icmp_ne hO d_M_mark_54 (fun c_54 => ?_) (fun c_54 => ?_)
          · refine r_aload hO d_M_mark_60 rfl ?_
            refine r_getR hO f_M_48 rfl hM.2.1 (mo_r13 hM) d_M_mark_61 ?_
            refine r_iload hO d_M_mark_64 rfl ?_
            refine r_iald hO (mo_s13 hM) (by omega) (by decide) d_M_mark_65 ?_
            refine r_k hO d_M_mark_66 ?_
            refine r_icmp_ne hO d_M_mark_67 (fun c_67 => ?_) (fun c_67 => ?_)
            · exact rest z p9 (by omega) (by omega) (by unfold sp_mark; rw [if_pos c_4, cd_tn_nI (by omega), if_pos c_16, if_pos c_35, cd_tn_nI (by omega), if_pos c_48, if_neg c_54]; unfold cd_m60; rw [if_neg c_67])
            · refine r_iload hO d_M_mark_70 rfl ?_
              refine r_ldc hO k_M_176 d_M_mark_71 ?_
              refine r_icmp_eq hO d_M_mark_73 (fun c_73 => ?_) (fun c_73 => ?_)
              · exact rest z p9 (by omega) (by omega) (by unfold sp_mark; rw [if_pos c_4, cd_tn_nI (by omega), if_pos c_16, if_pos c_35, cd_tn_nI (by omega), if_pos c_48, if_neg c_54]; unfold cd_m60; rw [if_pos c_67, if_pos c_73])
              · refine r_iload hO d_M_mark_76 rfl ?_
                refine r_ldcw hO k_M_261 d_M_mark_77 ?_
                refine r_ldcw hO k_M_262 d_M_mark_80 ?_
                refine r_cS3fi hO hE (c_M_in _ _ _) mf_M_in lk_M_75 (by decide) rfl (Nat.le_of_ble_eq_true rfl) d_M_mark_83 (Nat.zero_le _) (Nat.zero_le _) ?_
                refine r_if_neB hO d_M_mark_86 (fun c_86 => ?_) (fun c_86 => ?_)
                · exact rest z p9 (by omega) (by omega) (by unfold sp_mark; rw [if_pos c_4, cd_tn_nI (by omega), if_pos c_16, if_pos c_35, cd_tn_nI (by omega), if_pos c_48, if_neg c_54]; unfold cd_m60; rw [if_pos c_67, if_neg c_73, if_pos c_86])
                · refine r_ldc hO k_M_87 d_M_mark_89 ?_
                  refine r_iret hO hE (Nat.zero_le _) (Nat.zero_le _) d_M_mark_91 ?_
                  exact cd_clm (by unfold sp_mark; rw [if_pos c_4, cd_tn_nI (by omega), if_pos c_16, if_pos c_35, cd_tn_nI (by omega), if_pos c_48, if_neg c_54]; unfold cd_m60; rw [if_pos c_67, if_neg c_73, if_neg c_86])
          · refine r_ldc hO k_M_133 d_M_mark_57 ?_
            refine r_iret hO hE (Nat.zero_le _) (Nat.zero_le _) d_M_mark_59 ?_
            exact cd_clm (by unfold sp_mark; rw [if_pos c_4, cd_tn_nI (by omega), if_pos c_16, if_pos c_35, cd_tn_nI (by omega), if_pos c_48, if_pos c_54])
      · refine r_ldcw hO k_M_260 d_M_mark_38 ?_
        refine r_iret hO hE (Nat.zero_le _) (Nat.zero_le _) d_M_mark_41 ?_
        exact cd_clm (by unfold sp_mark; rw [if_pos c_4, cd_tn_nI (by omega), if_pos c_16, if_neg c_35])
    · refine r_ldc hO k_M_186 d_M_mark_19 ?_
      refine r_iret hO hE (Nat.zero_le _) (Nat.zero_le _) d_M_mark_21 ?_
      exact cd_clm (by unfold sp_mark; rw [if_pos c_4, cd_tn_nI (by omega), if_neg c_16])
  · refine r_ldc hO k_M_87 d_M_mark_7 ?_
    refine r_iret hO hE (Nat.zero_le _) (Nat.zero_le _) d_M_mark_9 ?_
    exact cd_clm (by unfold sp_mark; rw [if_neg c_4])
theorem d_M_pour_0 : cd_D_iload b_M_pour 0 1 1 := Or.inr ⟨1, ⟨by decide +kernel, rfl⟩, rfl⟩
theorem d_M_pour_1 : cd_D 3 b_M_pour 1 (.invokestatic 183) 4 := ⟨by decide +kernel, rfl⟩
theorem d_M_pour_4 : cd_D_if_ne b_M_pour 4 10 7 := ⟨6, by decide +kernel, by decide, rfl⟩
theorem d_M_pour_7 : cd_D 2 b_M_pour 7 (.ldc 87) 9 := ⟨by decide +kernel, rfl⟩
theorem d_M_pour_9 : cd_D 1 b_M_pour 9 .ireturn 10 := ⟨by decide +kernel, rfl⟩
theorem d_M_pour_10 : cd_D_aload b_M_pour 10 0 11 := Or.inr ⟨0, ⟨by decide +kernel, rfl⟩, rfl⟩
theorem d_M_pour_11 : cd_D 3 b_M_pour 11 (.getfield 48) 14 := ⟨by decide +kernel, rfl⟩
theorem d_M_pour_14 : cd_D_iload b_M_pour 14 1 15 := Or.inr ⟨1, ⟨by decide +kernel, rfl⟩, rfl⟩
theorem d_M_pour_15 : cd_D 1 b_M_pour 15 .iaload 16 := ⟨by decide +kernel, rfl⟩
theorem d_M_pour_16 : cd_D_if_ge b_M_pour 16 22 19 := ⟨6, by decide +kernel, by decide, rfl⟩
theorem d_M_pour_19 : cd_D 2 b_M_pour 19 (.ldc 186) 21 := ⟨by decide +kernel, rfl⟩
theorem d_M_pour_21 : cd_D 1 b_M_pour 21 .ireturn 22 := ⟨by decide +kernel, rfl⟩
theorem d_M_pour_22 : cd_Dk b_M_pour 22 (nI 0) 23 := Or.inl ⟨0, ⟨by decide +kernel, rfl⟩, by decide +kernel⟩
theorem d_M_pour_23 : cd_D_istore b_M_pour 23 2 24 := Or.inr ⟨2, ⟨by decide +kernel, rfl⟩, rfl⟩
theorem d_M_pour_24 : cd_Dk b_M_pour 24 (nI 0) 25 := Or.inl ⟨0, ⟨by decide +kernel, rfl⟩, by decide +kernel⟩
theorem d_M_pour_25 : cd_D_istore b_M_pour 25 3 26 := Or.inr ⟨3, ⟨by decide +kernel, rfl⟩, rfl⟩
theorem d_M_pour_26 : cd_D_iload b_M_pour 26 3 27 := Or.inr ⟨3, ⟨by decide +kernel, rfl⟩, rfl⟩
theorem d_M_pour_27 : cd_D_aload b_M_pour 27 0 28 := Or.inr ⟨0, ⟨by decide +kernel, rfl⟩, rfl⟩
theorem d_M_pour_28 : cd_D 3 b_M_pour 28 (.getfield 51) 31 := ⟨by decide +kernel, rfl⟩
theorem d_M_pour_31 : cd_D_iload b_M_pour 31 1 32 := Or.inr ⟨1, ⟨by decide +kernel, rfl⟩, rfl⟩
theorem d_M_pour_32 : cd_D 1 b_M_pour 32 .iaload 33 := ⟨by decide +kernel, rfl⟩
theorem d_M_pour_33 : cd_D_icmp_ge b_M_pour 33 118 36 := ⟨85, by decide +kernel, by decide, rfl⟩
theorem d_M_pour_36 : cd_D_iload b_M_pour 36 3 37 := Or.inr ⟨3, ⟨by decide +kernel, rfl⟩, rfl⟩
theorem d_M_pour_37 : cd_D_aload b_M_pour 37 0 38 := Or.inr ⟨0, ⟨by decide +kernel, rfl⟩, rfl⟩
theorem d_M_pour_38 : cd_D 3 b_M_pour 38 (.getfield 9) 41 := ⟨by decide +kernel, rfl⟩
theorem d_M_pour_41 : cd_Dk b_M_pour 41 (nI 1) 42 := Or.inl ⟨1, ⟨by decide +kernel, rfl⟩, by decide +kernel⟩
theorem d_M_pour_42 : cd_D 1 b_M_pour 42 .iaload 43 := ⟨by decide +kernel, rfl⟩
theorem d_M_pour_43 : cd_D_icmp_ge b_M_pour 43 118 46 := ⟨75, by decide +kernel, by decide, rfl⟩
theorem d_M_pour_46 : cd_D_aload b_M_pour 46 0 47 := Or.inr ⟨0, ⟨by decide +kernel, rfl⟩, rfl⟩
theorem d_M_pour_47 : cd_D 3 b_M_pour 47 (.getfield 54) 50 := ⟨by decide +kernel, rfl⟩
theorem d_M_pour_50 : cd_Dk b_M_pour 50 (nI 24) 52 := Or.inr (Or.inl ⟨24, ⟨by decide +kernel, rfl⟩, by decide +kernel⟩)
theorem d_M_pour_52 : cd_D_iload b_M_pour 52 1 53 := Or.inr ⟨1, ⟨by decide +kernel, rfl⟩, rfl⟩
theorem d_M_pour_53 : cd_D 1 b_M_pour 53 .imul 54 := ⟨by decide +kernel, rfl⟩
theorem d_M_pour_54 : cd_D_iload b_M_pour 54 3 55 := Or.inr ⟨3, ⟨by decide +kernel, rfl⟩, rfl⟩
theorem d_M_pour_55 : cd_D 1 b_M_pour 55 .iadd 56 := ⟨by decide +kernel, rfl⟩
theorem d_M_pour_56 : cd_D 1 b_M_pour 56 .iaload 57 := ⟨by decide +kernel, rfl⟩
theorem d_M_pour_57 : cd_D_istore b_M_pour 57 4 59 := Or.inl ⟨by decide +kernel, rfl⟩
theorem d_M_pour_59 : cd_D_iload b_M_pour 59 4 61 := Or.inl ⟨by decide +kernel, rfl⟩
theorem d_M_pour_61 : cd_D 2 b_M_pour 61 (.ldc 176) 63 := ⟨by decide +kernel, rfl⟩
theorem d_M_pour_63 : cd_D_icmp_ne b_M_pour 63 75 66 := ⟨12, by decide +kernel, by decide, rfl⟩
theorem d_M_pour_66 : cd_D_aload b_M_pour 66 0 67 := Or.inr ⟨0, ⟨by decide +kernel, rfl⟩, rfl⟩
theorem d_M_pour_67 : cd_D_iload b_M_pour 67 3 68 := Or.inr ⟨3, ⟨by decide +kernel, rfl⟩, rfl⟩
theorem d_M_pour_68 : cd_Dk b_M_pour 68 (nI 2) 69 := Or.inl ⟨2, ⟨by decide +kernel, rfl⟩, by decide +kernel⟩
theorem d_M_pour_69 : cd_D 3 b_M_pour 69 (.invokevirtual 97) 72 := ⟨by decide +kernel, rfl⟩
theorem d_M_pour_72 : cd_D_goto b_M_pour 72 83 := ⟨11, by decide +kernel, by decide⟩
theorem d_M_pour_75 : cd_D_iload b_M_pour 75 4 77 := Or.inl ⟨by decide +kernel, rfl⟩
theorem d_M_pour_77 : cd_Dk b_M_pour 77 (nI 0) 78 := Or.inl ⟨0, ⟨by decide +kernel, rfl⟩, by decide +kernel⟩
theorem d_M_pour_78 : cd_Dk b_M_pour 78 (nI 99) 80 := Or.inr (Or.inl ⟨99, ⟨by decide +kernel, rfl⟩, by decide +kernel⟩)
theorem d_M_pour_80 : cd_D 3 b_M_pour 80 (.invokestatic 104) 83 := ⟨by decide +kernel, rfl⟩
theorem d_M_pour_83 : cd_D_istore b_M_pour 83 5 85 := Or.inl ⟨by decide +kernel, rfl⟩
theorem d_M_pour_85 : cd_D_iload b_M_pour 85 2 86 := Or.inr ⟨2, ⟨by decide +kernel, rfl⟩, rfl⟩
theorem d_M_pour_86 : cd_D_aload b_M_pour 86 0 87 := Or.inr ⟨0, ⟨by decide +kernel, rfl⟩, rfl⟩
theorem d_M_pour_87 : cd_Dk b_M_pour 87 (nI 16) 89 := Or.inr (Or.inl ⟨16, ⟨by decide +kernel, rfl⟩, by decide +kernel⟩)
theorem d_M_pour_89 : cd_Dk b_M_pour 89 (nI 5) 90 := Or.inl ⟨5, ⟨by decide +kernel, rfl⟩, by decide +kernel⟩
theorem d_M_pour_90 : cd_D_iload b_M_pour 90 3 91 := Or.inr ⟨3, ⟨by decide +kernel, rfl⟩, rfl⟩
theorem d_M_pour_91 : cd_D 1 b_M_pour 91 .imul 92 := ⟨by decide +kernel, rfl⟩
theorem d_M_pour_92 : cd_D 1 b_M_pour 92 .iadd 93 := ⟨by decide +kernel, rfl⟩
theorem d_M_pour_93 : cd_Dk b_M_pour 93 (nI 2) 94 := Or.inl ⟨2, ⟨by decide +kernel, rfl⟩, by decide +kernel⟩
theorem d_M_pour_94 : cd_D 1 b_M_pour 94 .iadd 95 := ⟨by decide +kernel, rfl⟩
theorem d_M_pour_95 : cd_D_iload b_M_pour 95 5 97 := Or.inl ⟨by decide +kernel, rfl⟩
theorem d_M_pour_97 : cd_D 3 b_M_pour 97 (.invokevirtual 134) 100 := ⟨by decide +kernel, rfl⟩
theorem d_M_pour_100 : cd_D_iload b_M_pour 100 5 102 := Or.inl ⟨by decide +kernel, rfl⟩
theorem d_M_pour_102 : cd_D_icmp_ne b_M_pour 102 109 105 := ⟨7, by decide +kernel, by decide, rfl⟩
theorem d_M_pour_105 : cd_Dk b_M_pour 105 (nI 0) 106 := Or.inl ⟨0, ⟨by decide +kernel, rfl⟩, by decide +kernel⟩
theorem d_M_pour_106 : cd_D_goto b_M_pour 106 110 := ⟨4, by decide +kernel, by decide⟩
theorem d_M_pour_109 : cd_Dk b_M_pour 109 (nI 1) 110 := Or.inl ⟨1, ⟨by decide +kernel, rfl⟩, by decide +kernel⟩
theorem d_M_pour_110 : cd_D 1 b_M_pour 110 .iadd 111 := ⟨by decide +kernel, rfl⟩
theorem d_M_pour_111 : cd_D_istore b_M_pour 111 2 112 := Or.inr ⟨2, ⟨by decide +kernel, rfl⟩, rfl⟩
theorem d_M_pour_112 : cd_D 3 b_M_pour 112 (.iinc 3 (1)) 115 := ⟨by decide +kernel, rfl⟩
theorem d_M_pour_115 : cd_D_goto b_M_pour 115 26 := ⟨-89, by decide +kernel, by decide⟩
theorem d_M_pour_118 : cd_D_iload b_M_pour 118 2 119 := Or.inr ⟨2, ⟨by decide +kernel, rfl⟩, rfl⟩
theorem d_M_pour_119 : cd_D 1 b_M_pour 119 .ireturn 120 := ⟨by decide +kernel, rfl⟩
theorem c_M_pour {l : Launch} {w : cd_WT} {S : cd_Sp} {I : cd_Mem} {m : Nat} (hM : cd_MO w S m) (mm tc : Nat) (hV : cd_V (I (m + 1)) mm tc) (hVS : cd_VS (I (m + 13)) (I (m + 14))) (s : Int32) : cd_C l w m_M_pour 2 0 0 [.ref m, .int s] S I (cd_Fi S (sp_pour (I (m + 1)) (I (m + 13)) (I (m + 14)) (I (m + 15)) mm s).1 (cd_set I (m + 1) (sp_pour (I (m + 1)) (I (m + 13)) (I (m + 14)) (I (m + 15)) mm s).2)) := by
  refine cd_intro (by decide) (by simp [Value.category]) (Nat.le_of_ble_eq_true rfl) ?_
  intro X hO hE
  show cd_J w X 0 0 S I 0 [some (.ref m), some (.int s), none, none, none, none] []
  have hmm := hV.2.1
  have loop : ∀ (z y : Nat) (hz : z < 4) (hy : y ≤ 24) (hyz : I (m + 14) z = nI y) (hp : sp_pour (I (m + 1)) (I (m + 13)) (I (m + 14)) (I (m + 15)) mm s = cd_po (I (m + 1)) (I (m + 15)) z (min y mm)) (r k : Nat) (N2 : Nat → Int32) (x2 : Int32) (x4 x5 : Option Value), cd_nl x4 = true → cd_po (I (m + 1)) (I (m + 15)) z k = (x2, N2) → N2 1 = nI mm → k + r = min y mm → cd_J w X 0 0 S (cd_set I (m + 1) N2) 26 [some (.ref m), some (.int (nI z)), some (.int x2), some (.int (nI k)), x4, x5] [] := by
    intro z y hz hy hyz hp r
    induction r with
    | zero =>
      intro k N2 x2 x4 x5 hx4 hpo hN2 hk
      have hkm : k = min y mm := by omega
      refine r_iload hO d_M_pour_26 rfl ?_
      refine r_aload hO d_M_pour_27 rfl ?_
      refine r_getR hO f_M_51 rfl hM.2.1 (mo_r14 hM) d_M_pour_28 ?_
      try simp (disch := omega) only [cd_set_eq, cd_set_ne, cd_set_set]
      refine r_iload hO d_M_pour_31 rfl ?_
      refine r_iald hO (mo_s14 hM) (by omega) (by decide) d_M_pour_32 ?_
      try simp (disch := omega) only [cd_set_eq, cd_set_ne, cd_set_set]
      refine r_tops hyz ?_
      refine r_icmp_ge hO d_M_pour_33 (fun c_33 => ?_) (fun c_33 => ?_)
      · refine r_iload hO d_M_pour_118 rfl ?_
        refine r_iret hO hE (Nat.zero_le _) (Nat.zero_le _) d_M_pour_119 ?_
        exact ⟨by rw [hp, ← hkm, hpo], rfl, by rw [hp, ← hkm, hpo]⟩
      · have hky : k < y := Nat.lt_of_not_le (fun q => c_33 (nI_le q (by omega)))
        refine r_iload hO d_M_pour_36 rfl ?_
        refine r_aload hO d_M_pour_37 rfl ?_
        refine r_getR hO f_M_9 rfl hM.2.1 (mo_r1 hM) d_M_pour_38 ?_
        try simp (disch := omega) only [cd_set_eq, cd_set_ne, cd_set_set]
        refine r_k hO d_M_pour_41 ?_
        refine r_iald hO (mo_s1 hM) (by omega) (by decide) d_M_pour_42 ?_
        try simp (disch := omega) only [cd_set_eq, cd_set_ne, cd_set_set]
        refine r_tops hN2 ?_
        refine r_icmp_ge hO d_M_pour_43 (fun c_43 => ?_) (fun c_43 => ?_)
        · refine r_iload hO d_M_pour_118 rfl ?_
          refine r_iret hO hE (Nat.zero_le _) (Nat.zero_le _) d_M_pour_119 ?_
          exact ⟨by rw [hp, ← hkm, hpo], rfl, by rw [hp, ← hkm, hpo]⟩
        · exact absurd (nI_le (show mm ≤ k by omega) (by omega)) c_43
    | succ r ih =>
      intro k N2 x2 x4 x5 hx4 hpo hN2 hk
      refine r_iload hO d_M_pour_26 rfl ?_
      refine r_aload hO d_M_pour_27 rfl ?_
      refine r_getR hO f_M_51 rfl hM.2.1 (mo_r14 hM) d_M_pour_28 ?_
      try simp (disch := omega) only [cd_set_eq, cd_set_ne, cd_set_set]
      refine r_iload hO d_M_pour_31 rfl ?_
      refine r_iald hO (mo_s14 hM) (by omega) (by decide) d_M_pour_32 ?_
      try simp (disch := omega) only [cd_set_eq, cd_set_ne, cd_set_set]
      refine r_tops hyz ?_
      refine r_icmp_ge hO d_M_pour_33 (fun c_33 => ?_) (fun c_33 => ?_)
      · exact absurd c_33 (nI_ge (by omega) (by omega))
      · refine r_iload hO d_M_pour_36 rfl ?_
        refine r_aload hO d_M_pour_37 rfl ?_
        refine r_getR hO f_M_9 rfl hM.2.1 (mo_r1 hM) d_M_pour_38 ?_
        try simp (disch := omega) only [cd_set_eq, cd_set_ne, cd_set_set]
        refine r_k hO d_M_pour_41 ?_
        refine r_iald hO (mo_s1 hM) (by omega) (by decide) d_M_pour_42 ?_
        try simp (disch := omega) only [cd_set_eq, cd_set_ne, cd_set_set]
        refine r_tops hN2 ?_
        refine r_icmp_ge hO d_M_pour_43 (fun c_43 => ?_) (fun c_43 => ?_)
        · exact absurd c_43 (nI_ge (by omega) (by omega))
        · refine r_aload hO d_M_pour_46 rfl ?_
          refine r_getR hO f_M_54 rfl hM.2.1 (mo_r15 hM) d_M_pour_47 ?_
          try simp (disch := omega) only [cd_set_eq, cd_set_ne, cd_set_set]
          refine r_k hO d_M_pour_50 ?_
          refine r_iload hO d_M_pour_52 rfl ?_
          refine r_imulN hO d_M_pour_53 ?_
          refine r_iload hO d_M_pour_54 rfl ?_
          refine r_iaddN hO d_M_pour_55 ?_
          refine r_iald hO (mo_s15 hM) (by omega) (by decide) d_M_pour_56 ?_
          try simp (disch := omega) only [cd_set_eq, cd_set_ne, cd_set_set]
          refine r_sI4 hO d_M_pour_57 rfl ?_
          refine r_iload hO d_M_pour_59 rfl ?_
          refine r_ldc hO k_M_176 d_M_pour_61 ?_
          refine r_jn2 (pcJ := 83) (fun v => v = if I (m + 15) (24 * z + k) = cd_NONE then N2 (16 + 5 * k + 2) else cd_wi (I (m + 15) (24 * z + k)) (nI 0) (nI 99)) (fun v_63 hv_63 => ?_) (fun hj_63 => ?_)
          · refine r_sI5 hO d_M_pour_83 rfl ?_
            refine r_iload hO d_M_pour_85 rfl ?_
            refine r_aload hO d_M_pour_86 rfl ?_
            refine r_k hO d_M_pour_87 ?_
            refine r_k hO d_M_pour_89 ?_
            refine r_iload hO d_M_pour_90 rfl ?_
            refine r_imulN hO d_M_pour_91 ?_
            refine r_iaddN hO d_M_pour_92 ?_
            refine r_k hO d_M_pour_93 ?_
            refine r_iaddN hO d_M_pour_94 ?_
            refine r_iload hO d_M_pour_95 rfl ?_
            refine r_cV2fi hO hE (c_M_becomes hM _ _ (by omega)) mf_M_becomes lk_M_134 hM.2.1 rfl (by decide) rfl (Nat.le_of_ble_eq_true rfl) d_M_pour_97 (Nat.zero_le _) (Nat.zero_le _) ?_
            try simp (disch := omega) only [cd_set_eq, cd_set_ne, cd_set_set]
            refine r_iload hO d_M_pour_100 rfl ?_
            refine r_icmp_ne hO d_M_pour_102 (fun c_102 => ?_) (fun c_102 => ?_)
            · refine r_k hO d_M_pour_109 ?_
              refine r_iadd hO d_M_pour_110 ?_
              refine r_sI2 hO d_M_pour_111 rfl ?_
              refine r_incN3 hO d_M_pour_112 rfl ?_
              refine r_goto hO d_M_pour_115 ?_
              refine ih (k + 1) _ _ _ _ rfl ?_ ?_ (by omega)
              · show (_, _) = _
                rw [hpo]
                dsimp only
                rw [← hv_63, if_neg c_102]
              · simp only [upd]
                rw [if_neg (by omega)]
                exact hN2
            · refine r_k hO d_M_pour_105 ?_
              refine r_goto hO d_M_pour_106 ?_
              refine r_iadd hO d_M_pour_110 ?_
              refine r_sI2 hO d_M_pour_111 rfl ?_
              refine r_incN3 hO d_M_pour_112 rfl ?_
              refine r_goto hO d_M_pour_115 ?_
              refine ih (k + 1) _ _ _ _ rfl ?_ ?_ (by omega)
              · show (_, _) = _
                rw [hpo]
                dsimp only
                rw [← hv_63, if_pos c_102]
              · simp only [upd]
                rw [if_neg (by omega)]
                exact hN2
          · refine r_icmp_ne hO d_M_pour_63 (fun c_63 => ?_) (fun c_63 => ?_)
            · refine r_iload hO d_M_pour_75 rfl ?_
              refine r_k hO d_M_pour_77 ?_
              refine r_k hO d_M_pour_78 ?_
              refine r_cS3fi hO hE (c_M_within _ _ _) mf_M_within lk_M_104 (by decide) rfl (Nat.le_of_ble_eq_true rfl) d_M_pour_80 (Nat.zero_le _) (Nat.zero_le _) ?_
              try simp (disch := omega) only [cd_set_eq, cd_set_ne, cd_set_set]
              exact hj_63 _ (by rw [if_neg c_63])
            · refine r_aload hO d_M_pour_66 rfl ?_
              refine r_iload hO d_M_pour_67 rfl ?_
              refine r_k hO d_M_pour_68 ?_
              refine r_cV2fi hO hE (c_M_of hM _ _ (by omega)) mf_M_of lk_M_97 hM.2.1 rfl (by decide) rfl (Nat.le_of_ble_eq_true rfl) d_M_pour_69 (Nat.zero_le _) (Nat.zero_le _) ?_
              try simp (disch := omega) only [cd_set_eq, cd_set_ne, cd_set_set]
              refine r_goto hO d_M_pour_72 ?_
              exact hj_63 _ (by rw [if_pos c_63])
  refine r_iload hO d_M_pour_0 rfl ?_
  refine r_cS1fi hO hE (c_M_isSheet _) mf_M_isSheet lk_M_183 (by decide) rfl (Nat.le_of_ble_eq_true rfl) d_M_pour_1 (Nat.zero_le _) (Nat.zero_le _) ?_
  refine r_if_neB hO d_M_pour_4 (fun c_4 => ?_) (fun c_4 => ?_)
  · obtain ⟨z, hz1, hz2, rfl⟩ := cd_in_ex c_4 (by decide) (by decide)
    obtain ⟨y, hy, hyz, hso⟩ := hVS z (by omega)
    refine r_aload hO d_M_pour_10 rfl ?_
    refine r_getR hO f_M_48 rfl hM.2.1 (mo_r13 hM) d_M_pour_11 ?_
    refine r_iload hO d_M_pour_14 rfl ?_
    refine r_iald hO (mo_s13 hM) (by omega) (by decide) d_M_pour_15 ?_
    refine r_if_ge hO d_M_pour_16 (fun c_16 => ?_) (fun c_16 => ?_)
    · refine r_k hO d_M_pour_22 ?_
      refine r_sI2 hO d_M_pour_23 rfl ?_
      refine r_k hO d_M_pour_24 ?_
      refine r_sI3 hO d_M_pour_25 rfl ?_
      refine r_mem (show I = cd_set I (m + 1) (I (m + 1)) from (cd_set_self _ _).symm) ?_
      exact loop z y (by omega) hy hyz (by unfold sp_pour; rw [if_pos c_4, cd_tn_nI (by omega), if_pos c_16, hyz, cd_tn_nI (by omega)]) _ 0 _ _ _ _ rfl rfl hV.1 (Nat.zero_add _)
    · refine r_ldc hO k_M_186 d_M_pour_19 ?_
      refine r_iret hO hE (Nat.zero_le _) (Nat.zero_le _) d_M_pour_21 ?_
      exact cd_cl0 (by unfold sp_pour; rw [if_pos c_4, cd_tn_nI (by omega), if_neg c_16])
  · refine r_ldc hO k_M_87 d_M_pour_7 ?_
    refine r_iret hO hE (Nat.zero_le _) (Nat.zero_le _) d_M_pour_9 ?_
    exact cd_cl0 (by unfold sp_pour; rw [if_neg c_4])
theorem d_M_reads_0 : cd_D_iload b_M_reads 0 1 1 := Or.inr ⟨1, ⟨by decide +kernel, rfl⟩, rfl⟩
theorem d_M_reads_1 : cd_D 3 b_M_reads 1 (.invokestatic 183) 4 := ⟨by decide +kernel, rfl⟩
theorem d_M_reads_4 : cd_D_if_ne b_M_reads 4 10 7 := ⟨6, by decide +kernel, by decide, rfl⟩
theorem d_M_reads_7 : cd_D 2 b_M_reads 7 (.ldc 87) 9 := ⟨by decide +kernel, rfl⟩
theorem d_M_reads_9 : cd_D 1 b_M_reads 9 .ireturn 10 := ⟨by decide +kernel, rfl⟩
theorem d_M_reads_10 : cd_D_aload b_M_reads 10 0 11 := Or.inr ⟨0, ⟨by decide +kernel, rfl⟩, rfl⟩
theorem d_M_reads_11 : cd_D 3 b_M_reads 11 (.getfield 48) 14 := ⟨by decide +kernel, rfl⟩
theorem d_M_reads_14 : cd_D_iload b_M_reads 14 1 15 := Or.inr ⟨1, ⟨by decide +kernel, rfl⟩, rfl⟩
theorem d_M_reads_15 : cd_D 1 b_M_reads 15 .iaload 16 := ⟨by decide +kernel, rfl⟩
theorem d_M_reads_16 : cd_D_if_ge b_M_reads 16 22 19 := ⟨6, by decide +kernel, by decide, rfl⟩
theorem d_M_reads_19 : cd_D 2 b_M_reads 19 (.ldc 186) 21 := ⟨by decide +kernel, rfl⟩
theorem d_M_reads_21 : cd_D 1 b_M_reads 21 .ireturn 22 := ⟨by decide +kernel, rfl⟩
theorem d_M_reads_22 : cd_Dk b_M_reads 22 (nI 0) 23 := Or.inl ⟨0, ⟨by decide +kernel, rfl⟩, by decide +kernel⟩
theorem d_M_reads_23 : cd_D_istore b_M_reads 23 2 24 := Or.inr ⟨2, ⟨by decide +kernel, rfl⟩, rfl⟩
theorem d_M_reads_24 : cd_D_iload b_M_reads 24 2 25 := Or.inr ⟨2, ⟨by decide +kernel, rfl⟩, rfl⟩
theorem d_M_reads_25 : cd_D_aload b_M_reads 25 0 26 := Or.inr ⟨0, ⟨by decide +kernel, rfl⟩, rfl⟩
theorem d_M_reads_26 : cd_D 3 b_M_reads 26 (.getfield 51) 29 := ⟨by decide +kernel, rfl⟩
theorem d_M_reads_29 : cd_D_iload b_M_reads 29 1 30 := Or.inr ⟨1, ⟨by decide +kernel, rfl⟩, rfl⟩
theorem d_M_reads_30 : cd_D 1 b_M_reads 30 .iaload 31 := ⟨by decide +kernel, rfl⟩
theorem d_M_reads_31 : cd_D_icmp_ge b_M_reads 31 78 34 := ⟨47, by decide +kernel, by decide, rfl⟩
theorem d_M_reads_34 : cd_D_aload b_M_reads 34 0 35 := Or.inr ⟨0, ⟨by decide +kernel, rfl⟩, rfl⟩
theorem d_M_reads_35 : cd_D 3 b_M_reads 35 (.getfield 54) 38 := ⟨by decide +kernel, rfl⟩
theorem d_M_reads_38 : cd_Dk b_M_reads 38 (nI 24) 40 := Or.inr (Or.inl ⟨24, ⟨by decide +kernel, rfl⟩, by decide +kernel⟩)
theorem d_M_reads_40 : cd_D_iload b_M_reads 40 1 41 := Or.inr ⟨1, ⟨by decide +kernel, rfl⟩, rfl⟩
theorem d_M_reads_41 : cd_D 1 b_M_reads 41 .imul 42 := ⟨by decide +kernel, rfl⟩
theorem d_M_reads_42 : cd_D_iload b_M_reads 42 2 43 := Or.inr ⟨2, ⟨by decide +kernel, rfl⟩, rfl⟩
theorem d_M_reads_43 : cd_D 1 b_M_reads 43 .iadd 44 := ⟨by decide +kernel, rfl⟩
theorem d_M_reads_44 : cd_D 1 b_M_reads 44 .iaload 45 := ⟨by decide +kernel, rfl⟩
theorem d_M_reads_45 : cd_D_istore b_M_reads 45 3 46 := Or.inr ⟨3, ⟨by decide +kernel, rfl⟩, rfl⟩
theorem d_M_reads_46 : cd_D_iload b_M_reads 46 3 47 := Or.inr ⟨3, ⟨by decide +kernel, rfl⟩, rfl⟩
theorem d_M_reads_47 : cd_D 2 b_M_reads 47 (.ldc 176) 49 := ⟨by decide +kernel, rfl⟩
theorem d_M_reads_49 : cd_D_icmp_eq b_M_reads 49 72 52 := ⟨23, by decide +kernel, by decide, rfl⟩
theorem d_M_reads_52 : cd_D_aload b_M_reads 52 0 53 := Or.inr ⟨0, ⟨by decide +kernel, rfl⟩, rfl⟩
theorem d_M_reads_53 : cd_D_iload b_M_reads 53 2 54 := Or.inr ⟨2, ⟨by decide +kernel, rfl⟩, rfl⟩
theorem d_M_reads_54 : cd_D 3 b_M_reads 54 (.invokevirtual 108) 57 := ⟨by decide +kernel, rfl⟩
theorem d_M_reads_57 : cd_D_if_eq b_M_reads 57 70 60 := ⟨13, by decide +kernel, by decide, rfl⟩
theorem d_M_reads_60 : cd_D_iload b_M_reads 60 3 61 := Or.inr ⟨3, ⟨by decide +kernel, rfl⟩, rfl⟩
theorem d_M_reads_61 : cd_D_aload b_M_reads 61 0 62 := Or.inr ⟨0, ⟨by decide +kernel, rfl⟩, rfl⟩
theorem d_M_reads_62 : cd_D_iload b_M_reads 62 2 63 := Or.inr ⟨2, ⟨by decide +kernel, rfl⟩, rfl⟩
theorem d_M_reads_63 : cd_Dk b_M_reads 63 (nI 1) 64 := Or.inl ⟨1, ⟨by decide +kernel, rfl⟩, by decide +kernel⟩
theorem d_M_reads_64 : cd_D 3 b_M_reads 64 (.invokevirtual 97) 67 := ⟨by decide +kernel, rfl⟩
theorem d_M_reads_67 : cd_D_icmp_eq b_M_reads 67 72 70 := ⟨5, by decide +kernel, by decide, rfl⟩
theorem d_M_reads_70 : cd_D_iload b_M_reads 70 2 71 := Or.inr ⟨2, ⟨by decide +kernel, rfl⟩, rfl⟩
theorem d_M_reads_71 : cd_D 1 b_M_reads 71 .ireturn 72 := ⟨by decide +kernel, rfl⟩
theorem d_M_reads_72 : cd_D 3 b_M_reads 72 (.iinc 2 (1)) 75 := ⟨by decide +kernel, rfl⟩
theorem d_M_reads_75 : cd_D_goto b_M_reads 75 24 := ⟨-51, by decide +kernel, by decide⟩
theorem d_M_reads_78 : cd_D 2 b_M_reads 78 (.ldc 176) 80 := ⟨by decide +kernel, rfl⟩
theorem d_M_reads_80 : cd_D 1 b_M_reads 80 .ireturn 81 := ⟨by decide +kernel, rfl⟩
theorem c_M_reads {l : Launch} {w : cd_WT} {S : cd_Sp} {I : cd_Mem} {m : Nat} (hM : cd_MO w S m) (mm tc : Nat) (hV : cd_V (I (m + 1)) mm tc) (hVS : cd_VS (I (m + 13)) (I (m + 14))) (s : Int32) : cd_C l w m_M_reads 2 0 0 [.ref m, .int s] S I (cd_Fi S (sp_reads (I (m + 1)) (I (m + 13)) (I (m + 14)) (I (m + 15)) s) I) := by
  refine cd_intro (by decide) (by simp [Value.category]) (Nat.le_of_ble_eq_true rfl) ?_
  intro X hO hE
  show cd_J w X 0 0 S I 0 [some (.ref m), some (.int s), none, none] []
  have hmm := hV.2.1
  have loop : ∀ (z y : Nat) (hz : z < 4) (hy : y ≤ 24) (hyz : I (m + 14) z = nI y) (r k : Nat) (x3 : Option Value), cd_rd (I (m + 1)) (I (m + 15)) z r k = sp_reads (I (m + 1)) (I (m + 13)) (I (m + 14)) (I (m + 15)) s → k + r = y → cd_J w X 0 0 S I 24 [some (.ref m), some (.int (nI z)), some (.int (nI k)), x3] [] := by
    intro z y hz hy hyz r
    induction r with
    | zero =>
      intro k x3 hp hk
      refine r_iload hO d_M_reads_24 rfl ?_
      refine r_aload hO d_M_reads_25 rfl ?_
      refine r_getR hO f_M_51 rfl hM.2.1 (mo_r14 hM) d_M_reads_26 ?_
      refine r_iload hO d_M_reads_29 rfl ?_
      refine r_iald hO (mo_s14 hM) (by omega) (by decide) d_M_reads_30 ?_
      refine r_tops hyz ?_
      refine r_icmp_ge hO d_M_reads_31 (fun c_31 => ?_) (fun c_31 => ?_)
      · refine r_ldc hO k_M_176 d_M_reads_78 ?_
        refine r_iret hO hE (Nat.zero_le _) (Nat.zero_le _) d_M_reads_80 ?_
        exact ⟨by rw [← hp]; rfl, rfl, rfl⟩
      · exact absurd (nI_le (show y ≤ k by omega) (by omega)) c_31
    | succ r ih =>
      intro k x3 hp hk
      refine r_iload hO d_M_reads_24 rfl ?_
      refine r_aload hO d_M_reads_25 rfl ?_
      refine r_getR hO f_M_51 rfl hM.2.1 (mo_r14 hM) d_M_reads_26 ?_
      refine r_iload hO d_M_reads_29 rfl ?_
      refine r_iald hO (mo_s14 hM) (by omega) (by decide) d_M_reads_30 ?_
      refine r_tops hyz ?_
      refine r_icmp_ge hO d_M_reads_31 (fun c_31 => ?_) (fun c_31 => ?_)
      · exact absurd c_31 (nI_ge (by omega) (by omega))
      · refine r_aload hO d_M_reads_34 rfl ?_
        refine r_getR hO f_M_54 rfl hM.2.1 (mo_r15 hM) d_M_reads_35 ?_
        refine r_k hO d_M_reads_38 ?_
        refine r_iload hO d_M_reads_40 rfl ?_
        refine r_imulN hO d_M_reads_41 ?_
        refine r_iload hO d_M_reads_42 rfl ?_
        refine r_iaddN hO d_M_reads_43 ?_
        refine r_iald hO (mo_s15 hM) (by omega) (by decide) d_M_reads_44 ?_
        refine r_sI3 hO d_M_reads_45 rfl ?_
        refine r_iload hO d_M_reads_46 rfl ?_
        refine r_ldc hO k_M_176 d_M_reads_47 ?_
        refine r_icmp_eq hO d_M_reads_49 (fun c_49 => ?_) (fun c_49 => ?_)
        · refine r_incN2 hO d_M_reads_72 rfl ?_
          refine r_goto hO d_M_reads_75 ?_
          exact ih (k + 1) _ (by rw [← hp]; exact (show cd_rd _ _ z (r + 1) k = _ by show (if _ then _ else _) = _; rw [if_pos c_49]).symm) (by omega)
        · refine r_aload hO d_M_reads_52 rfl ?_
          refine r_iload hO d_M_reads_53 rfl ?_
          refine r_cV1fi hO hE (c_M_isAsking hM _) mf_M_isAsking lk_M_108 hM.2.1 rfl (by decide) rfl (Nat.le_of_ble_eq_true rfl) d_M_reads_54 (Nat.zero_le _) (Nat.zero_le _) ?_
          refine r_if_eqB hO d_M_reads_57 (fun c_57 => ?_) (fun c_57 => ?_)
          · refine r_iload hO d_M_reads_70 rfl ?_
            refine r_iret hO hE (Nat.zero_le _) (Nat.zero_le _) d_M_reads_71 ?_
            exact ⟨by rw [← hp]; unfold cd_rd; rw [if_neg c_49, if_neg c_57], rfl, rfl⟩
          · obtain ⟨i, hi, hie⟩ := cd_isA_ex hV.1 hV.2.1 c_57
            have hki : k = i := (nI_eq (by omega) (by omega)).mp hie
            have hk12 : k < 12 := by omega
            refine r_iload hO d_M_reads_60 rfl ?_
            refine r_aload hO d_M_reads_61 rfl ?_
            refine r_iload hO d_M_reads_62 rfl ?_
            refine r_k hO d_M_reads_63 ?_
            refine r_cV2fi hO hE (c_M_of hM _ _ (by omega)) mf_M_of lk_M_97 hM.2.1 rfl (by decide) rfl (Nat.le_of_ble_eq_true rfl) d_M_reads_64 (Nat.zero_le _) (Nat.zero_le _) ?_
            refine r_icmp_eq hO d_M_reads_67 (fun c_67 => ?_) (fun c_67 => ?_)
            · refine r_incN2 hO d_M_reads_72 rfl ?_
              refine r_goto hO d_M_reads_75 ?_
              exact ih (k + 1) _ (by rw [← hp]; exact (show cd_rd _ _ z (r + 1) k = _ by show (if _ then _ else _) = _; rw [if_neg c_49, if_pos c_57, if_pos c_67]).symm) (by omega)
            · refine r_iload hO d_M_reads_70 rfl ?_
              refine r_iret hO hE (Nat.zero_le _) (Nat.zero_le _) d_M_reads_71 ?_
              exact ⟨by rw [← hp]; unfold cd_rd; rw [if_neg c_49, if_pos c_57, if_neg c_67], rfl, rfl⟩
  refine r_iload hO d_M_reads_0 rfl ?_
  refine r_cS1fi hO hE (c_M_isSheet _) mf_M_isSheet lk_M_183 (by decide) rfl (Nat.le_of_ble_eq_true rfl) d_M_reads_1 (Nat.zero_le _) (Nat.zero_le _) ?_
  refine r_if_neB hO d_M_reads_4 (fun c_4 => ?_) (fun c_4 => ?_)
  · obtain ⟨z, hz1, hz2, rfl⟩ := cd_in_ex c_4 (by decide) (by decide)
    obtain ⟨y, hy, hyz, hso⟩ := hVS z (by omega)
    refine r_aload hO d_M_reads_10 rfl ?_
    refine r_getR hO f_M_48 rfl hM.2.1 (mo_r13 hM) d_M_reads_11 ?_
    refine r_iload hO d_M_reads_14 rfl ?_
    refine r_iald hO (mo_s13 hM) (by omega) (by decide) d_M_reads_15 ?_
    refine r_if_ge hO d_M_reads_16 (fun c_16 => ?_) (fun c_16 => ?_)
    · refine r_k hO d_M_reads_22 ?_
      refine r_sI2 hO d_M_reads_23 rfl ?_
      exact loop z y (by omega) hy hyz y 0 _ (by unfold sp_reads; rw [if_pos c_4, cd_tn_nI (by omega), if_pos c_16, hyz, cd_tn_nI (by omega)]) (Nat.zero_add _)
    · refine r_ldc hO k_M_186 d_M_reads_19 ?_
      refine r_iret hO hE (Nat.zero_le _) (Nat.zero_le _) d_M_reads_21 ?_
      exact ⟨by unfold sp_reads; rw [if_pos c_4, cd_tn_nI (by omega), if_neg c_16], rfl, rfl⟩
  · refine r_ldc hO k_M_87 d_M_reads_7 ?_
    refine r_iret hO hE (Nat.zero_le _) (Nat.zero_le _) d_M_reads_9 ?_
    exact ⟨by unfold sp_reads; rw [if_neg c_4], rfl, rfl⟩
