abbrev cd_Th3 : Type := (Nat → Int32) × (Nat → Int32) × (Nat → Int32)
def cd_sd3 (T : cd_Th3) (s : Nat) (t n : Int32) : cd_Th3 := (upd T.1 s t, upd T.2.1 s n, cd_rg T.2.2 (24 * s) 24 (fun _ => nI 0))
def sp_sh (T : cd_Th3) (s t n : Int32) : Int32 × cd_Th3 := if nI 0 ≤ s ∧ s ≤ nI 3 then (if (-1) ≤ t ∧ t ≤ nI 1 then (if t < 0 then (nI 0, cd_sd3 T (cd_tn s) t (nI 0)) else if n ≤ nI 24 then (if 0 ≤ n then (n, cd_sd3 T (cd_tn s) t n) else (cd_SIZE, T)) else (cd_BAD, T)) else (cd_BAD, T)) else (cd_BAD, T)
def cd_m3 (I : cd_Mem) (m : Nat) (T : cd_Th3) : cd_Mem := cd_set (cd_set (cd_set I (m + 13) T.1) (m + 14) T.2.1) (m + 15) T.2.2
def cd_g3 (I : cd_Mem) (m : Nat) : cd_Th3 := (I (m + 13), I (m + 14), I (m + 15))
theorem cd_m3_self (I : cd_Mem) (m : Nat) : cd_m3 I m (cd_g3 I m) = I := by
  unfold cd_m3 cd_g3
  simp only [cd_set_self]
/-- the reference's call, by the three rows -/
theorem sp_sheet_3 (I : cd_Mem) (m : Nat) (s t n : Int32) : sp_sheet I m s t n = ((sp_sh (cd_g3 I m) s t n).1, cd_m3 I m (sp_sh (cd_g3 I m) s t n).2) := by
  unfold sp_sheet sp_sh
  repeat' split
  all_goals first | rfl | (rw [cd_m3_self])
/-- a call that reaches no more than the sheets -/
def cd_Psh (w : cd_WT) (S : cd_Sp) (I : cd_Mem) (p : Int32 × cd_Th3) : cd_Pt := cd_Pi S (fun x I' => x = p.1 ∧ cd_SR w I' p.2.1 p.2.2.1 p.2.2.2 ∧ ∀ b, ¬ (w.1 + 62 ≤ b ∧ b < w.1 + 70) → I' b = I b)
theorem cd_psh {w : cd_WT} {S : cd_Sp} {I I' : cd_Mem} {p : Int32 × cd_Th3} {v : Int32} {T : cd_Th3} (h : p = (v, T)) (hS : cd_SR w I' T.1 T.2.1 T.2.2) (ho : ∀ b, ¬ (w.1 + 62 ≤ b ∧ b < w.1 + 70) → I' b = I b) : cd_Psh w S I p (some (.int v)) S I' := by
  subst h
  exact ⟨_, rfl, rfl, rfl, hS, ho⟩
theorem cd_SR_b {w : cd_WT} {I I' : cd_Mem} {T : cd_Th3} {s : Nat} {t n : Int32} (hS : cd_SR w I T.1 T.2.1 T.2.2) (hs : s < 4) (h1 : I' (w.1 + 62 + 2 * s) = upd (upd (I (w.1 + 62 + 2 * s)) 0 t) 1 n) (h2 : ∀ k, k < 24 → I' (w.1 + 62 + 2 * s + 1) k = nI 0) (h3 : cd_off I I' [w.1 + 62 + 2 * s, w.1 + 62 + 2 * s + 1]) : cd_SR w I' (cd_sd3 T s t n).1 (cd_sd3 T s t n).2.1 (cd_sd3 T s t n).2.2 := by
  intro s' hs'
  unfold cd_sd3
  obtain ⟨a, b, c⟩ := hS s' hs'
  by_cases e : s' = s
  · subst e
    refine ⟨by rw [h1]; simp [upd], by rw [h1]; simp [upd], fun k hk => ?_⟩
    rw [h2 k hk]
    show nI 0 = cd_rg T.2.2 (24 * s') 24 (fun _ => nI 0) (24 * s' + k)
    unfold cd_rg
    rw [if_pos (by omega)]
  · have e1 : I' (w.1 + 62 + 2 * s') = I (w.1 + 62 + 2 * s') := h3 _ (by simp only [List.mem_cons, List.mem_nil_iff, or_false]; omega)
    have e2 : I' (w.1 + 62 + 2 * s' + 1) = I (w.1 + 62 + 2 * s' + 1) := h3 _ (by simp only [List.mem_cons, List.mem_nil_iff, or_false]; omega)
    refine ⟨by rw [e1, a]; exact (if_neg e).symm, by rw [e1, b]; exact (if_neg e).symm, fun k hk => ?_⟩
    rw [e2, c k hk]
    show _ = cd_rg T.2.2 (24 * s) 24 (fun _ => nI 0) (24 * s' + k)
    unfold cd_rg
    rw [if_neg (by omega)]
theorem cd_off_sh {w : cd_WT} {I I' : cd_Mem} {s : Nat} (hs : s < 4) (h3 : cd_off I I' [w.1 + 62 + 2 * s, w.1 + 62 + 2 * s + 1]) : ∀ b, ¬ (w.1 + 62 ≤ b ∧ b < w.1 + 70) → I' b = I b := fun b hb => h3 b (by simp only [List.mem_cons, List.mem_nil_iff, or_false]; omega)
theorem d_C_sheet_0 : cd_D_iload b_C_sheet 0 1 1 := Or.inr ⟨1, ⟨by decide +kernel, rfl⟩, rfl⟩
theorem d_C_sheet_1 : cd_Dk b_C_sheet 1 (nI 3) 2 := Or.inl ⟨3, ⟨by decide +kernel, rfl⟩, by decide +kernel⟩
theorem d_C_sheet_2 : cd_D 3 b_C_sheet 2 (.invokestatic 58) 5 := ⟨by decide +kernel, rfl⟩
theorem d_C_sheet_5 : cd_D_if_eq b_C_sheet 5 18 8 := ⟨13, by decide +kernel, by decide, rfl⟩
theorem d_C_sheet_8 : cd_D_iload b_C_sheet 8 2 9 := Or.inr ⟨2, ⟨by decide +kernel, rfl⟩, rfl⟩
theorem d_C_sheet_9 : cd_Dk b_C_sheet 9 (-1) 10 := Or.inl ⟨-1, ⟨by decide +kernel, rfl⟩, by decide +kernel⟩
theorem d_C_sheet_10 : cd_D_icmp_lt b_C_sheet 10 18 13 := ⟨8, by decide +kernel, by decide, rfl⟩
theorem d_C_sheet_13 : cd_D_iload b_C_sheet 13 2 14 := Or.inr ⟨2, ⟨by decide +kernel, rfl⟩, rfl⟩
theorem d_C_sheet_14 : cd_Dk b_C_sheet 14 (nI 1) 15 := Or.inl ⟨1, ⟨by decide +kernel, rfl⟩, by decide +kernel⟩
theorem d_C_sheet_15 : cd_D_icmp_le b_C_sheet 15 21 18 := ⟨6, by decide +kernel, by decide, rfl⟩
theorem d_C_sheet_18 : cd_D 2 b_C_sheet 18 (.ldc 62) 20 := ⟨by decide +kernel, rfl⟩
theorem d_C_sheet_20 : cd_D 1 b_C_sheet 20 .ireturn 21 := ⟨by decide +kernel, rfl⟩
theorem d_C_sheet_21 : cd_D_iload b_C_sheet 21 2 22 := Or.inr ⟨2, ⟨by decide +kernel, rfl⟩, rfl⟩
theorem d_C_sheet_22 : cd_Dk b_C_sheet 22 (-1) 23 := Or.inl ⟨-1, ⟨by decide +kernel, rfl⟩, by decide +kernel⟩
theorem d_C_sheet_23 : cd_D_icmp_ne b_C_sheet 23 39 26 := ⟨16, by decide +kernel, by decide, rfl⟩
theorem d_C_sheet_26 : cd_D_aload b_C_sheet 26 0 27 := Or.inr ⟨0, ⟨by decide +kernel, rfl⟩, rfl⟩
theorem d_C_sheet_27 : cd_D 3 b_C_sheet 27 (.getfield 35) 30 := ⟨by decide +kernel, rfl⟩
theorem d_C_sheet_30 : cd_D_iload b_C_sheet 30 1 31 := Or.inr ⟨1, ⟨by decide +kernel, rfl⟩, rfl⟩
theorem d_C_sheet_31 : cd_D 1 b_C_sheet 31 .aaload 32 := ⟨by decide +kernel, rfl⟩
theorem d_C_sheet_32 : cd_Dk b_C_sheet 32 (-1) 33 := Or.inl ⟨-1, ⟨by decide +kernel, rfl⟩, by decide +kernel⟩
theorem d_C_sheet_33 : cd_Dk b_C_sheet 33 (nI 0) 34 := Or.inl ⟨0, ⟨by decide +kernel, rfl⟩, by decide +kernel⟩
theorem d_C_sheet_34 : cd_D 3 b_C_sheet 34 (.invokevirtual 235) 37 := ⟨by decide +kernel, rfl⟩
theorem d_C_sheet_37 : cd_Dk b_C_sheet 37 (nI 0) 38 := Or.inl ⟨0, ⟨by decide +kernel, rfl⟩, by decide +kernel⟩
theorem d_C_sheet_38 : cd_D 1 b_C_sheet 38 .ireturn 39 := ⟨by decide +kernel, rfl⟩
theorem d_C_sheet_39 : cd_D_iload b_C_sheet 39 3 40 := Or.inr ⟨3, ⟨by decide +kernel, rfl⟩, rfl⟩
theorem d_C_sheet_40 : cd_Dk b_C_sheet 40 (nI 24) 42 := Or.inr (Or.inl ⟨24, ⟨by decide +kernel, rfl⟩, by decide +kernel⟩)
theorem d_C_sheet_42 : cd_D_icmp_le b_C_sheet 42 48 45 := ⟨6, by decide +kernel, by decide, rfl⟩
theorem d_C_sheet_45 : cd_D 2 b_C_sheet 45 (.ldc 62) 47 := ⟨by decide +kernel, rfl⟩
theorem d_C_sheet_47 : cd_D 1 b_C_sheet 47 .ireturn 48 := ⟨by decide +kernel, rfl⟩
theorem d_C_sheet_48 : cd_D_iload b_C_sheet 48 3 49 := Or.inr ⟨3, ⟨by decide +kernel, rfl⟩, rfl⟩
theorem d_C_sheet_49 : cd_D_if_ge b_C_sheet 49 55 52 := ⟨6, by decide +kernel, by decide, rfl⟩
theorem d_C_sheet_52 : cd_D 2 b_C_sheet 52 (.ldc 239) 54 := ⟨by decide +kernel, rfl⟩
theorem d_C_sheet_54 : cd_D 1 b_C_sheet 54 .ireturn 55 := ⟨by decide +kernel, rfl⟩
theorem d_C_sheet_55 : cd_D_aload b_C_sheet 55 0 56 := Or.inr ⟨0, ⟨by decide +kernel, rfl⟩, rfl⟩
theorem d_C_sheet_56 : cd_D 3 b_C_sheet 56 (.getfield 35) 59 := ⟨by decide +kernel, rfl⟩
theorem d_C_sheet_59 : cd_D_iload b_C_sheet 59 1 60 := Or.inr ⟨1, ⟨by decide +kernel, rfl⟩, rfl⟩
theorem d_C_sheet_60 : cd_D 1 b_C_sheet 60 .aaload 61 := ⟨by decide +kernel, rfl⟩
theorem d_C_sheet_61 : cd_D_iload b_C_sheet 61 2 62 := Or.inr ⟨2, ⟨by decide +kernel, rfl⟩, rfl⟩
theorem d_C_sheet_62 : cd_D_iload b_C_sheet 62 3 63 := Or.inr ⟨3, ⟨by decide +kernel, rfl⟩, rfl⟩
theorem d_C_sheet_63 : cd_D 3 b_C_sheet 63 (.invokevirtual 235) 66 := ⟨by decide +kernel, rfl⟩
theorem d_C_sheet_66 : cd_D_iload b_C_sheet 66 3 67 := Or.inr ⟨3, ⟨by decide +kernel, rfl⟩, rfl⟩
theorem d_C_sheet_67 : cd_D 1 b_C_sheet 67 .ireturn 68 := ⟨by decide +kernel, rfl⟩
theorem c_C_sheet {l : Launch} {w : cd_WT} {S : cd_Sp} {I : cd_Mem} (hC : cd_CD w S) {T : cd_Th3} (hS : cd_SR w I T.1 T.2.1 T.2.2) (z t n : Int32) : cd_C l w m_C_sheet 1 0 0 [.ref w.1, .int z, .int t, .int n] S I (cd_Psh w S I (sp_sh T z t n)) := by
  refine cd_intro (by decide) (by simp [Value.category]) (Nat.le_of_ble_eq_true rfl) ?_
  intro X hO hE
  show cd_J w X 0 0 S I 0 [some (.ref w.1), some (.int z), some (.int t), some (.int n)] []
  refine r_iload hO d_C_sheet_0 rfl ?_
  refine r_k hO d_C_sheet_1 ?_
  refine r_cS2fi hO hE (c_C_isWithin _ _) mf_C_isWithin lk_C_58 (by decide) rfl (Nat.le_of_ble_eq_true rfl) d_C_sheet_2 (Nat.zero_le _) (Nat.zero_le _) ?_
  refine r_if_eqB hO d_C_sheet_5 (fun c_5 => ?_) (fun c_5 => ?_)
  · refine r_ldc hO k_C_62 d_C_sheet_18 ?_
    refine r_iret hO hE (Nat.zero_le _) (Nat.zero_le _) d_C_sheet_20 ?_
    exact cd_psh (by unfold sp_sh; rw [if_neg c_5]) hS (fun b hb => rfl)
  · obtain ⟨s, -, hs3, rfl⟩ := cd_in_ex c_5 (by decide) (by decide)
    refine r_iload hO d_C_sheet_8 rfl ?_
    refine r_k hO d_C_sheet_9 ?_
    refine r_icmp_lt hO d_C_sheet_10 (fun c_10 => ?_) (fun c_10 => ?_)
    · refine r_ldc hO k_C_62 d_C_sheet_18 ?_
      refine r_iret hO hE (Nat.zero_le _) (Nat.zero_le _) d_C_sheet_20 ?_
      exact cd_psh (by unfold sp_sh; rw [if_pos c_5, if_neg (by rintro ⟨q1, q2⟩; simp only [Int32.lt_iff_toInt_lt, Int32.le_iff_toInt_le] at *; omega)]) hS (fun b hb => rfl)
    · refine r_iload hO d_C_sheet_13 rfl ?_
      refine r_k hO d_C_sheet_14 ?_
      refine r_icmp_le hO d_C_sheet_15 (fun c_15 => ?_) (fun c_15 => ?_)
      · refine r_iload hO d_C_sheet_21 rfl ?_
        refine r_k hO d_C_sheet_22 ?_
        refine r_icmp_ne hO d_C_sheet_23 (fun c_23 => ?_) (fun c_23 => ?_)
        · have htn : ¬ t < 0 := fun q => c_23 (by have h1 := c_10; simp only [Int32.lt_iff_toInt_lt, Int32.le_iff_toInt_le, ← Int32.toInt_inj] at *; have e0 : (0 : Int32).toInt = 0 := rfl; have e1 : (-1 : Int32).toInt = -1 := rfl; omega)
          refine r_iload hO d_C_sheet_39 rfl ?_
          refine r_k hO d_C_sheet_40 ?_
          refine r_icmp_le hO d_C_sheet_42 (fun c_42 => ?_) (fun c_42 => ?_)
          · refine r_iload hO d_C_sheet_48 rfl ?_
            refine r_if_ge hO d_C_sheet_49 (fun c_49 => ?_) (fun c_49 => ?_)
            · refine r_aload hO d_C_sheet_55 rfl ?_
              refine r_getR hO f_C_35 rfl hC.1 hC.2.2.2.2.2.1 d_C_sheet_56 ?_
              refine r_iload hO d_C_sheet_59 rfl ?_
              refine r_aald (t := 6) hO hC.2.2.2.2.2.2.2.2.2.2.2.2.2.1 (by decide) (by decide) (by omega) (by decide) (hC.2.2.2.2.2.2.2.2.2.2.2.2.2.2.2.2.2.1 _ (by omega)).1 d_C_sheet_60 ?_
              refine r_iload hO d_C_sheet_61 rfl ?_
              refine r_iload hO d_C_sheet_62 rfl ?_
              refine r_cV2v hO hE (c_S_becomes (hC.2.2.2.2.2.2.2.2.2.2.2.2.2.2.2.2.2.1 _ (by omega)).2 (Nat.le_trans (Nat.le_add_right _ _) (Nat.le_add_right _ _)) t n) mf_S_becomes lk_C_235 (hC.2.2.2.2.2.2.2.2.2.2.2.2.2.2.2.2.2.1 _ (by omega)).2.1 rfl (by decide) rfl (Nat.le_of_ble_eq_true rfl) d_C_sheet_63 (Nat.zero_le _) (Nat.zero_le _) ?_
              rintro I2 ⟨g1, g2, g3⟩
              refine r_iload hO d_C_sheet_66 rfl ?_
              refine r_iret hO hE (Nat.zero_le _) (Nat.zero_le _) d_C_sheet_67 ?_
              exact cd_psh (by unfold sp_sh; rw [if_pos c_5, if_pos ⟨Int32.not_lt.mp c_10, c_15⟩, if_neg htn, if_pos c_42, if_pos c_49, cd_tn_nI (show s < 2 ^ 31 by omega)]) (cd_SR_b hS (by omega) g1 g2 g3) (cd_off_sh (by omega) g3)
            · refine r_ldc hO k_C_239 d_C_sheet_52 ?_
              refine r_iret hO hE (Nat.zero_le _) (Nat.zero_le _) d_C_sheet_54 ?_
              exact cd_psh (by unfold sp_sh; rw [if_pos c_5, if_pos ⟨Int32.not_lt.mp c_10, c_15⟩, if_neg htn, if_pos c_42, if_neg c_49]) hS (fun b hb => rfl)
          · refine r_ldc hO k_C_62 d_C_sheet_45 ?_
            refine r_iret hO hE (Nat.zero_le _) (Nat.zero_le _) d_C_sheet_47 ?_
            exact cd_psh (by unfold sp_sh; rw [if_pos c_5, if_pos ⟨Int32.not_lt.mp c_10, c_15⟩, if_neg htn, if_neg c_42]) hS (fun b hb => rfl)
        · subst c_23
          refine r_aload hO d_C_sheet_26 rfl ?_
          refine r_getR hO f_C_35 rfl hC.1 hC.2.2.2.2.2.1 d_C_sheet_27 ?_
          refine r_iload hO d_C_sheet_30 rfl ?_
          refine r_aald (t := 6) hO hC.2.2.2.2.2.2.2.2.2.2.2.2.2.1 (by decide) (by decide) (by omega) (by decide) (hC.2.2.2.2.2.2.2.2.2.2.2.2.2.2.2.2.2.1 _ (by omega)).1 d_C_sheet_31 ?_
          refine r_k hO d_C_sheet_32 ?_
          refine r_k hO d_C_sheet_33 ?_
          refine r_cV2v hO hE (c_S_becomes (hC.2.2.2.2.2.2.2.2.2.2.2.2.2.2.2.2.2.1 _ (by omega)).2 (Nat.le_trans (Nat.le_add_right _ _) (Nat.le_add_right _ _)) (-1) (nI 0)) mf_S_becomes lk_C_235 (hC.2.2.2.2.2.2.2.2.2.2.2.2.2.2.2.2.2.1 _ (by omega)).2.1 rfl (by decide) rfl (Nat.le_of_ble_eq_true rfl) d_C_sheet_34 (Nat.zero_le _) (Nat.zero_le _) ?_
          rintro I2 ⟨g1, g2, g3⟩
          refine r_k hO d_C_sheet_37 ?_
          refine r_iret hO hE (Nat.zero_le _) (Nat.zero_le _) d_C_sheet_38 ?_
          exact cd_psh (by unfold sp_sh; rw [if_pos c_5, if_pos ⟨Int32.not_lt.mp c_10, c_15⟩, if_pos (by decide), cd_tn_nI (show s < 2 ^ 31 by omega)]) (cd_SR_b hS (by omega) g1 g2 g3) (cd_off_sh (by omega) g3)
      · refine r_ldc hO k_C_62 d_C_sheet_18 ?_
        refine r_iret hO hE (Nat.zero_le _) (Nat.zero_le _) d_C_sheet_20 ?_
        exact cd_psh (by unfold sp_sh; rw [if_pos c_5, if_neg (by rintro ⟨q1, q2⟩; simp only [Int32.lt_iff_toInt_lt, Int32.le_iff_toInt_le] at *; omega)]) hS (fun b hb => rfl)
