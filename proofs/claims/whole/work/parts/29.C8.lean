theorem cd_or0 {x y : Int32} (h : x ||| y = 0) : x = 0 ∧ y = 0 := by
  have e : x.toBitVec ||| y.toBitVec = 0#32 := by
    rw [← Int32.toBitVec_or, h]
    rfl
  rw [BitVec.or_eq_zero_iff] at e
  exact ⟨Int32.toBitVec_inj.mp e.1, Int32.toBitVec_inj.mp e.2⟩
theorem cd_bit_ne {a : Nat} (h : a < 12) : ¬ nI 1 <<< (nI a &&& 31) = 0 := by
  rcases (show a = 0 ∨ a = 1 ∨ a = 2 ∨ a = 3 ∨ a = 4 ∨ a = 5 ∨ a = 6 ∨ a = 7 ∨ a = 8 ∨ a = 9 ∨ a = 10 ∨ a = 11 by omega) with rfl | rfl | rfl | rfl | rfl | rfl | rfl | rfl | rfl | rfl | rfl | rfl <;> decide
theorem cd_nj_0 {N : Nat → Int32} {t : Int32} : ∀ {i : Nat}, (∀ a, a < i → ¬ N (16 + 5 * a + 2) ≤ 0 → ¬ N (16 + 5 * a + 1) = t) → cd_nj N t i = 0
  | 0, _ => rfl
  | i + 1, h => by
    unfold cd_nj
    rw [cd_nj_0 (fun a ha => h a (by omega)), Int32.zero_or]
    by_cases h1 : N (16 + 5 * i + 2) ≤ 0
    · rw [if_pos h1]
      rfl
    · rw [if_neg h1, if_neg (h i (by omega) h1)]
      rfl
theorem cd_nj_ne {N : Nat → Int32} {t : Int32} : ∀ {i : Nat}, i ≤ 12 → (∃ a, a < i ∧ ¬ N (16 + 5 * a + 2) ≤ 0 ∧ N (16 + 5 * a + 1) = t) → ¬ cd_nj N t i = 0
  | 0, _, h => by
    obtain ⟨a, ha, _⟩ := h
    omega
  | i + 1, hi, h => by
    intro e
    unfold cd_nj at e
    obtain ⟨e1, e2⟩ := cd_or0 e
    obtain ⟨a, ha, h1, h2⟩ := h
    by_cases hai : a = i
    · subst hai
      rw [if_neg h1, if_pos h2] at e2
      exact cd_bit_ne (by omega) e2
    · exact cd_nj_ne (by omega) ⟨a, by omega, h1, h2⟩ e1
/-- the soonest hour among the first i askings is s hours off, and nx holds its bits -/
def cd_ni (N : Nat → Int32) (hh i s : Nat) (nx : Int32) : Prop := s ≤ 24 ∧ (s < 24 → nx = cd_nj N (nI ((hh + s) % 24)) i) ∧ (s = 24 → nx = nI 0) ∧ (∀ a, a < i → ¬ N (16 + 5 * a + 2) ≤ 0 → ∀ q, q ≤ 23 → N (16 + 5 * a + 1) = nI q → s ≤ (q + 24 - hh % 24) % 24) ∧ (s = 24 ∨ ∃ a, a < i ∧ ¬ N (16 + 5 * a + 2) ≤ 0 ∧ N (16 + 5 * a + 1) = nI ((hh + s) % 24))
theorem cd_ni_0 (N : Nat → Int32) (hh : Nat) : cd_ni N hh 0 24 (nI 0) := ⟨by omega, by omega, fun _ => rfl, fun a ha => by omega, Or.inl rfl⟩
theorem cd_ni_no {N : Nat → Int32} {hh i s : Nat} {nx : Int32} (h : cd_ni N hh i s nx) (hn : N (16 + 5 * i + 2) ≤ 0 ∨ ∃ q, q ≤ 23 ∧ N (16 + 5 * i + 1) = nI q ∧ s < (q + 24 - hh % 24) % 24) : cd_ni N hh (i + 1) s nx := by
  obtain ⟨h1, h2, h3, h4, h5⟩ := h
  refine ⟨h1, fun hs => ?_, h3, fun a ha hon q hq hN => ?_, ?_⟩
  · unfold cd_nj
    rw [← h2 hs]
    rcases hn with hn | ⟨q, hq, hN, hlt⟩
    · rw [if_pos hn]
      exact (Int32.or_zero).symm
    · rw [hN, if_neg (show ¬ nI q = nI ((hh + s) % 24) from fun e => by
        have := (nI_eq (by omega) (by omega)).mp e
        omega)]
      split
      · exact (Int32.or_zero).symm
      · exact (Int32.or_zero).symm
  · by_cases hai : a = i
    · subst hai
      rcases hn with hn | ⟨q', hq', hN', hlt⟩
      · exact absurd hn hon
      · have := (nI_eq (by omega) (by omega)).mp (hN.symm.trans hN')
        omega
    · exact h4 a (by omega) hon q hq hN
  · rcases h5 with h5 | ⟨a, ha, hon, hN⟩
    · exact Or.inl h5
    · exact Or.inr ⟨a, by omega, hon, hN⟩
theorem cd_ni_lo {N : Nat → Int32} {hh i s q : Nat} {nx : Int32} (h : cd_ni N hh i s nx) (hon : ¬ N (16 + 5 * i + 2) ≤ 0) (hq : q ≤ 23) (hN : N (16 + 5 * i + 1) = nI q) (hlt : (q + 24 - hh % 24) % 24 < s) : cd_ni N hh (i + 1) ((q + 24 - hh % 24) % 24) (nI 1 <<< (nI i &&& 31)) := by
  obtain ⟨h1, h2, h3, h4, -⟩ := h
  have e : (hh + (q + 24 - hh % 24) % 24) % 24 = q := by omega
  refine ⟨by omega, fun hs => ?_, by omega, fun a ha hon' q' hq' hN' => ?_, Or.inr ⟨i, by omega, hon, by rw [e]; exact hN⟩⟩
  · rw [e]
    unfold cd_nj
    rw [cd_nj_0 (fun a ha hona hNa => by
      have := h4 a ha hona q hq hNa
      omega), Int32.zero_or, if_neg hon, if_pos hN]
  · by_cases hai : a = i
    · subst hai
      have := (nI_eq (by omega) (by omega)).mp (hN.symm.trans hN')
      subst this
      exact Nat.le_refl _
    · have := h4 a (by omega) hon' q' hq' hN'
      omega
theorem cd_ni_eq {N : Nat → Int32} {hh i s q : Nat} {nx : Int32} (h : cd_ni N hh i s nx) (hon : ¬ N (16 + 5 * i + 2) ≤ 0) (hq : q ≤ 23) (hN : N (16 + 5 * i + 1) = nI q) (heq : (q + 24 - hh % 24) % 24 = s) : cd_ni N hh (i + 1) s (nx ||| (nI 1 <<< (nI i &&& 31))) := by
  obtain ⟨h1, h2, h3, h4, -⟩ := h
  have e : (hh + s) % 24 = q := by omega
  have hs : s < 24 := by omega
  refine ⟨by omega, fun hs => ?_, by omega, fun a ha hon' q' hq' hN' => ?_, Or.inr ⟨i, by omega, hon, by rw [e]; exact hN⟩⟩
  · rw [e]
    unfold cd_nj
    rw [h2 hs, e, if_neg hon, if_pos hN]
  · by_cases hai : a = i
    · subst hai
      have := (nI_eq (by omega) (by omega)).mp (hN.symm.trans hN')
      subst this
      omega
    · exact h4 a (by omega) hon' q' hq' hN'
theorem cd_ni_nk0 {N : Nat → Int32} {hh mm s : Nat} (hb : ∀ a, a < mm → ∃ q, q ≤ 23 ∧ N (16 + 5 * a + 1) = nI q) (hN2 : N 2 = nI hh) (h9 : hh ≤ 9999) (h4 : ∀ a, a < mm → ¬ N (16 + 5 * a + 2) ≤ 0 → ∀ q, q ≤ 23 → N (16 + 5 * a + 1) = nI q → s ≤ (q + 24 - hh % 24) % 24) : ∀ k, k ≤ s → k ≤ 24 → cd_nk N mm k = 0
  | 0, _, _ => rfl
  | k + 1, h1, h2 => by
    unfold cd_nk
    rw [cd_ni_nk0 hb hN2 h9 h4 k (by omega) (by omega), if_pos rfl]
    apply cd_nj_0
    intro a ha hon e
    obtain ⟨q, hq, hN⟩ := hb a ha
    have h5 := h4 a ha hon q hq hN
    unfold cd_rem at e
    rw [hN, hN2, nI_add, pk_rem (by omega) (by decide) (by decide)] at e
    have := (nI_eq (by omega) (by omega)).mp e
    omega
theorem cd_ni_end {N : Nat → Int32} {hh mm s : Nat} {nx : Int32} (h : cd_ni N hh mm s nx) (hb : ∀ a, a < mm → ∃ q, q ≤ 23 ∧ N (16 + 5 * a + 1) = nI q) (hN2 : N 2 = nI hh) (h9 : hh ≤ 9999) (hmm : mm ≤ 12) : nx = cd_nk N mm 24 := by
  obtain ⟨h1, h2, h3, h4, h5⟩ := h
  have z := cd_ni_nk0 hb hN2 h9 h4
  by_cases hs : s = 24
  · rw [h3 hs, z 24 (by omega) (by omega)]
    rfl
  · have hs' : s < 24 := by omega
    have e : cd_nk N mm (s + 1) = cd_nj N (nI ((hh + s) % 24)) mm := by
      show (if cd_nk N mm s = 0 then cd_nj N (cd_rem (N 2 + nI s) (nI 24)) mm else cd_nk N mm s) = _
      rw [if_pos (z s (by omega) (by omega)), hN2, nI_add]
      unfold cd_rem
      rw [pk_rem (by omega) (by decide) (by decide)]
    have hne : ¬ cd_nk N mm (s + 1) = 0 := by
      rw [e]
      exact cd_nj_ne hmm (h5.resolve_left hs)
    have := cd_nk_st hne (24 - (s + 1))
    rw [show s + 1 + (24 - (s + 1)) = 24 by omega] at this
    rw [this, e]
    exact h2 hs'
theorem cd_unt {q c : Nat} (hc : c ≤ 24) : nI q - nI c + nI 24 = nI (q + 24 - c) := by
  rw [← pk_sub (show c ≤ q + 24 by omega), ← nI_add, Int32.sub_eq_add_neg, Int32.sub_eq_add_neg, Int32.add_assoc, Int32.add_comm (-nI c), ← Int32.add_assoc]
theorem d_H_comingNext_0 : cd_Dk b_H_comingNext 0 (nI 24) 2 := Or.inr (Or.inl ⟨24, ⟨by decide +kernel, rfl⟩, by decide +kernel⟩)
theorem d_H_comingNext_2 : cd_D_istore b_H_comingNext 2 1 3 := Or.inr ⟨1, ⟨by decide +kernel, rfl⟩, rfl⟩
theorem d_H_comingNext_3 : cd_Dk b_H_comingNext 3 (nI 0) 4 := Or.inl ⟨0, ⟨by decide +kernel, rfl⟩, by decide +kernel⟩
theorem d_H_comingNext_4 : cd_D_istore b_H_comingNext 4 2 5 := Or.inr ⟨2, ⟨by decide +kernel, rfl⟩, rfl⟩
theorem d_H_comingNext_5 : cd_Dk b_H_comingNext 5 (nI 0) 6 := Or.inl ⟨0, ⟨by decide +kernel, rfl⟩, by decide +kernel⟩
theorem d_H_comingNext_6 : cd_D_istore b_H_comingNext 6 3 7 := Or.inr ⟨3, ⟨by decide +kernel, rfl⟩, rfl⟩
theorem d_H_comingNext_7 : cd_D_iload b_H_comingNext 7 3 8 := Or.inr ⟨3, ⟨by decide +kernel, rfl⟩, rfl⟩
theorem d_H_comingNext_8 : cd_D_aload b_H_comingNext 8 0 9 := Or.inr ⟨0, ⟨by decide +kernel, rfl⟩, rfl⟩
theorem d_H_comingNext_9 : cd_D 3 b_H_comingNext 9 (.getfield 24) 12 := ⟨by decide +kernel, rfl⟩
theorem d_H_comingNext_12 : cd_D_icmp_ge b_H_comingNext 12 85 15 := ⟨73, by decide +kernel, by decide, rfl⟩
theorem d_H_comingNext_15 : cd_D_aload b_H_comingNext 15 0 16 := Or.inr ⟨0, ⟨by decide +kernel, rfl⟩, rfl⟩
theorem d_H_comingNext_16 : cd_D 3 b_H_comingNext 16 (.getfield 20) 19 := ⟨by decide +kernel, rfl⟩
theorem d_H_comingNext_19 : cd_D_iload b_H_comingNext 19 3 20 := Or.inr ⟨3, ⟨by decide +kernel, rfl⟩, rfl⟩
theorem d_H_comingNext_20 : cd_D 1 b_H_comingNext 20 .aaload 21 := ⟨by decide +kernel, rfl⟩
theorem d_H_comingNext_21 : cd_D 3 b_H_comingNext 21 (.getfield 61) 24 := ⟨by decide +kernel, rfl⟩
theorem d_H_comingNext_24 : cd_D_aload b_H_comingNext 24 0 25 := Or.inr ⟨0, ⟨by decide +kernel, rfl⟩, rfl⟩
theorem d_H_comingNext_25 : cd_D 3 b_H_comingNext 25 (.getfield 28) 28 := ⟨by decide +kernel, rfl⟩
theorem d_H_comingNext_28 : cd_Dk b_H_comingNext 28 (nI 24) 30 := Or.inr (Or.inl ⟨24, ⟨by decide +kernel, rfl⟩, by decide +kernel⟩)
theorem d_H_comingNext_30 : cd_D 1 b_H_comingNext 30 .irem 31 := ⟨by decide +kernel, rfl⟩
theorem d_H_comingNext_31 : cd_D 1 b_H_comingNext 31 .isub 32 := ⟨by decide +kernel, rfl⟩
theorem d_H_comingNext_32 : cd_Dk b_H_comingNext 32 (nI 24) 34 := Or.inr (Or.inl ⟨24, ⟨by decide +kernel, rfl⟩, by decide +kernel⟩)
theorem d_H_comingNext_34 : cd_D 1 b_H_comingNext 34 .iadd 35 := ⟨by decide +kernel, rfl⟩
theorem d_H_comingNext_35 : cd_Dk b_H_comingNext 35 (nI 24) 37 := Or.inr (Or.inl ⟨24, ⟨by decide +kernel, rfl⟩, by decide +kernel⟩)
theorem d_H_comingNext_37 : cd_D 1 b_H_comingNext 37 .irem 38 := ⟨by decide +kernel, rfl⟩
theorem d_H_comingNext_38 : cd_D_istore b_H_comingNext 38 4 40 := Or.inl ⟨by decide +kernel, rfl⟩
theorem d_H_comingNext_40 : cd_D_aload b_H_comingNext 40 0 41 := Or.inr ⟨0, ⟨by decide +kernel, rfl⟩, rfl⟩
theorem d_H_comingNext_41 : cd_D 3 b_H_comingNext 41 (.getfield 20) 44 := ⟨by decide +kernel, rfl⟩
theorem d_H_comingNext_44 : cd_D_iload b_H_comingNext 44 3 45 := Or.inr ⟨3, ⟨by decide +kernel, rfl⟩, rfl⟩
theorem d_H_comingNext_45 : cd_D 1 b_H_comingNext 45 .aaload 46 := ⟨by decide +kernel, rfl⟩
theorem d_H_comingNext_46 : cd_D 3 b_H_comingNext 46 (.getfield 62) 49 := ⟨by decide +kernel, rfl⟩
theorem d_H_comingNext_49 : cd_D_if_le b_H_comingNext 49 79 52 := ⟨30, by decide +kernel, by decide, rfl⟩
theorem d_H_comingNext_52 : cd_D_iload b_H_comingNext 52 4 54 := Or.inl ⟨by decide +kernel, rfl⟩
theorem d_H_comingNext_54 : cd_D_iload b_H_comingNext 54 1 55 := Or.inr ⟨1, ⟨by decide +kernel, rfl⟩, rfl⟩
theorem d_H_comingNext_55 : cd_D_icmp_gt b_H_comingNext 55 79 58 := ⟨24, by decide +kernel, by decide, rfl⟩
theorem d_H_comingNext_58 : cd_D_iload b_H_comingNext 58 4 60 := Or.inl ⟨by decide +kernel, rfl⟩
theorem d_H_comingNext_60 : cd_D_iload b_H_comingNext 60 1 61 := Or.inr ⟨1, ⟨by decide +kernel, rfl⟩, rfl⟩
theorem d_H_comingNext_61 : cd_D_icmp_ge b_H_comingNext 61 70 64 := ⟨9, by decide +kernel, by decide, rfl⟩
theorem d_H_comingNext_64 : cd_Dk b_H_comingNext 64 (nI 1) 65 := Or.inl ⟨1, ⟨by decide +kernel, rfl⟩, by decide +kernel⟩
theorem d_H_comingNext_65 : cd_D_iload b_H_comingNext 65 3 66 := Or.inr ⟨3, ⟨by decide +kernel, rfl⟩, rfl⟩
theorem d_H_comingNext_66 : cd_D 1 b_H_comingNext 66 .ishl 67 := ⟨by decide +kernel, rfl⟩
theorem d_H_comingNext_67 : cd_D_goto b_H_comingNext 67 75 := ⟨8, by decide +kernel, by decide⟩
theorem d_H_comingNext_70 : cd_D_iload b_H_comingNext 70 2 71 := Or.inr ⟨2, ⟨by decide +kernel, rfl⟩, rfl⟩
theorem d_H_comingNext_71 : cd_Dk b_H_comingNext 71 (nI 1) 72 := Or.inl ⟨1, ⟨by decide +kernel, rfl⟩, by decide +kernel⟩
theorem d_H_comingNext_72 : cd_D_iload b_H_comingNext 72 3 73 := Or.inr ⟨3, ⟨by decide +kernel, rfl⟩, rfl⟩
theorem d_H_comingNext_73 : cd_D 1 b_H_comingNext 73 .ishl 74 := ⟨by decide +kernel, rfl⟩
theorem d_H_comingNext_74 : cd_D 1 b_H_comingNext 74 .ior 75 := ⟨by decide +kernel, rfl⟩
theorem d_H_comingNext_75 : cd_D_istore b_H_comingNext 75 2 76 := Or.inr ⟨2, ⟨by decide +kernel, rfl⟩, rfl⟩
theorem d_H_comingNext_76 : cd_D_iload b_H_comingNext 76 4 78 := Or.inl ⟨by decide +kernel, rfl⟩
theorem d_H_comingNext_78 : cd_D_istore b_H_comingNext 78 1 79 := Or.inr ⟨1, ⟨by decide +kernel, rfl⟩, rfl⟩
theorem d_H_comingNext_79 : cd_D 3 b_H_comingNext 79 (.iinc 3 (1)) 82 := ⟨by decide +kernel, rfl⟩
theorem d_H_comingNext_82 : cd_D_goto b_H_comingNext 82 7 := ⟨-75, by decide +kernel, by decide⟩
theorem d_H_comingNext_85 : cd_D_iload b_H_comingNext 85 2 86 := Or.inr ⟨2, ⟨by decide +kernel, rfl⟩, rfl⟩
theorem d_H_comingNext_86 : cd_D 1 b_H_comingNext 86 .ireturn 87 := ⟨by decide +kernel, rfl⟩
theorem c_H_comingNext {l : Launch} {w : cd_WT} {S : cd_Sp} {I : cd_Mem} {h mm tc : Nat} {N : Nat → Int32} (hG : cd_HG w S I h N mm tc) {hh : Nat} (hN2 : N 2 = nI hh) (h9 : hh ≤ 9999) : cd_C l w m_H_comingNext 0 0 0 [.ref h] S I (cd_Fi S (cd_nk N mm 24) I) := by
  refine cd_intro (by decide) (by simp [Value.category]) (Nat.le_of_ble_eq_true rfl) ?_
  intro X hO hE
  show cd_J w X 0 0 S I 0 [some (.ref h), none, none, none, none] []
  obtain ⟨hH, hhd, hV, hIV, hR⟩ := id hG
  have hmm := hV.2.1
  have hm1 : I h 3 = nI mm := (hR.at 1 (by omega) rfl rfl).trans hV.1
  have hm2 : I h 4 = nI hh := (hR.at 2 (by omega) rfl rfl).trans hN2
  have loop : ∀ (r i s : Nat) (nx : Int32) (x4 : Option Value), i + r = mm → cd_ni N hh i s nx → cd_J w X 0 0 S I 7 [some (.ref h), some (.int (nI s)), some (.int nx), some (.int (nI i)), x4] [] := by
    intro r
    induction r with
    | zero =>
      intro i s nx x4 hi hni
      have him : i = mm := by omega
      subst him
      refine r_iload hO d_H_comingNext_7 rfl ?_
      refine r_aload hO d_H_comingNext_8 rfl ?_
      refine r_getI hO f_H_24 rfl hH.2.1 d_H_comingNext_9 ?_
      refine r_tops hm1 ?_
      refine r_icmp_ge hO d_H_comingNext_12 (fun c_12 => ?_) (fun c_12 => ?_)
      · refine r_iload hO d_H_comingNext_85 rfl ?_
        refine r_iret hO hE (Nat.zero_le _) (Nat.zero_le _) d_H_comingNext_86 ?_
        exact ⟨by rw [cd_ni_end hni (fun a ha => (hIV.1 a ha).2.1) hN2 h9 hmm], rfl, rfl⟩
      · exact absurd (nI_le (Nat.le_refl _) (by omega)) c_12
    | succ r ih =>
      intro i s nx x4 hi hni
      have him : i < mm := by omega
      obtain ⟨q, hq, hN⟩ := (hIV.1 i him).2.1
      have a1 : I (h + 6 + i) 1 = nI q := (hR.ask him 1 (by decide)).trans hN
      have a2 := hR.ask him 2 (by decide)
      have hs24 := hni.1
      by_cases hon : N (16 + 5 * i + 2) ≤ 0
      · skip
        refine r_iload hO d_H_comingNext_7 rfl ?_
        refine r_aload hO d_H_comingNext_8 rfl ?_
        refine r_getI hO f_H_24 rfl hH.2.1 d_H_comingNext_9 ?_
        refine r_tops hm1 ?_
        refine r_icmp_ge hO d_H_comingNext_12 (fun c_12 => ?_) (fun c_12 => ?_)
        · exact absurd c_12 (nI_ge (by omega) (by omega))
        · refine r_aload hO d_H_comingNext_15 rfl ?_
          refine r_getR hO f_H_20 rfl hH.2.1 hH.2.2.2.2.1.1 d_H_comingNext_16 ?_
          refine r_iload hO d_H_comingNext_19 rfl ?_
          refine r_aald (t := 4) hO hH.2.2.2.2.1.2 (by decide) (by decide) (by omega) (by decide) (hH.2.2.2.2.2.2.2 _ (by omega)).1 d_H_comingNext_20 ?_
          refine r_getI hO f_H_61 rfl (hH.2.2.2.2.2.2.2 _ (by omega)).2 d_H_comingNext_21 ?_
          refine r_tops a1 ?_
          refine r_aload hO d_H_comingNext_24 rfl ?_
          refine r_getI hO f_H_28 rfl hH.2.1 d_H_comingNext_25 ?_
          refine r_tops hm2 ?_
          refine r_k hO d_H_comingNext_28 ?_
          refine r_iremN hO d_H_comingNext_30 (by omega) (by decide) (by decide) ?_
          refine r_isub hO d_H_comingNext_31 ?_
          refine r_k hO d_H_comingNext_32 ?_
          refine r_iadd hO d_H_comingNext_34 ?_
          refine r_tops (cd_unt (Nat.le_of_lt (Nat.mod_lt _ (by decide)))) ?_
          refine r_k hO d_H_comingNext_35 ?_
          refine r_iremN hO d_H_comingNext_37 (by omega) (by decide) (by decide) ?_
          refine r_sI4 hO d_H_comingNext_38 rfl ?_
          refine r_aload hO d_H_comingNext_40 rfl ?_
          refine r_getR hO f_H_20 rfl hH.2.1 hH.2.2.2.2.1.1 d_H_comingNext_41 ?_
          refine r_iload hO d_H_comingNext_44 rfl ?_
          refine r_aald (t := 4) hO hH.2.2.2.2.1.2 (by decide) (by decide) (by omega) (by decide) (hH.2.2.2.2.2.2.2 _ (by omega)).1 d_H_comingNext_45 ?_
          refine r_getI hO f_H_62 rfl (hH.2.2.2.2.2.2.2 _ (by omega)).2 d_H_comingNext_46 ?_
          rw [a2]
          refine r_if_le hO d_H_comingNext_49 (fun c_49 => ?_) (fun c_49 => ?_)
          · refine r_incN3 hO d_H_comingNext_79 rfl ?_
            refine r_goto hO d_H_comingNext_82 ?_
            exact ih (i + 1) s nx _ (by omega) (cd_ni_no hni (Or.inl hon))
          · exact absurd hon c_49
      · by_cases hlt : s < (q + 24 - hh % 24) % 24
        · skip
          refine r_iload hO d_H_comingNext_7 rfl ?_
          refine r_aload hO d_H_comingNext_8 rfl ?_
          refine r_getI hO f_H_24 rfl hH.2.1 d_H_comingNext_9 ?_
          refine r_tops hm1 ?_
          refine r_icmp_ge hO d_H_comingNext_12 (fun c_12 => ?_) (fun c_12 => ?_)
          · exact absurd c_12 (nI_ge (by omega) (by omega))
          · refine r_aload hO d_H_comingNext_15 rfl ?_
            refine r_getR hO f_H_20 rfl hH.2.1 hH.2.2.2.2.1.1 d_H_comingNext_16 ?_
            refine r_iload hO d_H_comingNext_19 rfl ?_
            refine r_aald (t := 4) hO hH.2.2.2.2.1.2 (by decide) (by decide) (by omega) (by decide) (hH.2.2.2.2.2.2.2 _ (by omega)).1 d_H_comingNext_20 ?_
            refine r_getI hO f_H_61 rfl (hH.2.2.2.2.2.2.2 _ (by omega)).2 d_H_comingNext_21 ?_
            refine r_tops a1 ?_
            refine r_aload hO d_H_comingNext_24 rfl ?_
            refine r_getI hO f_H_28 rfl hH.2.1 d_H_comingNext_25 ?_
            refine r_tops hm2 ?_
            refine r_k hO d_H_comingNext_28 ?_
            refine r_iremN hO d_H_comingNext_30 (by omega) (by decide) (by decide) ?_
            refine r_isub hO d_H_comingNext_31 ?_
            refine r_k hO d_H_comingNext_32 ?_
            refine r_iadd hO d_H_comingNext_34 ?_
            refine r_tops (cd_unt (Nat.le_of_lt (Nat.mod_lt _ (by decide)))) ?_
            refine r_k hO d_H_comingNext_35 ?_
            refine r_iremN hO d_H_comingNext_37 (by omega) (by decide) (by decide) ?_
            refine r_sI4 hO d_H_comingNext_38 rfl ?_
            refine r_aload hO d_H_comingNext_40 rfl ?_
            refine r_getR hO f_H_20 rfl hH.2.1 hH.2.2.2.2.1.1 d_H_comingNext_41 ?_
            refine r_iload hO d_H_comingNext_44 rfl ?_
            refine r_aald (t := 4) hO hH.2.2.2.2.1.2 (by decide) (by decide) (by omega) (by decide) (hH.2.2.2.2.2.2.2 _ (by omega)).1 d_H_comingNext_45 ?_
            refine r_getI hO f_H_62 rfl (hH.2.2.2.2.2.2.2 _ (by omega)).2 d_H_comingNext_46 ?_
            rw [a2]
            refine r_if_le hO d_H_comingNext_49 (fun c_49 => ?_) (fun c_49 => ?_)
            · exact absurd c_49 hon
            · refine r_iload hO d_H_comingNext_52 rfl ?_
              refine r_iload hO d_H_comingNext_54 rfl ?_
              refine r_icmp_gt hO d_H_comingNext_55 (fun c_55 => ?_) (fun c_55 => ?_)
              · refine r_incN3 hO d_H_comingNext_79 rfl ?_
                refine r_goto hO d_H_comingNext_82 ?_
                exact ih (i + 1) s nx _ (by omega) (cd_ni_no hni (Or.inr ⟨q, hq, hN, hlt⟩))
              · exact absurd (nI_lt (by omega) (by omega)) c_55
        · by_cases hlt2 : (q + 24 - hh % 24) % 24 < s
          · skip
            refine r_iload hO d_H_comingNext_7 rfl ?_
            refine r_aload hO d_H_comingNext_8 rfl ?_
            refine r_getI hO f_H_24 rfl hH.2.1 d_H_comingNext_9 ?_
            refine r_tops hm1 ?_
            refine r_icmp_ge hO d_H_comingNext_12 (fun c_12 => ?_) (fun c_12 => ?_)
            · exact absurd c_12 (nI_ge (by omega) (by omega))
            · refine r_aload hO d_H_comingNext_15 rfl ?_
              refine r_getR hO f_H_20 rfl hH.2.1 hH.2.2.2.2.1.1 d_H_comingNext_16 ?_
              refine r_iload hO d_H_comingNext_19 rfl ?_
              refine r_aald (t := 4) hO hH.2.2.2.2.1.2 (by decide) (by decide) (by omega) (by decide) (hH.2.2.2.2.2.2.2 _ (by omega)).1 d_H_comingNext_20 ?_
              refine r_getI hO f_H_61 rfl (hH.2.2.2.2.2.2.2 _ (by omega)).2 d_H_comingNext_21 ?_
              refine r_tops a1 ?_
              refine r_aload hO d_H_comingNext_24 rfl ?_
              refine r_getI hO f_H_28 rfl hH.2.1 d_H_comingNext_25 ?_
              refine r_tops hm2 ?_
              refine r_k hO d_H_comingNext_28 ?_
              refine r_iremN hO d_H_comingNext_30 (by omega) (by decide) (by decide) ?_
              refine r_isub hO d_H_comingNext_31 ?_
              refine r_k hO d_H_comingNext_32 ?_
              refine r_iadd hO d_H_comingNext_34 ?_
              refine r_tops (cd_unt (Nat.le_of_lt (Nat.mod_lt _ (by decide)))) ?_
              refine r_k hO d_H_comingNext_35 ?_
              refine r_iremN hO d_H_comingNext_37 (by omega) (by decide) (by decide) ?_
              refine r_sI4 hO d_H_comingNext_38 rfl ?_
              refine r_aload hO d_H_comingNext_40 rfl ?_
              refine r_getR hO f_H_20 rfl hH.2.1 hH.2.2.2.2.1.1 d_H_comingNext_41 ?_
              refine r_iload hO d_H_comingNext_44 rfl ?_
              refine r_aald (t := 4) hO hH.2.2.2.2.1.2 (by decide) (by decide) (by omega) (by decide) (hH.2.2.2.2.2.2.2 _ (by omega)).1 d_H_comingNext_45 ?_
              refine r_getI hO f_H_62 rfl (hH.2.2.2.2.2.2.2 _ (by omega)).2 d_H_comingNext_46 ?_
              rw [a2]
              refine r_if_le hO d_H_comingNext_49 (fun c_49 => ?_) (fun c_49 => ?_)
              · exact absurd c_49 hon
              · refine r_iload hO d_H_comingNext_52 rfl ?_
                refine r_iload hO d_H_comingNext_54 rfl ?_
                refine r_icmp_gt hO d_H_comingNext_55 (fun c_55 => ?_) (fun c_55 => ?_)
                · exact absurd c_55 (nI_nlt (by omega) (by omega))
                · refine r_iload hO d_H_comingNext_58 rfl ?_
                  refine r_iload hO d_H_comingNext_60 rfl ?_
                  refine r_icmp_ge hO d_H_comingNext_61 (fun c_61 => ?_) (fun c_61 => ?_)
                  · exact absurd c_61 (nI_ge (by omega) (by omega))
                  · refine r_k hO d_H_comingNext_64 ?_
                    refine r_iload hO d_H_comingNext_65 rfl ?_
                    refine r_ishl hO d_H_comingNext_66 ?_
                    refine r_goto hO d_H_comingNext_67 ?_
                    refine r_sI2 hO d_H_comingNext_75 rfl ?_
                    refine r_iload hO d_H_comingNext_76 rfl ?_
                    refine r_sI1 hO d_H_comingNext_78 rfl ?_
                    refine r_incN3 hO d_H_comingNext_79 rfl ?_
                    refine r_goto hO d_H_comingNext_82 ?_
                    exact ih (i + 1) _ _ _ (by omega) (cd_ni_lo hni hon hq hN hlt2)
          · have heq : (q + 24 - hh % 24) % 24 = s := by omega
            refine r_iload hO d_H_comingNext_7 rfl ?_
            refine r_aload hO d_H_comingNext_8 rfl ?_
            refine r_getI hO f_H_24 rfl hH.2.1 d_H_comingNext_9 ?_
            refine r_tops hm1 ?_
            refine r_icmp_ge hO d_H_comingNext_12 (fun c_12 => ?_) (fun c_12 => ?_)
            · exact absurd c_12 (nI_ge (by omega) (by omega))
            · refine r_aload hO d_H_comingNext_15 rfl ?_
              refine r_getR hO f_H_20 rfl hH.2.1 hH.2.2.2.2.1.1 d_H_comingNext_16 ?_
              refine r_iload hO d_H_comingNext_19 rfl ?_
              refine r_aald (t := 4) hO hH.2.2.2.2.1.2 (by decide) (by decide) (by omega) (by decide) (hH.2.2.2.2.2.2.2 _ (by omega)).1 d_H_comingNext_20 ?_
              refine r_getI hO f_H_61 rfl (hH.2.2.2.2.2.2.2 _ (by omega)).2 d_H_comingNext_21 ?_
              refine r_tops a1 ?_
              refine r_aload hO d_H_comingNext_24 rfl ?_
              refine r_getI hO f_H_28 rfl hH.2.1 d_H_comingNext_25 ?_
              refine r_tops hm2 ?_
              refine r_k hO d_H_comingNext_28 ?_
              refine r_iremN hO d_H_comingNext_30 (by omega) (by decide) (by decide) ?_
              refine r_isub hO d_H_comingNext_31 ?_
              refine r_k hO d_H_comingNext_32 ?_
              refine r_iadd hO d_H_comingNext_34 ?_
              refine r_tops (cd_unt (Nat.le_of_lt (Nat.mod_lt _ (by decide)))) ?_
              refine r_k hO d_H_comingNext_35 ?_
              refine r_iremN hO d_H_comingNext_37 (by omega) (by decide) (by decide) ?_
              refine r_sI4 hO d_H_comingNext_38 rfl ?_
              refine r_aload hO d_H_comingNext_40 rfl ?_
              refine r_getR hO f_H_20 rfl hH.2.1 hH.2.2.2.2.1.1 d_H_comingNext_41 ?_
              refine r_iload hO d_H_comingNext_44 rfl ?_
              refine r_aald (t := 4) hO hH.2.2.2.2.1.2 (by decide) (by decide) (by omega) (by decide) (hH.2.2.2.2.2.2.2 _ (by omega)).1 d_H_comingNext_45 ?_
              refine r_getI hO f_H_62 rfl (hH.2.2.2.2.2.2.2 _ (by omega)).2 d_H_comingNext_46 ?_
              rw [a2]
              refine r_if_le hO d_H_comingNext_49 (fun c_49 => ?_) (fun c_49 => ?_)
              · exact absurd c_49 hon
              · refine r_iload hO d_H_comingNext_52 rfl ?_
                refine r_iload hO d_H_comingNext_54 rfl ?_
                refine r_icmp_gt hO d_H_comingNext_55 (fun c_55 => ?_) (fun c_55 => ?_)
                · exact absurd c_55 (nI_nlt (by omega) (by omega))
                · refine r_iload hO d_H_comingNext_58 rfl ?_
                  refine r_iload hO d_H_comingNext_60 rfl ?_
                  refine r_icmp_ge hO d_H_comingNext_61 (fun c_61 => ?_) (fun c_61 => ?_)
                  · refine r_iload hO d_H_comingNext_70 rfl ?_
                    refine r_k hO d_H_comingNext_71 ?_
                    refine r_iload hO d_H_comingNext_72 rfl ?_
                    refine r_ishl hO d_H_comingNext_73 ?_
                    refine r_ior hO d_H_comingNext_74 ?_
                    refine r_sI2 hO d_H_comingNext_75 rfl ?_
                    refine r_iload hO d_H_comingNext_76 rfl ?_
                    refine r_sI1 hO d_H_comingNext_78 rfl ?_
                    refine r_incN3 hO d_H_comingNext_79 rfl ?_
                    refine r_goto hO d_H_comingNext_82 ?_
                    exact ih (i + 1) _ _ _ (by omega) (by rw [heq]; exact cd_ni_eq hni hon hq hN heq)
                  · exact absurd (nI_le (by omega) (by omega)) c_61
  refine r_k hO d_H_comingNext_0 ?_
  refine r_sI1 hO d_H_comingNext_2 rfl ?_
  refine r_k hO d_H_comingNext_3 ?_
  refine r_sI2 hO d_H_comingNext_4 rfl ?_
  refine r_k hO d_H_comingNext_5 ?_
  refine r_sI3 hO d_H_comingNext_6 rfl ?_
  exact loop mm 0 24 _ _ (by omega) (cd_ni_0 _ _)
