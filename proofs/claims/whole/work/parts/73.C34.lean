theorem px_res_ok {B : Nat → Nat} {L : Nat} (hL : L ≤ 96) (h : (px_res B L).1 = true) : (px_res B L).2.2.1 ≤ 2 ∧ 1 ≤ (px_res B L).2.2.2.length ∧ (px_res B L).2.2.2.length ≤ 96 ∧ ∀ d, px_rp (cd_nb (px_res B L).2.2.1) (px_res B L).2.2.2 d = some (d + 1) := by
  obtain ⟨t0, ht0⟩ : ∃ t0, px_tk B L False 0 = t0 := ⟨_, rfl⟩
  have b2 : px_TO B L t0 := by rw [← ht0]; exact (px_tk_ok B False (Nat.zero_le _)).1
  by_cases h3 : px_ky B t0 = 3
  · rw [px_res_3 ht0 h3] at h
    cases h
  · have hk3 : px_ky B t0 < 3 := by
      unfold px_ky at h3 ⊢
      revert h3
      repeat' split
      all_goals simp
    obtain ⟨r, hr⟩ : ∃ r, r = px_rdt B L (px_ky B t0) 800 0 0 0 (px_adv B L t0) := ⟨_, rfl⟩
    have hrd := rd_ok (B := B) (L := L) (ky := px_ky B t0) 800 0 0 0 _ (px_adv_ok b2).1 (Or.inl (by decide))
    rw [← hr] at hrd
    by_cases h2 : r.1 = true ∧ r.2.1.2.1 = 0
    · rw [px_res_y ht0 hk3 hr h2]
      obtain ⟨c1, c2, -⟩ := hrd.2 h2.1
      have c3 := (c2 (by decide)).2
      have c4 := hrd.1.1
      refine ⟨by show px_ky B t0 ≤ 2; omega, ?_, by show r.2.2.length ≤ 96; omega, c3⟩
      show 1 ≤ r.2.2.length
      rcases Nat.eq_zero_or_pos r.2.2.length with q | q
      · have := c3 0
        rw [List.length_eq_zero_iff.mp q] at this
        exact absurd (Option.some.inj (show some 0 = some 1 from this)) (by decide)
      · exact q
    · rw [px_res_n ht0 hk3 hr h2] at h
      cases h
/-- shapes and memory grow at the end -/
theorem cd_XO.gr {w : cd_WT} {S S' : cd_Sp} {x cx sx n v : Nat} (H : cd_XO w S x cx sx n v) (hz : ∀ b, w.1 + S.1 ≤ b → (S.2.1 b).1 = 0) (z : Nat) (hs : ∀ b, b < w.1 + S.1 → S'.2.1 b = S.2.1 b ∧ (b ≠ z → S'.2.2 b = S.2.2 b)) (hxz : x ≠ z) : cd_XO w S' x cx sx n v ∧ x < w.1 + S.1 ∧ cx < w.1 + S.1 := by
  obtain ⟨a1, a2, a3, a4, a5, a6, a7, a8⟩ := H
  have l1 : x < w.1 + S.1 := by
    rcases Nat.lt_or_ge x (w.1 + S.1) with q | q
    · exact q
    · have := hz x q; rw [a1] at this; exact absurd (show 1 = 0 from this) (by decide)
  have l2 : cx < w.1 + S.1 := by
    rcases Nat.lt_or_ge cx (w.1 + S.1) with q | q
    · exact q
    · have := hz cx q; rw [a4] at this; exact absurd (show 2 = 0 from this) (by decide)
  have l3 : sx < w.1 + S.1 := by
    rcases Nat.lt_or_ge sx (w.1 + S.1) with q | q
    · exact q
    · have := hz sx q; rw [a5] at this; exact absurd (show 2 = 0 from this) (by decide)
  refine ⟨?_, l1, l2⟩
  unfold cd_XO
  rw [(hs x l1).1, (hs x l1).2 hxz, (hs cx l2).1, (hs sx l3).1]
  exact ⟨a1, a2, a3, a4, a5, a6, a7, a8⟩
theorem cd_HO.gr {w : cd_WT} {S S' : cd_Sp} {g : Nat} (H : cd_HO w S g) (z : Nat) (hs : ∀ b, b < w.1 + S.1 → S'.2.1 b = S.2.1 b ∧ (b ≠ z → S'.2.2 b = S.2.2 b)) (hz : z ≠ g ∧ z ≠ g + 3) (hg : g + 18 ≤ w.1 + 112) (h9 : 112 ≤ S.1) : cd_HO w S' g := by
  obtain ⟨a1, a2, a3, a4, a5, a6, a7, a8⟩ := H
  unfold cd_HO
  rw [(hs g (by omega)).1, (hs g (by omega)).2 (by omega), (hs (g + 1) (by omega)).1, (hs (g + 2) (by omega)).1, (hs (g + 3) (by omega)).1, (hs (g + 4) (by omega)).1, (hs (g + 5) (by omega)).1, (hs (g + 3) (by omega)).2 (by omega)]
  exact ⟨a1, a2, a3, a4, a5, a6, a7, fun i hi => by rw [(hs (g + 6 + i) (by omega)).1]; exact a8 i hi⟩
theorem cd_HG.gr {w : cd_WT} {S S' : cd_Sp} {I I' : cd_Mem} {g mm tc : Nat} {N : Nat → Int32} (H : cd_HG w S I g N mm tc) (hz : ∀ b, w.1 + S.1 ≤ b → (S.2.1 b).1 = 0) (z : Nat) (hs : ∀ b, b < w.1 + S.1 → S'.2.1 b = S.2.1 b ∧ (b ≠ z → S'.2.2 b = S.2.2 b)) (hzg : (z < g ∨ g + 18 ≤ z) ∧ z < w.1 + 112) (h9 : 112 ≤ S.1) (hm : ∀ b, b < w.1 + S.1 → (g ≤ b ∧ b < g + 18) ∨ w.1 + 112 ≤ b → I' b = I b) : cd_HG w S' I' g N mm tc := by
  obtain ⟨a1, a2, a3, a4, a5⟩ := H
  have hmm := a3.2.1
  refine ⟨a1.gr z hs (by omega) a2 h9, a2, a3, a4, fun j hj => ?_, fun t ht => ?_, fun k hk => ?_⟩
  · have hin := cd_lx_in (h := g) (j := j) (by omega)
    unfold cd_vw
    rw [hm _ (by omega) (by omega)]
    exact a5.1 j hj
  · obtain ⟨q, q1, n, v, x1, x2, x3, x4, x5, x6, x7, x8, x9⟩ := a5.2.1 t ht
    obtain ⟨y1, y2, y3⟩ := x1.gr hz z hs (by omega)
    exact ⟨q, by rw [(hs (g + 4) (by omega)).2 (by omega)]; exact q1, n, v, y1, x2, x3, x4, x5, by rw [hm _ y2 (by omega)]; exact x6, by rw [hm _ y2 (by omega)]; exact x7, by rw [hm _ y3 (by omega)]; exact x8, x9⟩
  · rw [hm _ (by omega) (by omega)]
    exact a5.2.2 k hk
theorem cd_CD.gr {w : cd_WT} {S S1 : cd_Sp} (h : cd_CD w S) (z : Nat) (hs : ∀ b, b < w.1 + S.1 → S1.2.1 b = S.2.1 b ∧ (b ≠ z → S1.2.2 b = S.2.2 b)) (hz : z = w.1 + 5 ∨ z = w.1 + 60) (h9 : 112 ≤ S.1) : cd_CD w S1 := by
  obtain ⟨h0, h1, h2, h3, h4, h5, h6, h7, h8, h9', h10, h11, h12, h13, h14, h15, h16, h17, h18⟩ := h
  unfold cd_CD cd_SH
  rw [(hs w.1 (by omega)).1, (hs w.1 (by omega)).2 (by omega), (hs (w.1 + 55) (by omega)).1, (hs (w.1 + 55) (by omega)).2 (by omega), (hs (w.1 + 56) (by omega)).1, (hs (w.1 + 57) (by omega)).1, (hs (w.1 + 58) (by omega)).1, (hs (w.1 + 58) (by omega)).2 (by omega), (hs (w.1 + 59) (by omega)).1, (hs (w.1 + 59) (by omega)).2 (by omega), (hs (w.1 + 60) (by omega)).1, (hs (w.1 + 61) (by omega)).1]
  refine ⟨h0, h1, h2, h3, h4, h5, h6, h7, h8, h9'.gr z hs (by omega) (by omega) h9, h10.gr z hs (by omega) (by omega) h9, h11.gr z hs (by omega) (by omega) h9, h12, h13, h14, h15, h16, fun i hi => ?_, fun j hj => ?_⟩
  · rw [(hs (w.1 + 62 + 2 * i) (by omega)).1, (hs (w.1 + 62 + 2 * i) (by omega)).2 (by omega), (hs (w.1 + 62 + 2 * i + 1) (by omega)).1]
    exact h17 i hi
  · rw [(hs (w.1 + 70 + 4 * j) (by omega)).1, (hs (w.1 + 70 + 4 * j) (by omega)).2 (by omega), (hs (w.1 + 71 + 4 * j) (by omega)).1, (hs (w.1 + 72 + 4 * j) (by omega)).1, (hs (w.1 + 72 + 4 * j) (by omega)).2 (by omega), (hs (w.1 + 72 + 4 * j + 1) (by omega)).1]
    exact h18 j hj
/-- what a text may change -/
def px_gr (w : cd_WT) (S S' : cd_Sp) (I I' : cd_Mem) : Prop := (∀ b, b < w.1 + S.1 → S'.2.1 b = S.2.1 b ∧ (b ≠ w.1 + 5 → S'.2.2 b = S.2.2 b)) ∧ (∀ b, w.1 + S'.1 ≤ b → S'.2.1 b = S.2.1 b) ∧ ∀ b, b < w.1 + S.1 → ¬ (w.1 + 1 ≤ b ∧ b < w.1 + 19) → b ≠ w.1 + 55 → b ≠ w.1 + 57 → I' b = I b
theorem d_C_text_0 : cd_D_aload b_C_text 0 0 1 := Or.inr ⟨0, ⟨by decide +kernel, rfl⟩, rfl⟩
theorem d_C_text_1 : cd_D 3 b_C_text 1 (.getfield 29) 4 := ⟨by decide +kernel, rfl⟩
theorem d_C_text_4 : cd_D 3 b_C_text 4 (.invokevirtual 208) 7 := ⟨by decide +kernel, rfl⟩
theorem d_C_text_7 : cd_D_astore b_C_text 7 1 8 := Or.inr ⟨1, ⟨by decide +kernel, rfl⟩, rfl⟩
theorem d_C_text_8 : cd_D_aload b_C_text 8 0 9 := Or.inr ⟨0, ⟨by decide +kernel, rfl⟩, rfl⟩
theorem d_C_text_9 : cd_D 3 b_C_text 9 (.getfield 29) 12 := ⟨by decide +kernel, rfl⟩
theorem d_C_text_12 : cd_Dk b_C_text 12 (nI 0) 13 := Or.inl ⟨0, ⟨by decide +kernel, rfl⟩, by decide +kernel⟩
theorem d_C_text_13 : cd_D 3 b_C_text 13 (.putfield 202) 16 := ⟨by decide +kernel, rfl⟩
theorem d_C_text_16 : cd_D_aload b_C_text 16 1 17 := Or.inr ⟨1, ⟨by decide +kernel, rfl⟩, rfl⟩
theorem d_C_text_17 : cd_D_ifnn b_C_text 17 31 20 := ⟨14, by decide +kernel, by decide, rfl⟩
theorem d_C_text_20 : cd_Dk b_C_text 20 (-100) 22 := Or.inr (Or.inl ⟨-100, ⟨by decide +kernel, rfl⟩, by decide +kernel⟩)
theorem d_C_text_22 : cd_D_aload b_C_text 22 0 23 := Or.inr ⟨0, ⟨by decide +kernel, rfl⟩, rfl⟩
theorem d_C_text_23 : cd_D 3 b_C_text 23 (.getfield 29) 26 := ⟨by decide +kernel, rfl⟩
theorem d_C_text_26 : cd_D 3 b_C_text 26 (.getfield 212) 29 := ⟨by decide +kernel, rfl⟩
theorem d_C_text_29 : cd_D 1 b_C_text 29 .isub 30 := ⟨by decide +kernel, rfl⟩
theorem d_C_text_30 : cd_D 1 b_C_text 30 .ireturn 31 := ⟨by decide +kernel, rfl⟩
theorem d_C_text_31 : cd_D_aload b_C_text 31 0 32 := Or.inr ⟨0, ⟨by decide +kernel, rfl⟩, rfl⟩
theorem d_C_text_32 : cd_D 3 b_C_text 32 (.getfield 10) 35 := ⟨by decide +kernel, rfl⟩
theorem d_C_text_35 : cd_D 3 b_C_text 35 (.getfield 215) 38 := ⟨by decide +kernel, rfl⟩
theorem d_C_text_38 : cd_Dk b_C_text 38 (nI 14) 40 := Or.inr (Or.inl ⟨14, ⟨by decide +kernel, rfl⟩, by decide +kernel⟩)
theorem d_C_text_40 : cd_D_icmp_lt b_C_text 40 48 43 := ⟨8, by decide +kernel, by decide, rfl⟩
theorem d_C_text_43 : cd_D 2 b_C_text 43 (.ldc 66) 45 := ⟨by decide +kernel, rfl⟩
theorem d_C_text_45 : cd_D_goto b_C_text 45 56 := ⟨11, by decide +kernel, by decide⟩
theorem d_C_text_48 : cd_D_aload b_C_text 48 0 49 := Or.inr ⟨0, ⟨by decide +kernel, rfl⟩, rfl⟩
theorem d_C_text_49 : cd_D 3 b_C_text 49 (.getfield 10) 52 := ⟨by decide +kernel, rfl⟩
theorem d_C_text_52 : cd_D_aload b_C_text 52 1 53 := Or.inr ⟨1, ⟨by decide +kernel, rfl⟩, rfl⟩
theorem d_C_text_53 : cd_D 3 b_C_text 53 (.invokevirtual 218) 56 := ⟨by decide +kernel, rfl⟩
theorem d_C_text_56 : cd_D 1 b_C_text 56 .ireturn 57 := ⟨by decide +kernel, rfl⟩
theorem c_C_text {l : Launch} {w : cd_WT} {S : cd_Sp} {I : cd_Mem} (hC : cd_CD w S) {mm tc : Nat} {N : Nat → Int32} (hG : cd_HG w S I (w.1 + 1) N mm tc) {B : Nat → Nat} {L Q : Nat} (hB : px_CP I w B L) (hS : S.1 = 112 + 3 * Q) (hz : ∀ b, w.1 + S.1 ≤ b → (S.2.1 b).1 = 0) : cd_C l w m_C_text 82 3 196 [.ref w.1] S I (fun r S' I' => r = some (.int (sp_text N tc B L).1) ∧ (∃ tc', cd_HG w S' I' (w.1 + 1) (sp_text N tc B L).2 mm tc') ∧ I' (w.1 + 55) 0 = nI 0 ∧ (∃ Q', S'.1 = 112 + 3 * Q' ∧ Q ≤ Q' ∧ Q' ≤ Q + 1) ∧ px_gr w S S' I I') := by
  refine cd_intro (by decide) (by simp [Value.category]) (Nat.le_of_ble_eq_true rfl) ?_
  intro X hO hE
  show cd_J w X 0 0 S I 0 [some (.ref w.1), none] []
  obtain ⟨hH, hhd, hV, hIV, hR⟩ := id hG
  have hmm := hV.2.1
  have htc := hV.2.2.2.1
  have hT : cd_HO w S (w.1 + 19) := hC.2.2.2.2.2.2.2.2.2.2.1
  have hI : cd_HO w S (w.1 + 37) := hC.2.2.2.2.2.2.2.2.2.2.2.1
  have hL9 := hB.2.1
  refine r_aload hO d_C_text_0 rfl ?_
  refine r_getR hO f_C_29 rfl hC.1 hC.2.2.2.2.1 d_C_text_1 ?_
  refine cd_callV (rest := []) hO hE.1 (c_T_readsText hC hB (by omega)) mf_T_readsText lk_C_208 hC.2.2.2.2.2.2.2.2.2.2.2.2.1.1 rfl (by decide) rfl rfl rfl (Nat.le_of_ble_eq_true rfl) d_C_text_4 ⟨by omega, by omega⟩ ?_
  rintro r S1 I1 h1
  rcases h1 with ⟨q1, rfl, rfl, q4, q5⟩ | ⟨q1, rfl, q3, q4, q5, q6, q7, q8, q9⟩
  · show cd_J w X 3 196 S1 I1 7 [some (.ref w.1), none] [.null]
    refine r_sAN1 hO d_C_text_7 rfl ?_
    refine r_aload hO d_C_text_8 rfl ?_
    refine r_getR hO f_C_29 rfl hC.1 hC.2.2.2.2.1 d_C_text_9 ?_
    refine r_k hO d_C_text_12 ?_
    refine r_putI hO f_C_202 rfl hC.2.2.2.2.2.2.2.2.2.2.2.2.1.1 (Nat.le_add_right _ _) d_C_text_13 ?_
    refine r_aloadN hO d_C_text_16 rfl ?_
    refine r_ifnnN hO d_C_text_17 ?_
    refine r_k hO d_C_text_20 ?_
    refine r_aload hO d_C_text_22 rfl ?_
    refine r_getR hO f_C_29 rfl hC.1 hC.2.2.2.2.1 d_C_text_23 ?_
    try simp (disch := omega) only [cd_set_eq, cd_set_ne, cd_set_set]
    refine r_getI hO f_C_212 rfl hC.2.2.2.2.2.2.2.2.2.2.2.2.1.1 d_C_text_26 ?_
    try simp (disch := omega) only [cd_set_eq, cd_set_ne, cd_set_set]
    refine r_tops (show _ = nI (px_res B L).2.1 from q4) ?_
    refine r_isub hO d_C_text_29 ?_
    refine r_iret hO hE (by omega) (by omega) d_C_text_30 ?_
    refine ⟨by unfold sp_text; rw [if_neg (by rw [q1]; decide)], ⟨tc, ?_⟩, by rw [cd_set_eq]; rfl, ⟨Q, hS, Nat.le_refl _, by omega⟩, fun b hb => ⟨rfl, fun _ => rfl⟩, fun b hb => rfl, fun b hb b1 b2 b3 => ?_⟩
    · unfold sp_text
      rw [if_neg (by rw [q1]; decide)]
      refine hG.off (fun b h1 h2 => ?_) (fun b h1 => ?_)
      · rw [cd_set_ne _ _ (by omega)]; exact q5 b (by simp; omega)
      · rw [cd_set_ne _ _ (by omega)]; exact q5 b (by simp; omega)
    · rw [cd_set_ne _ _ b2]; exact q5 b (by simp; omega)
  · show cd_J w X 3 196 S1 I1 7 [some (.ref w.1), none] [.ref (w.1 + S.1 + 1)]
    have ea : w.1 + S.1 = w.1 + 112 + 3 * Q := by omega
    obtain ⟨k1, k2, k3, k4⟩ := px_res_ok hL9 q1
    have hsA : ∀ b, b < w.1 + S.1 → S1.2.1 b = S.2.1 b ∧ (b ≠ w.1 + 60 → S1.2.2 b = S.2.2 b) := fun b hb => ⟨(q4 b (Or.inl hb)).1, fun _ => (q4 b (Or.inl hb)).2⟩
    have hC1 : cd_CD w S1 := hC.gr (w.1 + 60) hsA (Or.inr rfl) (by omega)
    have hG1 : cd_HG w S1 (cd_set I1 (w.1 + 55) (upd (I1 (w.1 + 55)) 0 (nI 0))) (w.1 + 1) N mm tc := (hG.gr hz (w.1 + 60) hsA (by omega) (by omega) (fun b hb hb2 => q9 b (Or.inl hb) (by omega) (by omega))).off (fun b _ _ => cd_set_ne _ _ (by omega)) (fun b _ => cd_set_ne _ _ (by omega))
    have hmem : ∀ b, b < w.1 + S.1 → b ≠ w.1 + 55 → b ≠ w.1 + 57 → cd_set I1 (w.1 + 55) (upd (I1 (w.1 + 55)) 0 (nI 0)) b = I b := fun b hb b1 b2 => by rw [cd_set_ne _ _ b1]; exact q9 b (Or.inl hb) b1 b2
    rw [ea] at q5 q6 q7 q8
    have h15 : cd_set I1 (w.1 + 55) (upd (I1 (w.1 + 55)) 0 (nI 0)) (w.1 + 1) 7 = nI tc := (hG1.2.2.2.2.at 15 (by omega) rfl rfl).trans hV.2.2.1
    rw [cd_set_ne _ _ (by omega)] at h15
    refine r_sA1 hO d_C_text_7 rfl ?_
    refine r_aload hO d_C_text_8 rfl ?_
    refine r_getR hO f_C_29 rfl hC1.1 hC1.2.2.2.2.1 d_C_text_9 ?_
    refine r_k hO d_C_text_12 ?_
    refine r_putI hO f_C_202 rfl hC1.2.2.2.2.2.2.2.2.2.2.2.2.1.1 (Nat.le_add_right _ _) d_C_text_13 ?_
    refine r_aload hO d_C_text_16 rfl ?_
    refine r_ifnn hO d_C_text_17 ?_
    refine r_aload hO d_C_text_31 rfl ?_
    refine r_getR hO f_C_10 rfl hC1.1 hC1.2.1 d_C_text_32 ?_
    try simp (disch := omega) only [cd_set_eq, cd_set_ne, cd_set_set]
    refine r_getI hO f_C_215 rfl hG1.1.2.1 d_C_text_35 ?_
    try simp (disch := omega) only [cd_set_eq, cd_set_ne, cd_set_set]
    rw [h15]
    refine r_k hO d_C_text_38 ?_
    refine r_icmp_lt hO d_C_text_40 (fun c_40 => ?_) (fun c_40 => ?_)
    · rw [nI_ltI (by omega) (by omega)] at c_40
      refine r_aload hO d_C_text_48 rfl ?_
      refine r_getR hO f_C_10 rfl hC1.1 hC1.2.1 d_C_text_49 ?_
      try simp (disch := omega) only [cd_set_eq, cd_set_ne, cd_set_set]
      refine r_aload hO d_C_text_52 rfl ?_
      refine cd_callV (rest := []) hO hE.1 (c_H_addsText hG1 (by omega) q5 k2 k3 k1 (by rw [cd_set_ne _ _ (by omega)]; exact q7) (by rw [cd_set_ne _ _ (by omega)]; exact q8) (by rw [cd_set_ne _ _ (by omega)]; exact q6) k4) mf_H_addsText lk_C_218 hG1.1.2.1 rfl (by decide) rfl rfl (by rw [ea]; rfl) (Nat.le_of_ble_eq_true rfl) d_C_text_53 ⟨by omega, by omega⟩ ?_
      rintro r S2 I2 ⟨rfl, s1, s2, s3⟩
      show cd_J w X 3 196 S2 I2 56 [some (.ref w.1), some (.ref (w.1 + S.1 + 1))] [.int (nI tc)]
      try simp (disch := omega) only [cd_set_eq, cd_set_ne, cd_set_set]
      refine r_iret hO hE (by omega) (by omega) d_C_text_56 ?_
      refine ⟨by unfold sp_text; rw [if_pos q1, if_neg (by omega)], ⟨tc + 1, by unfold sp_text; rw [if_pos q1, if_neg (by omega)]; exact s2⟩, ?_, ⟨Q + 1, by rw [s1.1]; omega, by omega, Nat.le_refl _⟩, fun b hb => ⟨by rw [s1.2.1]; exact (hsA b hb).1, fun h => (s1.2.2 b h).trans (q4 b (Or.inl hb)).2⟩, fun b hb => ?_, fun b hb b0 b1 b2 => (s3 b (by omega)).trans (hmem b hb b1 b2)⟩
      · rw [s3 (w.1 + 55) (by omega), cd_set_eq]; rfl
      · rw [s1.2.1]
        rw [s1.1] at hb
        exact (q4 b (Or.inr (by omega))).1
    · rw [nI_ltI (by omega) (by omega)] at c_40
      refine r_ldc hO k_C_66 d_C_text_43 ?_
      refine r_goto hO d_C_text_45 ?_
      refine r_iret hO hE (by omega) (by omega) d_C_text_56 ?_
      refine ⟨by unfold sp_text; rw [if_pos q1, if_pos (by omega)], ⟨tc, by unfold sp_text; rw [if_pos q1, if_pos (by omega)]; exact hG1⟩, by rw [cd_set_eq]; rfl, ⟨Q + 1, by omega, by omega, Nat.le_refl _⟩, fun b hb => ⟨(hsA b hb).1, fun h => (q4 b (Or.inl hb)).2⟩, fun b hb => (q4 b (Or.inr (by omega))).1, fun b hb _ b1 b2 => hmem b hb b1 b2⟩
