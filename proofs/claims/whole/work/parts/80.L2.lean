/-- the hour stays within its bound, and the risings within theirs -/
def px_HB (N : Nat → Int32) (c : Nat) : Prop := ∃ hh rr, N 2 = nI hh ∧ hh ≤ 9999 ∧ N 10 = nI rr ∧ rr ≤ 1300 * c
theorem px_HB.of {N N' : Nat → Int32} {c k : Nat} (H : px_HB N c) (h2 : N' 2 = N 2) (hk : k ≤ 1300) (h10 : N' 10 = N 10 + nI k) : px_HB N' (c + 1) := by
  obtain ⟨hh, rr, a1, a2, a3, a4⟩ := H
  exact ⟨hh, rr + k, h2.trans a1, a2, by rw [h10, a3, nI_add], by omega⟩
theorem px_HB.sm {N N' : Nat → Int32} {c : Nat} (H : px_HB N c) (h2 : N' 2 = N 2) (h10 : N' 10 = N 10) : px_HB N' (c + 1) := H.of h2 (Nat.zero_le 1300) (h10.trans (cd_p0 _))
theorem px_u2 (N : Nat → Int32) (v : Int32) {j : Nat} (h : 2 ≠ j) : upd N j v 2 = N 2 := if_neg h
theorem px_HB.up {N : Nat → Int32} {c j : Nat} {v : Int32} (H : px_HB N c) (h2 : 2 ≠ j) (h10 : 10 ≠ j) : px_HB (upd N j v) (c + 1) := H.sm (px_u2 _ _ h2) (cd_10_a _ _ h10)
theorem px_2_go (N : Nat → Int32) : cd_go N 2 = N 2 := by
  unfold cd_go
  split
  · rw [px_u2 _ _ (by omega), px_u2 _ _ (by omega)]
  · rw [px_u2 _ _ (by omega), px_u2 _ _ (by omega)]
theorem px_2_dr (N : Nat → Int32) : cd_dr N 2 = N 2 := by
  unfold cd_dr upd
  exact if_neg (by decide)
theorem px_2_gm (N : Nat → Int32) (i : Nat) : (cd_gm N i).2 2 = N 2 :=
  (cd_gm_2 N i).elim (fun h => (congrFun h 2).trans (px_2_dr N)) (fun h => (congrFun h 2).trans ((px_2_go _).trans (px_2_dr N)))
theorem px_2_le (N : Nat → Int32) (i : Nat) : cd_le N i 2 = N 2 := by
  unfold cd_le cd_le1
  rw [px_u2 _ _ (by omega), px_u2 _ _ (by omega)]
theorem px_2_ri (N : Nat → Int32) (i : Nat) : (cd_ri N i).2 2 = N 2 := by
  rw [cd_ri_2, px_2_gm, px_2_le, px_u2 _ _ (by omega)]
theorem px_2_ak (N : Nat → Int32) (i tc : Nat) : cd_ak N i tc 2 = N 2 := by
  unfold cd_ak
  split
  · exact px_2_gm N i
  · split
    · rw [px_u2 _ _ (by omega), px_u2 _ _ (by omega)]
    · exact px_2_ri N i
theorem px_2_one (N : Nat → Int32) (i tc : Nat) : cd_one N i tc 2 = N 2 := by
  unfold cd_one
  split
  · split
    · exact px_2_dr N
    · rw [px_2_ak, px_2_dr]
  · rfl
theorem px_2_lp (N : Nat → Int32) (tc : Nat) : ∀ i, cd_lp N tc i 2 = N 2
  | 0 => rfl
  | i + 1 => by
    show cd_one (cd_lp N tc i) i tc 2 = _
    rw [px_2_one, px_2_lp N tc i]
theorem px_2_hr (N : Nat → Int32) (mm tc : Nat) : cd_hr N mm tc 2 = N 2 + nI 1 := by
  unfold cd_hr cd_ed
  show (if 2 = 2 then _ else _) = _
  rw [if_pos rfl, px_u2 _ _ (by omega), px_2_lp]
  unfold cd_w2 cd_w1
  rw [px_u2 _ _ (by omega), px_2_dr, px_u2 _ _ (by omega), px_2_dr]
theorem px_2_hs (N : Nat → Int32) (mm tc : Nat) : ∀ n, cd_hs N mm tc n 2 = N 2 + nI n
  | 0 => cd_p0 _
  | n + 1 => by
    show cd_hr (cd_hs N mm tc n) mm tc 2 = _
    rw [px_2_hr, px_2_hs N mm tc n, Int32.add_assoc, nI_add]
theorem px_2_co (N : Nat → Int32) (mm : Nat) (k h b e : Int32) : cd_comes N mm k h b e 2 = N 2 ∧ cd_comes N mm k h b e 10 = N 10 := by
  unfold cd_comes
  constructor
  · rw [px_u2 _ _ (by omega), px_u2 _ _ (by omega), px_u2 _ _ (by omega), px_u2 _ _ (by omega), px_u2 _ _ (by omega), px_u2 _ _ (by omega)]
  · rw [cd_10_a _ _ (by omega), cd_10_a _ _ (by omega), cd_10_a _ _ (by omega), cd_10_a _ _ (by omega), cd_10_a _ _ (by omega), cd_10_a _ _ (by omega)]
theorem px_2_dl (N : Nat → Int32) (mm : Nat) : ∀ c, cd_dl N mm c 2 = N 2 ∧ cd_dl N mm c 10 = N 10
  | 0 => ⟨rfl, rfl⟩
  | c + 1 => by
    obtain ⟨h1, h2⟩ := px_2_dl N mm c
    show cd_d1 (cd_dl N mm c) (mm + c) 2 = _ ∧ cd_d1 (cd_dl N mm c) (mm + c) 10 = _
    unfold cd_d1
    rw [(px_2_co _ _ _ _ _ _).1, (px_2_co _ _ _ _ _ _).2]
    simp only [px_2_dr, cd_10_dr]
    exact ⟨h1, h2⟩
theorem px_2_po (N ce : Nat → Int32) (s : Nat) : ∀ a, (cd_po N ce s a).2 2 = N 2 ∧ (cd_po N ce s a).2 10 = N 10
  | 0 => ⟨rfl, rfl⟩
  | a + 1 => by
    obtain ⟨h1, h2⟩ := px_2_po N ce s a
    unfold cd_po
    exact ⟨(px_u2 _ _ (by omega)).trans h1, (cd_10_a _ _ (by omega)).trans h2⟩
theorem px_HB.mo {N : Nat → Int32} {c : Nat} (H : px_HB N c) : px_HB N (c + 1) := H.sm rfl rfl
theorem px_HB.asking {N : Nat → Int32} {c : Nat} (H : px_HB N c) (mm : Nat) (k h b e : Int32) : px_HB (sp_asking N mm k h b e).2 (c + 1) := by
  unfold sp_asking
  (repeat' split) <;> first | exact H.mo | exact H.sm (px_2_co N mm k h b e).1 (px_2_co N mm k h b e).2
theorem px_HB.turns {N : Nat → Int32} {c : Nat} (H : px_HB N c) (a k : Int32) : px_HB (sp_turns N a k).2 (c + 1) := by
  unfold sp_turns
  (repeat' split) <;> first | exact H.mo | exact H.up (by omega) (by omega)
theorem px_HB.set {N : Nat → Int32} {c : Nat} (H : px_HB N c) (a q v : Int32) : px_HB (sp_set N a q v).2 (c + 1) := by
  unfold sp_set
  (repeat' split) <;> first | exact H.mo | exact H.up (by omega) (by omega)
theorem px_tn_le {q : Int32} {k : Nat} (h0 : nI 0 ≤ q) (h : q ≤ nI k) (hk : k < 2 ^ 31) : cd_tn q ≤ k := by
  rw [Int32.le_iff_toInt_le] at h h0
  rw [nI_toInt (by omega)] at h h0
  unfold cd_tn
  rw [← Int32.toNat_toInt]
  omega
theorem px_HB.rule {N : Nat → Int32} {c : Nat} (H : px_HB N c) (q v : Int32) : px_HB (sp_rule N q v).2 (c + 1) := by
  unfold sp_rule
  split
  · have := px_tn_le (k := 6) (by rename_i h; exact h.1) (by rename_i h; exact h.2) (by decide)
    split
    · exact H.up (by omega) (by omega)
    · exact H.mo
  · exact H.mo
theorem px_HB.opens {N : Nat → Int32} {c : Nat} (H : px_HB N c) (a : Int32) : px_HB (sp_opens N a).2 (c + 1) := by
  unfold sp_opens
  split
  · exact H.of (px_2_ri _ _) (show 1 ≤ 1300 by decide) (cd_10_ri _ _)
  · exact H.mo
theorem px_HB.deal {N : Nat → Int32} {c : Nat} (H : px_HB N c) (mm : Nat) (n : Int32) : px_HB (sp_deal N mm n).2 (c + 1) := by
  unfold sp_deal
  split
  · exact H.sm (px_2_dl _ _ _).1 (px_2_dl _ _ _).2
  · exact H.mo
theorem px_HB.pour {N : Nat → Int32} {c : Nat} (H : px_HB N c) (so sz ce : Nat → Int32) (mm : Nat) (s : Int32) : px_HB (sp_pour N so sz ce mm s).2 (c + 1) := by
  unfold sp_pour
  (repeat' split) <;> first | exact H.mo | exact H.sm (px_2_po _ _ _ _).1 (px_2_po _ _ _ _).2
theorem px_HB.hours {N : Nat → Int32} {c hh : Nat} (H : px_HB N c) (mm tc : Nat) (hm : mm ≤ 12) (h2 : N 2 = nI hh) (h9 : hh ≤ 9999) (n : Int32) : px_HB (sp_hours N mm tc hh n).2 (c + 1) := by
  unfold sp_hours
  split
  · have hn := px_tn_le (k := 100) (q := n) (by rename_i h; exact Int32.le_trans (show nI 0 ≤ nI 1 by decide) h.1) (by rename_i h; exact h.2) (by decide)
    obtain ⟨-, rr, -, -, a3, a4⟩ := H
    obtain ⟨k, k1, k2⟩ := cd_10_hs N mm tc (min (9999 - hh) (cd_tn n))
    have k3 : mm * min (9999 - hh) (cd_tn n) ≤ 12 * 100 := Nat.mul_le_mul hm (by omega)
    refine ⟨hh + min (9999 - hh) (cd_tn n), rr + k, ?_, by omega, ?_, by omega⟩
    · show cd_hs N mm tc _ 2 = _
      rw [px_2_hs, h2, nI_add]
    · show cd_hs N mm tc _ 10 = _
      rw [k2, a3, nI_add]
  · exact H.mo
theorem px_HB.text {N : Nat → Int32} {c tc : Nat} (H : px_HB N c) (B : Nat → Nat) (L : Nat) : px_HB (sp_text N tc B L).2 (c + 1) := by
  unfold sp_text
  split
  · split
    · exact H.mo
    · refine H.sm ?_ ?_
      · show px_tN N tc _ _ 2 = _
        unfold px_tN
        rw [px_u2 _ _ (by omega)]
        unfold cd_rg
        rw [if_neg (by omega), px_u2 _ _ (by omega), px_u2 _ _ (by omega)]
      · show px_tN N tc _ _ 10 = _
        unfold px_tN
        rw [cd_10_a _ _ (by omega)]
        unfold cd_rg
        rw [if_neg (by omega), cd_10_a _ _ (by omega), cd_10_a _ _ (by omega)]
  · exact H.mo
theorem px_HB.nn {N N' : Nat → Int32} {c : Nat} (H : px_HB N c) (h : ∀ j, j < 1448 → N' j = N j) : px_HB N' (c + 1) := H.sm (h 2 (by decide)) (h 10 (by decide))
