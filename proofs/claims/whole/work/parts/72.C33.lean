def px_lg (g : Nat → Int32) : Nat → Nat
  | 0 => 0
  | k + 1 => px_lg g k + (if g k < 0 then 0 else 1)
theorem px_lg_d (g : Nat → Int32) : ∀ k, cd_dep (-10) g k ≤ px_lg g k
  | 0 => Nat.le_refl _
  | k + 1 => by
    have ih := px_lg_d g k
    unfold cd_dep px_lg
    by_cases h : g k < 0
    · rw [if_pos h, if_pos h]
      split <;> omega
    · rw [if_neg h, if_neg h]
      omega
theorem px_lg_m (g : Nat → Int32) {k : Nat} : ∀ n, k ≤ n → px_lg g k ≤ px_lg g n
  | 0, h => by rw [show k = 0 by omega]; exact Nat.le_refl _
  | n + 1, h => by
    by_cases e : k = n + 1
    · rw [e]; exact Nat.le_refl _
    · have := px_lg_m g (k := k) n (by omega)
      show _ ≤ px_lg g n + _
      omega
theorem px_lg_l {g : Nat → Int32} : ∀ (l : List Int32) (b : Nat), (∀ k, k < l.length → g (b + k) = l.getD k 0) → px_lg g (b + l.length) = px_lg g b + px_lv l
  | [], b, _ => rfl
  | x :: l, b, h => by
    have h0 : g b = x := h 0 (by simp)
    have ih := px_lg_l l (b + 1) (fun k hk => by have := h (k + 1) (by simpa using hk); rw [show b + (k + 1) = b + 1 + k by omega] at this; exact this)
    show px_lg g (b + (l.length + 1)) = px_lg g b + ((if x < 0 then 0 else 1) + px_lv l)
    rw [show b + (l.length + 1) = b + 1 + l.length by omega, ih]
    show px_lg g b + (if g b < 0 then 0 else 1) + px_lv l = _
    rw [h0]
    omega
def px_cd (nb : Nat) (g : Nat → Int32) (k : Nat) : Prop := ((¬ g k < 0 → cd_dep (-10) g k < 96 ∧ (¬ nI 10000 ≤ g k ∨ ∃ j, j < nb ∧ g k = nI (10000 + j))) ∧ (g k = (-10) → 1 ≤ cd_dep (-10) g k) ∧ (g k < 0 → g k ≠ (-10) → 2 ≤ cd_dep (-10) g k)) ∧ (g k < 0 → (-10) ≤ g k)
theorem px_wf {nb : Nat} {g : Nat → Int32} : ∀ (l : List Int32) (b d d' : Nat), (∀ k, k < l.length → g (b + k) = l.getD k 0) → cd_dep (-10) g b = d → px_rp nb l d = some d' → b + l.length ≤ 96 → (∀ k, b ≤ k → k < b + l.length → px_cd nb g k) ∧ cd_dep (-10) g (b + l.length) = d'
  | [], b, d, d', _, hd, hr, _ => by
    refine ⟨fun k h1 h2 => absurd h2 (by simp; omega), ?_⟩
    have hr2 : some d = some d' := hr
    rw [show b + ([] : List Int32).length = b from rfl, hd]
    exact Option.some.inj hr2
  | x :: l, b, d, d', hg, hd, hr, hb => by
    have h0 : g b = x := hg 0 (by simp)
    have hb2 : b + (l.length + 1) ≤ 96 := hb
    have hg' : ∀ k, k < l.length → g (b + 1 + k) = l.getD k 0 := fun k hk => by
      have := hg (k + 1) (by simpa using hk)
      rw [show b + (k + 1) = b + 1 + k by omega] at this
      exact this
    have hle := cd_dep_le (-10) g b
    have key : px_cd nb g b ∧ ∃ d1, cd_dep (-10) g (b + 1) = d1 ∧ px_rp nb l d1 = some d' := by
      have hstep : cd_dep (-10) g (b + 1) = if g b < 0 then (if g b = (-10) then cd_dep (-10) g b else cd_dep (-10) g b - 1) else cd_dep (-10) g b + 1 := rfl
      rw [hd, h0] at hstep
      simp only [px_rp] at hr
      unfold px_cd
      rw [hd, h0]
      by_cases h1 : x < 0
      · rw [if_pos h1] at hr hstep
        by_cases h2 : x = (-10)
        · rw [if_pos h2] at hr hstep
          by_cases h3 : 1 ≤ d
          · rw [if_pos h3] at hr
            exact ⟨⟨⟨fun q => absurd h1 q, fun _ => h3, fun _ q => absurd h2 q⟩, fun _ => by rw [h2]; decide⟩, d, hstep, hr⟩
          · rw [if_neg h3] at hr
            cases hr
        · rw [if_neg h2] at hr hstep
          by_cases h3 : (-10) ≤ x ∧ 2 ≤ d
          · rw [if_pos h3] at hr
            exact ⟨⟨⟨fun q => absurd h1 q, fun q => absurd q h2, fun _ _ => h3.2⟩, fun _ => h3.1⟩, d - 1, hstep, hr⟩
          · rw [if_neg h3] at hr
            cases hr
      · rw [if_neg h1] at hr hstep
        by_cases h2 : ¬ nI 10000 ≤ x ∨ ∃ j, j < nb ∧ x = nI (10000 + j)
        · rw [if_pos h2] at hr
          refine ⟨⟨⟨fun _ => ⟨by omega, h2⟩, fun q => ?_, fun q => absurd q h1⟩, fun q => absurd q h1⟩, d + 1, hstep, hr⟩
          exact absurd (by rw [q]; decide) h1
        · rw [if_neg h2] at hr
          cases hr
    obtain ⟨k1, d1, k2, k3⟩ := key
    obtain ⟨i1, i2⟩ := px_wf l (b + 1) d1 d' hg' k2 k3 (by omega)
    refine ⟨fun k h1 h2 => ?_, ?_⟩
    · by_cases e : k = b
      · rw [e]; exact k1
      · exact i1 k (by omega) (by have h3 : k < b + (l.length + 1) := h2; omega)
    · show cd_dep (-10) g (b + (l.length + 1)) = d'
      rw [show b + (l.length + 1) = b + 1 + l.length by omega]
      exact i2
theorem px_tN_o {N : Nat → Int32} {tc ky : Nat} {c : List Int32} {j : Nat} (h1 : j ≠ 15) (h2 : j ≠ 76 + 2 * tc) (h3 : j ≠ 76 + 2 * tc + 1) (h4 : ¬ (104 + 96 * tc ≤ j ∧ j < 104 + 96 * tc + c.length)) : px_tN N tc ky c j = N j := by
  unfold px_tN
  rw [px_un _ _ h1]
  unfold cd_rg
  rw [if_neg h4, px_un _ _ h3, px_un _ _ h2]
theorem px_tN_15 (N : Nat → Int32) (tc ky : Nat) (c : List Int32) : px_tN N tc ky c 15 = nI (tc + 1) := px_ue _ _ _
theorem px_tN_h {N : Nat → Int32} {tc ky : Nat} {c : List Int32} (h : tc < 14) : px_tN N tc ky c (76 + 2 * tc) = nI (1000 * ky + c.length) ∧ px_tN N tc ky c (76 + 2 * tc + 1) = nI (px_lv c) := by
  unfold px_tN cd_rg
  refine ⟨?_, ?_⟩
  · rw [px_un _ _ (by omega), if_neg (by omega), px_un _ _ (by omega), px_ue]
  · rw [px_un _ _ (by omega), if_neg (by omega), px_ue]
theorem px_tN_c {N : Nat → Int32} {tc ky : Nat} {c : List Int32} {k : Nat} (hk : k < c.length) : px_tN N tc ky c (104 + 96 * tc + k) = c.getD k 0 := by
  unfold px_tN cd_rg
  rw [px_un _ _ (by omega), if_pos (by omega), Nat.add_sub_cancel_left]
theorem px_dm {ky n : Nat} (hk : ky ≤ 2) (hn : n ≤ 96) : nI (1000 * ky + n) / nI 1000 = nI ky ∧ cd_rem (nI (1000 * ky + n)) (nI 1000) = nI n := by
  refine ⟨?_, ?_⟩
  · rw [pk_div (by omega) (by decide) (by decide)]
    congr 1
    omega
  · unfold cd_rem
    rw [pk_rem (by omega) (by decide) (by decide)]
    congr 1
    omega
/-- a text comes into a house -/
theorem cd_HG_text {w : cd_WT} {S : cd_Sp} {I : cd_Mem} {h mm tc : Nat} {N : Nat → Int32} (hG : cd_HG w S I h N mm tc) (htc : tc < 14) {Q ky : Nat} {c : List Int32} (hX : cd_XO w S (w.1 + 112 + 3 * Q + 1) (w.1 + 112 + 3 * Q) (w.1 + 112 + 3 * Q + 2) c.length (px_lv c)) (hl1 : 1 ≤ c.length) (hl9 : c.length ≤ 96) (hky : ky ≤ 2) (hk : I (w.1 + 112 + 3 * Q + 1) 0 = nI ky) (hv : I (w.1 + 112 + 3 * Q + 1) 1 = nI (px_lv c)) (hcs : ∀ k, k < c.length → I (w.1 + 112 + 3 * Q) k = cd_tr (c.getD k 0)) (hrp : ∀ d, px_rp (cd_nb ky) c d = some (d + 1)) : cd_HG w (cd_sr S (h + 4) tc (w.1 + 112 + 3 * Q + 1)) (cd_set (cd_set I (h + 5) (upd (I (h + 5)) ky (nI tc))) h (upd (I h) 7 (nI (tc + 1)))) h (px_tN N tc ky c) mm (tc + 1) := by
  obtain ⟨a1, a2, a3, a4, a5⟩ := hG
  obtain ⟨v1, v2, v3, v4, v5⟩ := a3
  have hss := cd_ss.sr S h tc (w.1 + 112 + 3 * Q + 1)
  obtain ⟨hth, hth2⟩ := px_tN_h (N := N) (ky := ky) (c := c) htc
  obtain ⟨hdm1, hdm2⟩ := px_dm (n := c.length) hky hl9
  obtain ⟨w1, w2⟩ := px_wf (nb := cd_nb ky) (g := fun k => px_tN N tc ky c (104 + 96 * tc + k)) c 0 0 1 (fun k hk => by rw [Nat.zero_add]; exact px_tN_c hk) rfl (hrp 0) (by omega)
  rw [Nat.zero_add] at w1 w2
  have old : ∀ t, t < tc → ∀ j, (j = 76 + 2 * t ∨ j = 76 + 2 * t + 1 ∨ (104 + 96 * t ≤ j ∧ j < 104 + 96 * t + 96)) → px_tN N tc ky c j = N j := fun t ht j hj => px_tN_o (by omega) (by omega) (by omega) (by omega)
  have hlo : ∀ j, j < 76 → j ≠ 15 → px_tN N tc ky c j = N j := fun j hj h15 => px_tN_o h15 (by omega) (by omega) (by omega)
  refine ⟨a1.ss hss (Or.inl rfl), a2, ⟨by rw [hlo 1 (by decide) (by decide)]; exact v1, v2, px_tN_15 _ _ _ _, by omega, fun t ht => ?_⟩, ?_, ?_⟩
  · by_cases e : t = tc
    · subst e
      exact ⟨ky, c.length, hth, hky, hl1, hl9, fun k hk => (w1 k (Nat.zero_le _) hk).1, w2⟩
    · obtain ⟨ky', n', b1, b2, b3, b4, b5, b6⟩ := v5 t (by omega)
      have e2 : ∀ k, k < n' → N (104 + 96 * t + k) = px_tN N tc ky c (104 + 96 * t + k) := fun k hk => (old t (by omega) _ (by omega)).symm
      exact ⟨ky', n', by rw [old t (by omega) _ (by omega)]; exact b1, b2, b3, b4, cd_wf_cg e2 b5, by rw [← cd_dep_cg e2]; exact b6⟩
  · obtain ⟨i1, i2, i3, i4, i5, i6⟩ := a4
    refine ⟨fun i hi => ?_, ?_, ?_, ?_, ?_, ?_⟩
    · rw [hlo _ (by omega) (by omega), hlo _ (by omega) (by omega), hlo _ (by omega) (by omega), hlo _ (by omega) (by omega)]
      exact i1 i hi
    · rw [hlo 3 (by decide) (by decide)]; exact i2
    · rw [hlo 6 (by decide) (by decide)]; exact i3
    · rw [hlo 7 (by decide) (by decide)]; exact i4
    · rw [hlo 8 (by decide) (by decide)]; exact i5
    · rw [hlo 9 (by decide) (by decide)]; exact i6
  · refine ⟨fun j hj => ?_, fun t ht => ?_, fun k hk => ?_⟩
    · have hin := cd_lx_in (h := h) (j := j) (by omega)
      unfold cd_vw
      by_cases e : j = 15
      · subst e
        rw [px_tN_15, show cd_lx h 15 = h from rfl, cd_set_eq]
        exact px_ue _ _ _
      · rw [hlo j (by omega) e, ← a5.1 j hj]
        unfold cd_vw
        by_cases e2 : cd_lx h j = h
        · rw [e2, cd_set_eq]
          refine px_un _ _ (fun q => e ?_)
          exact cd_lx_inj (h := h) (by decide) (by omega) (by rw [e2]; rfl) q
        · rw [cd_set_ne _ _ e2, cd_set_ne _ _ hin.2.2.2.2]
    · by_cases e : t = tc
      · subst e
        refine ⟨Q, cd_sr_e _ _ _ _, c.length, px_lv c, hX.ss hss (by omega), hl9, Nat.le_trans (px_lv_b c) hl9, by rw [hth]; exact hdm2, hth2, ?_, ?_, ?_, ?_, ?_⟩
        · rw [cd_set_ne _ _ (by omega), cd_set_ne _ _ (by omega), hth, hdm1]; exact hk
        · rw [cd_set_ne _ _ (by omega), cd_set_ne _ _ (by omega)]; exact hv
        · intro k hk
          rw [cd_set_ne _ _ (by omega), cd_set_ne _ _ (by omega), px_tN_c hk]; exact hcs k hk
        · intro k hk
          exact (w1 k (Nat.zero_le _) hk).2
        · intro k hk h0
          have e1 := px_lg_d (fun k => px_tN N t ky c (104 + 96 * t + k)) k
          have e2 := px_lg_m (fun k => px_tN N t ky c (104 + 96 * t + k)) (k := k + 1) c.length (by omega)
          have e3 := px_lg_l (g := fun k => px_tN N t ky c (104 + 96 * t + k)) c 0 (fun k hk => by rw [Nat.zero_add]; exact px_tN_c hk)
          rw [Nat.zero_add] at e3
          have e4 : px_lg (fun k => px_tN N t ky c (104 + 96 * t + k)) (k + 1) = px_lg (fun k => px_tN N t ky c (104 + 96 * t + k)) k + 1 := by
            show _ + (if px_tN N t ky c (104 + 96 * t + k) < 0 then 0 else 1) = _
            rw [if_neg h0]
          have e5 : px_lg (fun k => px_tN N t ky c (104 + 96 * t + k)) 0 = 0 := rfl
          omega
      · obtain ⟨q, q1, n', v', x1, x2, x3, x4, x5, x6, x7, x8, x9, x10⟩ := a5.2.1 t (by omega)
        have e2 : ∀ k, k < n' → N (104 + 96 * t + k) = px_tN N tc ky c (104 + 96 * t + k) := fun k hk => (old t (by omega) _ (by omega)).symm
        refine ⟨q, by rw [cd_sr_o e]; exact q1, n', v', x1.ss hss (by omega), x2, x3, by rw [old t (by omega) _ (by omega)]; exact x4, by rw [old t (by omega) _ (by omega)]; exact x5, ?_, ?_, ?_, ?_, ?_⟩
        · rw [cd_set_ne _ _ (by omega), cd_set_ne _ _ (by omega), old t (by omega) _ (by omega)]; exact x6
        · rw [cd_set_ne _ _ (by omega), cd_set_ne _ _ (by omega)]; exact x7
        · intro k hk
          rw [cd_set_ne _ _ (by omega), cd_set_ne _ _ (by omega), ← e2 k hk]; exact x8 k hk
        · intro k hk
          rw [← e2 k hk]; exact x9 k hk
        · intro k hk
          rw [← e2 k hk, ← cd_dep_cg (c := fun k => N (104 + 96 * t + k)) (fun j hj => e2 j (by omega))]; exact x10 k hk
    · have e0 := a5.2.2 k hk
      rw [cd_set_ne _ _ (by omega), cd_set_eq]
      have ecn : cd_cnt (px_tN N tc ky c) (nI k) (tc + 1) = if ky = k then nI tc else cd_cnt N (nI k) tc := by
        show (if px_tN N tc ky c (76 + 2 * tc) / nI 1000 = nI k then nI tc else cd_cnt (px_tN N tc ky c) (nI k) tc) = _
        rw [hth, hdm1]
        by_cases e : ky = k
        · rw [if_pos (by rw [e]), if_pos e]
        · rw [if_neg (fun q => e ((nI_eq (by omega) (by omega)).mp q)), if_neg e]
          exact cd_cnt_cg (fun t ht => old t ht _ (Or.inl rfl))
      unfold cd_cn at e0 ⊢
      rw [ecn]
      by_cases e : ky = k
      · subst e
        rw [px_ue, if_pos rfl, if_pos (Int32.not_lt.mp (nI_pos (by omega)))]
      · rw [px_un _ _ (fun q => e q.symm), if_neg e]
        exact e0
theorem d_H_addsText_0 : cd_D_aload b_H_addsText 0 0 1 := Or.inr ⟨0, ⟨by decide +kernel, rfl⟩, rfl⟩
theorem d_H_addsText_1 : cd_D 3 b_H_addsText 1 (.getfield 36) 4 := ⟨by decide +kernel, rfl⟩
theorem d_H_addsText_4 : cd_D_aload b_H_addsText 4 0 5 := Or.inr ⟨0, ⟨by decide +kernel, rfl⟩, rfl⟩
theorem d_H_addsText_5 : cd_D 3 b_H_addsText 5 (.getfield 40) 8 := ⟨by decide +kernel, rfl⟩
theorem d_H_addsText_8 : cd_D_aload b_H_addsText 8 1 9 := Or.inr ⟨1, ⟨by decide +kernel, rfl⟩, rfl⟩
theorem d_H_addsText_9 : cd_D 1 b_H_addsText 9 .aastore 10 := ⟨by decide +kernel, rfl⟩
theorem d_H_addsText_10 : cd_D_aload b_H_addsText 10 0 11 := Or.inr ⟨0, ⟨by decide +kernel, rfl⟩, rfl⟩
theorem d_H_addsText_11 : cd_D 3 b_H_addsText 11 (.getfield 44) 14 := ⟨by decide +kernel, rfl⟩
theorem d_H_addsText_14 : cd_D_aload b_H_addsText 14 1 15 := Or.inr ⟨1, ⟨by decide +kernel, rfl⟩, rfl⟩
theorem d_H_addsText_15 : cd_D 3 b_H_addsText 15 (.getfield 71) 18 := ⟨by decide +kernel, rfl⟩
theorem d_H_addsText_18 : cd_D_aload b_H_addsText 18 0 19 := Or.inr ⟨0, ⟨by decide +kernel, rfl⟩, rfl⟩
theorem d_H_addsText_19 : cd_D 3 b_H_addsText 19 (.getfield 40) 22 := ⟨by decide +kernel, rfl⟩
theorem d_H_addsText_22 : cd_D 1 b_H_addsText 22 .iastore 23 := ⟨by decide +kernel, rfl⟩
theorem d_H_addsText_23 : cd_D_aload b_H_addsText 23 0 24 := Or.inr ⟨0, ⟨by decide +kernel, rfl⟩, rfl⟩
theorem d_H_addsText_24 : cd_D 1 b_H_addsText 24 .dup 25 := ⟨by decide +kernel, rfl⟩
theorem d_H_addsText_25 : cd_D 3 b_H_addsText 25 (.getfield 40) 28 := ⟨by decide +kernel, rfl⟩
theorem d_H_addsText_28 : cd_Dk b_H_addsText 28 (nI 1) 29 := Or.inl ⟨1, ⟨by decide +kernel, rfl⟩, by decide +kernel⟩
theorem d_H_addsText_29 : cd_D 1 b_H_addsText 29 .iadd 30 := ⟨by decide +kernel, rfl⟩
theorem d_H_addsText_30 : cd_D 3 b_H_addsText 30 (.putfield 40) 33 := ⟨by decide +kernel, rfl⟩
theorem d_H_addsText_33 : cd_D_aload b_H_addsText 33 0 34 := Or.inr ⟨0, ⟨by decide +kernel, rfl⟩, rfl⟩
theorem d_H_addsText_34 : cd_D 3 b_H_addsText 34 (.getfield 40) 37 := ⟨by decide +kernel, rfl⟩
theorem d_H_addsText_37 : cd_Dk b_H_addsText 37 (nI 1) 38 := Or.inl ⟨1, ⟨by decide +kernel, rfl⟩, by decide +kernel⟩
theorem d_H_addsText_38 : cd_D 1 b_H_addsText 38 .isub 39 := ⟨by decide +kernel, rfl⟩
theorem d_H_addsText_39 : cd_D 1 b_H_addsText 39 .ireturn 40 := ⟨by decide +kernel, rfl⟩
theorem c_H_addsText {l : Launch} {w : cd_WT} {S : cd_Sp} {I : cd_Mem} {h mm tc : Nat} {N : Nat → Int32} (hG : cd_HG w S I h N mm tc) (htc : tc < 14) {Q ky : Nat} {c : List Int32} (hX : cd_XO w S (w.1 + 112 + 3 * Q + 1) (w.1 + 112 + 3 * Q) (w.1 + 112 + 3 * Q + 2) c.length (px_lv c)) (hl1 : 1 ≤ c.length) (hl9 : c.length ≤ 96) (hky : ky ≤ 2) (hk : I (w.1 + 112 + 3 * Q + 1) 0 = nI ky) (hv : I (w.1 + 112 + 3 * Q + 1) 1 = nI (px_lv c)) (hcs : ∀ k, k < c.length → I (w.1 + 112 + 3 * Q) k = cd_tr (c.getD k 0)) (hrp : ∀ d, px_rp (cd_nb ky) c d = some (d + 1)) : cd_C l w m_H_addsText 0 0 0 [.ref h, .ref (w.1 + 112 + 3 * Q + 1)] S I (fun r S' I' => r = some (.int (nI tc)) ∧ cd_ss S S' h ∧ cd_HG w S' I' h (px_tN N tc ky c) mm (tc + 1) ∧ ∀ b, ¬ (h ≤ b ∧ b < h + 18) → I' b = I b) := by
  refine cd_intro (by decide) (by simp [Value.category]) (Nat.le_of_ble_eq_true rfl) ?_
  intro X hO hE
  show cd_J w X 0 0 S I 0 [some (.ref h), some (.ref (w.1 + 112 + 3 * Q + 1))] []
  obtain ⟨hH, hhd, hV, hIV, hR⟩ := id hG
  have hmm := hV.2.1
  have h15 : I h 7 = nI tc := (hR.at 15 (by omega) rfl rfl).trans hV.2.2.1
  have hHs : cd_HO w (cd_sr S (h + 4) tc (w.1 + 112 + 3 * Q + 1)) h := hH.ss (cd_ss.sr _ _ _ _) (Or.inl rfl)
  have hXs : (cd_sr S (h + 4) tc (w.1 + 112 + 3 * Q + 1)).2.1 (w.1 + 112 + 3 * Q + 1) = (1, 5) := hX.1
  refine r_aload hO d_H_addsText_0 rfl ?_
  refine r_getR hO f_H_36 rfl hH.2.1 hH.2.2.2.2.2.1.1 d_H_addsText_1 ?_
  refine r_aload hO d_H_addsText_4 rfl ?_
  refine r_getI hO f_H_40 rfl hH.2.1 d_H_addsText_5 ?_
  rw [h15]
  refine r_aload hO d_H_addsText_8 rfl ?_
  refine r_aastX hO hH.2.2.2.2.2.1.2 hX.1 (Nat.le_trans hH.1 (Nat.le_add_right _ _)) (by omega) (by decide) d_H_addsText_9 ?_
  refine r_aload hO d_H_addsText_10 rfl ?_
  refine r_getR hO f_H_44 rfl hHs.2.1 hHs.2.2.2.2.2.2.1.1 d_H_addsText_11 ?_
  refine r_aload hO d_H_addsText_14 rfl ?_
  refine r_getI hO f_H_71 rfl hXs d_H_addsText_15 ?_
  rw [hk]
  refine r_aload hO d_H_addsText_18 rfl ?_
  refine r_getI hO f_H_40 rfl hHs.2.1 d_H_addsText_19 ?_
  rw [h15]
  refine r_iast hO hHs.2.2.2.2.2.2.1.2 (Nat.le_trans hHs.1 (Nat.le_add_right _ _)) (by omega) (by decide) d_H_addsText_22 ?_
  refine r_aload hO d_H_addsText_23 rfl ?_
  refine r_dup hO d_H_addsText_24 rfl ?_
  refine r_getI hO f_H_40 rfl hHs.2.1 d_H_addsText_25 ?_
  try simp (disch := omega) only [cd_set_eq, cd_set_ne, cd_set_set]
  refine r_tops (show _ = nI tc from h15) ?_
  refine r_k hO d_H_addsText_28 ?_
  refine r_iaddN hO d_H_addsText_29 ?_
  refine r_putI hO f_H_40 rfl hHs.2.1 hHs.1 d_H_addsText_30 ?_
  try simp (disch := omega) only [cd_set_eq, cd_set_ne, cd_set_set]
  refine r_aload hO d_H_addsText_33 rfl ?_
  refine r_getI hO f_H_40 rfl hHs.2.1 d_H_addsText_34 ?_
  try simp (disch := omega) only [cd_set_eq, cd_set_ne, cd_set_set]
  refine r_tops (show _ = nI (tc + 1) from rfl) ?_
  refine r_k hO d_H_addsText_37 ?_
  refine r_isubN hO d_H_addsText_38 (by omega) ?_
  refine r_iret hO hE (Nat.zero_le _) (Nat.zero_le _) d_H_addsText_39 ?_
  refine ⟨by rw [show tc + 1 - 1 = tc from rfl], cd_ss.sr _ _ _ _, cd_HG_text hG htc hX hl1 hl9 hky hk hv hcs hrp, fun b hb => by rw [cd_set_ne _ _ (by omega), cd_set_ne _ _ (by omega)]⟩
