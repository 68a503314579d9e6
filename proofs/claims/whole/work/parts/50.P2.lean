/-! The reference reads with a stack of waiting signs (1 to 9 join, 10 NOT, 11 OPEN; top first); J says of a state of that machine that it comes to its end as wanted, F that a fault at a token is what is wanted. -/
abbrev px_JT : Type := px_Tok → Bool → List Nat → Nat → (Nat → Bool) → List Int32 → Prop
def px_h10 (S : List Nat) : Prop := ∀ x S', S = x :: S' → x ≠ 10
def px_hlt (r : Nat) (S : List Nat) : Prop := ∀ x S', S = x :: S' → x = 11 ∨ (1 ≤ x ∧ x ≤ 9 ∧ px_rk x < r)
def px_bin (r : Nat) (D : List Nat) : Prop := ∀ x ∈ D, 1 ≤ x ∧ x ≤ 9 ∧ r ≤ px_rk x
def px_n10 (k : Nat) : List Nat := List.replicate k 10
def px_sb (t : Nat → Bool) (p : Nat) (b : Bool) : Nat → Bool := fun j => if j = p then b else t j
def px_rules (B : Nat → Nat) (L ky : Nat) (J : px_JT) (F : px_Tok → Prop) : Prop :=
  (∀ t k S0 p u c x, px_lfo B ky t = some x → px_h10 S0 → J (px_adv B L t) false S0 p u (c ++ x :: List.replicate k (px_sc 10)) → J t true (px_n10 k ++ S0) p u c) ∧
  (∀ t S p u c, px_isC B t 33 → S.count 10 < 8 → J (px_adv B L t) true (10 :: S) p u c → J t true S p u c) ∧
  (∀ t S p u c, px_isC B t 40 → p < 8 → J (px_adv B L t) true (11 :: S) (p + 1) (px_sb u (p + 1) false) c → J t true S p u c) ∧
  (∀ t S p u c, px_lfo B ky t = none → ¬ (px_isC B t 33 ∧ S.count 10 < 8) → ¬ (px_isC B t 40 ∧ p < 8) → F t → J t true S p u c) ∧
  (∀ t D k S0 p u c, px_isC B t 41 → px_bin 1 D → px_h10 S0 → J (px_adv B L t) false S0 p u (c ++ D.map px_sc ++ List.replicate k (px_sc 10)) → J t false (D ++ 11 :: (px_n10 k ++ S0)) (p + 1) u c) ∧
  (∀ t D S0 p u c, 0 < px_ssg B t → (px_rk (px_ssg B t) = 3 → u p = false) → px_bin (px_rk (px_ssg B t)) D → px_hlt (px_rk (px_ssg B t)) S0 → J (px_adv B L t) true (px_ssg B t :: S0) p (px_sb u p (decide (px_rk (px_ssg B t) = 3 ∨ 3 < px_rk (px_ssg B t) ∧ u p = true))) (c ++ D.map px_sc) → J t false (D ++ S0) p u c) ∧
  (∀ t S p u c, t.2.1 ≠ 0 → ¬ (px_isC B t 41 ∧ 0 < p) → (px_ssg B t = 0 ∨ px_rk (px_ssg B t) = 3 ∧ u p = true) → F t → J t false S p u c) ∧
  (∀ t S p u c, t.2.1 = 0 → p ≠ 0 → F t → J t false S p u c)
/-- behind a level no sign of it, or of a tighter one, stands, but a second test -/
def px_ex (B : Nat → Nat) (lev : Nat) (t : px_Tok) (b : Bool) : Prop := 0 < px_ssg B t → lev + 1 ≤ px_rk (px_ssg B t) → px_rk (px_ssg B t) = 3 ∧ b = true
def px_need (L lev : Nat) (t : px_Tok) : Nat := 8 * (L - t.1) + (if lev ≤ 5 then 7 - lev else 1)
theorem px_bin.mono {r r' : Nat} {D : List Nat} (h : px_bin r D) (hr : r' ≤ r) : px_bin r' D := fun x hx => ⟨(h x hx).1, (h x hx).2.1, Nat.le_trans hr (h x hx).2.2⟩
theorem px_hlt.mono {r r' : Nat} {S : List Nat} (h : px_hlt r S) (hr : r ≤ r') : px_hlt r' S := fun x S' e => (h x S' e).imp id (fun q => ⟨q.1, q.2.1, Nat.lt_of_lt_of_le q.2.2 hr⟩)
theorem px_bin_n {r : Nat} {D : List Nat} (h : px_bin r D) : D.count 10 = 0 := List.count_eq_zero.mpr (fun q => absurd (h 10 q).2.1 (by decide))
theorem px_c10 (k : Nat) (S : List Nat) : (10 :: (px_n10 k ++ S)) = px_n10 (k + 1) ++ S := rfl
/-- what a reading of level lev from a state with NOTs k on S0 asks, and what it gives -/
def px_RL (B : Nat → Nat) (L ky : Nat) (J : px_JT) (F : px_Tok → Prop) (f lev op nt : Nat) (t : px_Tok) : Prop :=
  ∀ (k : Nat) (S0 : List Nat) (u : Nat → Bool) (c : List Int32), (lev < 5 → k = 0) → px_h10 S0 → px_hlt (lev + 1) S0 → nt = (px_n10 k ++ S0).count 10 → (lev ≤ 2 → u op = false) →
    ((px_rdt B L ky f lev op nt t).1 = false → F (px_rdt B L ky f lev op nt t).2.1 → J t true (px_n10 k ++ S0) op u c) ∧
    ((px_rdt B L ky f lev op nt t).1 = true → (∀ D u' c', px_bin (lev + 1) D → c' ++ D.map px_sc = c ++ (px_rdt B L ky f lev op nt t).2.2 ++ List.replicate k (px_sc 10) → (2 < lev → u' op = u op) → (∀ j, j < op → u' j = u j) → px_ex B lev (px_rdt B L ky f lev op nt t).2.1 (u' op) → J (px_rdt B L ky f lev op nt t).2.1 false (D ++ S0) op u' c') → J t true (px_n10 k ++ S0) op u c)
def px_RS (B : Nat → Nat) (L ky : Nat) (J : px_JT) (F : px_Tok → Prop) (f lev op nt : Nat) (t : px_Tok) : Prop :=
  ∀ (D0 S0 : List Nat) (u : Nat → Bool) (c : List Int32), px_h10 S0 → px_hlt (lev - 10 + 1) S0 → nt = S0.count 10 → px_bin (lev - 10 + 1) D0 → (lev = 12 → u op = false) → px_ex B (lev - 10 + 1) t (u op) →
    ((px_rdt B L ky f lev op nt t).1 = false → F (px_rdt B L ky f lev op nt t).2.1 → J t false (D0 ++ S0) op u c) ∧
    ((px_rdt B L ky f lev op nt t).1 = true → (∀ D u' c', px_bin (lev - 10 + 1) D → c' ++ D.map px_sc = c ++ D0.map px_sc ++ (px_rdt B L ky f lev op nt t).2.2 → (12 < lev → u' op = u op) → (∀ j, j < op → u' j = u j) → px_ex B (lev - 10) (px_rdt B L ky f lev op nt t).2.1 (u' op) → J (px_rdt B L ky f lev op nt t).2.1 false (D ++ S0) op u' c') → J t false (D0 ++ S0) op u c)
theorem px_sb_eq (u : Nat → Bool) (p : Nat) (b : Bool) : px_sb u p b p = b := if_pos rfl
theorem px_sb_ne (u : Nat → Bool) {p j : Nat} (b : Bool) (h : j ≠ p) : px_sb u p b j = u j := if_neg h
theorem px_run {B : Nat → Nat} {L ky : Nat} {J : px_JT} {F : px_Tok → Prop} (hR : px_rules B L ky J F) : ∀ (f lev op nt : Nat) (t : px_Tok), px_TO B L t → px_need L lev t ≤ f → (lev ≤ 5 → px_RL B L ky J F f lev op nt t) ∧ (10 ≤ lev → lev ≤ 14 → px_RS B L ky J F f lev op nt t)
  | 0, lev, op, nt, t, h, hn => by
    exfalso
    unfold px_need at hn
    split at hn <;> omega
  | f + 1, lev, op, nt, t, h, hn => by
    have ih := px_run hR f
    obtain ⟨hleaf, hnot, hopen, hbad, hclose, hsign, hstop, hend0⟩ := id hR
    refine ⟨fun hl => ?_, fun hl hl14 => ?_⟩
    · intro k S0 u c hk h10 hlt hnt hu
      by_cases h5 : lev = 5
      · subst h5
        have hn5 : 8 * (L - t.1) + 2 ≤ f + 1 := hn
        cases hc : px_lfo B ky t with
        | some x =>
          rw [rd_leaf hc]
          dsimp only
          refine ⟨fun q => (by cases q), fun _ hJ => hleaf t k S0 op u c x hc h10 ?_⟩
          refine hJ [] u _ (fun x hx => by cases hx) ?_ (fun _ => rfl) (fun _ _ => rfl) (fun q1 q2 => absurd (px_rk_b (px_ssg_b B (px_adv B L t))) (by omega))
          simp
        | none =>
          by_cases h1 : px_isC B t 33 ∧ nt < 8
          · have hl := px_adv_lt h (by rw [h1.1.1]; decide)
            have ha := px_adv_ok h
            obtain ⟨i1, -⟩ := ih 5 op (nt + 1) _ ha.1 (by have := ha.1.1; unfold px_need; rw [if_pos (by decide)]; omega)
            rw [rd_not hc h1.1 h1.2 rfl]
            dsimp only
            obtain ⟨r1, r2⟩ := i1 (by decide) (k + 1) S0 u c (fun q => absurd q (by decide)) h10 hlt (by rw [hnt]; show _ = List.count 10 (10 :: (px_n10 k ++ S0)); rw [List.count_cons_self]) (fun q => absurd q (by decide))
            refine ⟨fun q hF => hnot t _ op u c h1.1 (hnt ▸ h1.2) (r1 q hF), fun q hJ => hnot t _ op u c h1.1 (hnt ▸ h1.2) (r2 q (fun D u' c' d1 d2 d3 d4 d5 => hJ D u' c' d1 ?_ d3 d4 d5))⟩
            rw [d2]
            simp [List.replicate_succ]
          · by_cases h2 : px_isC B t 40 ∧ op < 8
            · have hl := px_adv_lt h (by rw [h2.1.1]; decide)
              have ha := px_adv_ok h
              obtain ⟨i1, -⟩ := ih 0 (op + 1) nt _ ha.1 (by have := ha.1.1; unfold px_need; rw [if_pos (by decide)]; omega)
              obtain ⟨r1, r2⟩ := i1 (by decide) 0 (11 :: (px_n10 k ++ S0)) (px_sb u (op + 1) false) c (fun _ => rfl) (fun x S' e => by cases e; decide) (fun x S' e => by cases e; exact Or.inl rfl) (by rw [hnt]; show _ = List.count 10 (11 :: (px_n10 k ++ S0)); rw [List.count_cons_of_ne (by decide)]) (fun _ => px_sb_eq _ _ _)
              generalize ga : px_rdt B L ky f 0 (op + 1) nt (px_adv B L t) = a at r1 r2
              have ta := (rd_ok (B := B) (L := L) (ky := ky) f 0 (op + 1) nt _ ha.1 (Or.inl (by decide))).1
              rw [ga] at ta
              by_cases h3 : a.1 = true ∧ px_isC B a.2.1 41
              · rw [rd_openY hc h2.1 h2.2 ga h3.1 h3.2]
                dsimp only
                refine ⟨fun q => (by cases q), fun _ hJ => hopen t _ op u c h2.1 h2.2 (r2 h3.1 (fun D u' c' d1 d2 d3 d4 d5 => hclose _ D k S0 op u' c' h3.2 (d1.mono (by decide)) h10 ?_))⟩
                refine hJ [] u' _ (fun x hx => by cases hx) ?_ (fun _ => (d4 op (by omega)).trans (px_sb_ne _ _ (by omega))) (fun j hj => (d4 j (by omega)).trans (px_sb_ne _ _ (by omega))) (fun q1 q2 => absurd (px_rk_b (px_ssg_b B (px_adv B L a.2.1))) (by omega))
                rw [d2]
                simp
              · rw [rd_openN hc h2.1 h2.2 ga h3]
                dsimp only
                refine ⟨fun _ hF => ?_, fun q => by cases q⟩
                refine hopen t _ op u c h2.1 h2.2 ?_
                by_cases h4 : a.1 = true
                · refine r2 h4 (fun D u' c' d1 d2 d3 d4 d5 => ?_)
                  by_cases h6 : a.2.1.2.1 = 0
                  · exact hend0 _ _ _ _ _ h6 (by omega) hF
                  · refine hstop _ _ _ _ _ h6 (fun q => h3 ⟨h4, q.1⟩) ?_ hF
                    rcases Nat.eq_zero_or_pos (px_ssg B a.2.1) with q | q
                    · exact Or.inl q
                    · exact Or.inr (d5 q (px_rk_p _))
                · exact r1 (by simpa using h4) hF
            · rw [rd_bad hc h1 h2]
              dsimp only
              exact ⟨fun _ hF => hbad t _ op u c hc (hnt ▸ h1) h2 hF, fun q => by cases q⟩
      · have hl5 : lev < 5 := by omega
        have hk0 := hk hl5
        subst hk0
        have hn0 : 8 * (L - t.1) + (7 - lev) ≤ f + 1 := by unfold px_need at hn; rw [if_pos hl] at hn; exact hn
        obtain ⟨i1, -⟩ := ih (lev + 1) op nt t h (by unfold px_need; rw [if_pos (by omega)]; omega)
        obtain ⟨o1, o2⟩ := rd_ok (B := B) (L := L) (ky := ky) f (lev + 1) op nt t h (Or.inl (by omega))
        obtain ⟨r1, r2⟩ := i1 (by omega) 0 S0 u c (fun _ => rfl) h10 (hlt.mono (by omega)) hnt (fun q => hu (by omega))
        generalize ga : px_rdt B L ky f (lev + 1) op nt t = a at r1 r2 o1 o2
        by_cases h4 : a.1 = true
        · rw [rd_levY hl5 ga h4 rfl]
          dsimp only
          have hlt2 := ((o2 h4).2.1 (by omega)).1
          have hL2 := o1.1
          obtain ⟨-, i2⟩ := ih (lev + 10) op nt a.2.1 o1 (by unfold px_need; rw [if_neg (by omega)]; omega)
          have i2 := i2 (by omega) (by omega)
          have e10 : lev + 10 - 10 = lev := by omega
          unfold px_RS at i2
          rw [e10] at i2
          refine ⟨fun q hF => r2 h4 (fun D u' c' d1 d2 d3 d4 d5 => ?_), fun q hJ => r2 h4 (fun D u' c' d1 d2 d3 d4 d5 => ?_)⟩
          · exact (i2 D S0 u' c' h10 hlt hnt (d1.mono (by omega)) (fun e => (d3 (by omega)).trans (hu (by omega))) d5).1 q hF
          · refine (i2 D S0 u' c' h10 hlt hnt (d1.mono (by omega)) (fun e => (d3 (by omega)).trans (hu (by omega))) d5).2 q (fun D2 u2 c2 g1 g2 g3 g4 g5 => hJ D2 u2 c2 g1 ?_ (fun e => (g3 (by omega)).trans (d3 (by omega))) (fun j hj => (g4 j hj).trans (d4 j hj)) g5)
            rw [g2, d2]
            simp
        · rw [rd_levN hl5 ga h4]
          dsimp only
          exact ⟨fun _ hF => r1 (by simpa using h4) hF, fun q => by cases q⟩
    · intro D0 S0 u c h10 hlt hnt hD0 hu hex
      have hn0 : 8 * (L - t.1) + 1 ≤ f + 1 := by unfold px_need at hn; rw [if_neg (by omega)] at hn; exact hn
      by_cases hs : 0 < px_ssg B t ∧ px_rk (px_ssg B t) = lev - 9
      · have hsb := px_ssg_b B t
        have hrb := px_rk_b hsb
        have ht := px_adv_lt h (by rw [px_ssg_k hs.1]; decide)
        have ha := px_adv_ok h
        obtain ⟨i1, -⟩ := ih (lev - 9) op nt _ ha.1 (by have := ha.1.1; unfold px_need; rw [if_pos (by omega)]; omega)
        have i1 := i1 (by omega)
        obtain ⟨o1, o2⟩ := rd_ok (B := B) (L := L) (ky := ky) f (lev - 9) op nt _ ha.1 (Or.inl (by omega))
        have hS1 : px_h10 (px_ssg B t :: S0) := fun x S' e => by cases e; omega
        have hS2 : px_hlt (lev - 9 + 1) (px_ssg B t :: S0) := fun x S' e => by cases e; exact Or.inr ⟨hs.1, hsb, by omega⟩
        have hcn : nt = (px_n10 0 ++ px_ssg B t :: S0).count 10 := by
          rw [hnt]
          show _ = List.count 10 (px_ssg B t :: S0)
          rw [List.count_cons_of_ne (by omega)]
        obtain ⟨r1, r2⟩ := i1 0 (px_ssg B t :: S0) (px_sb u op (decide (px_rk (px_ssg B t) = 3 ∨ 3 < px_rk (px_ssg B t) ∧ u op = true))) (c ++ D0.map px_sc) (fun _ => rfl) hS1 hS2 hcn (fun q => by rw [px_sb_eq]; exact decide_eq_false (by omega))
        have go : J (px_adv B L t) true (px_ssg B t :: S0) op (px_sb u op (decide (px_rk (px_ssg B t) = 3 ∨ 3 < px_rk (px_ssg B t) ∧ u op = true))) (c ++ D0.map px_sc) → J t false (D0 ++ S0) op u c := hsign t D0 S0 op u c hs.1 (fun q => hu (by omega)) (hD0.mono (by omega)) (hlt.mono (by omega))
        generalize ga : px_rdt B L ky f (lev - 9) op nt (px_adv B L t) = a at r1 r2 o1 o2
        by_cases h4 : a.1 = true
        · have hlt2 := ((o2 h4).2.1 (by omega)).1
          have hL2 := o1.1
          by_cases h12 : lev = 12
          · rw [rd_loop2 h12 hs ga h4]
            dsimp only
            subst h12
            refine ⟨fun q => (by cases q), fun _ hJ => go (r2 h4 (fun D u' c' d1 d2 d3 d4 d5 => ?_))⟩
            have hut : u' op = true := by
              rw [d3 (by decide), px_sb_eq]
              exact decide_eq_true (Or.inl hs.2)
            have := hJ (D ++ [px_ssg B t]) u' c' ?_ ?_ (fun q => absurd q (by decide)) (fun j hj => (d4 j hj).trans (px_sb_ne _ _ (by omega))) ?_
            · rw [List.append_assoc] at this
              exact this
            · intro x hx
              rcases List.mem_append.mp hx with q | q
              · exact d1.mono (by decide) x q
              · rw [List.mem_singleton.mp q]
                exact ⟨hs.1, hsb, by omega⟩
            · rw [List.map_append, ← List.append_assoc, d2]
              simp
            · intro q1 q2
              refine ⟨?_, hut⟩
              rcases Nat.lt_or_ge 3 (px_rk (px_ssg B a.2.1)) with q | q
              · exact (d5 q1 (by omega)).1
              · omega
          · rw [rd_loopY hl h12 hs ga h4 rfl]
            dsimp only
            obtain ⟨-, i2⟩ := ih lev op nt a.2.1 o1 (by unfold px_need; rw [if_neg (by omega)]; omega)
            have i2 := i2 hl hl14
            have mk : ∀ D u' c', px_bin (lev - 9 + 1) D → c' ++ D.map px_sc = c ++ D0.map px_sc ++ a.2.2 ++ List.replicate 0 (px_sc 10) → (2 < lev - 9 → u' op = px_sb u op (decide (px_rk (px_ssg B t) = 3 ∨ 3 < px_rk (px_ssg B t) ∧ u op = true)) op) → px_ex B (lev - 9) a.2.1 (u' op) → ((px_rdt B L ky f lev op nt a.2.1).1 = false → F (px_rdt B L ky f lev op nt a.2.1).2.1 → J a.2.1 false ((D ++ [px_ssg B t]) ++ S0) op u' c') ∧ _ := fun D u' c' d1 d2 d3 d5 => i2 (D ++ [px_ssg B t]) S0 u' c' h10 hlt hnt (by
              intro x hx
              rcases List.mem_append.mp hx with q | q
              · exact d1.mono (by omega) x q
              · rw [List.mem_singleton.mp q]
                exact ⟨hs.1, hsb, by omega⟩) (fun q => absurd q h12) (by rw [show lev - 10 + 1 = lev - 9 by omega]; exact d5)
            refine ⟨fun q hF => go (r2 h4 (fun D u' c' d1 d2 d3 d4 d5 => ?_)), fun q hJ => go (r2 h4 (fun D u' c' d1 d2 d3 d4 d5 => ?_))⟩
            · have := (mk D u' c' d1 d2 d3 d5).1 q hF
              rw [List.append_assoc] at this
              exact this
            · have := (mk D u' c' d1 d2 d3 d5).2 q (fun D2 u2 c2 g1 g2 g3 g4 g5 => hJ D2 u2 c2 g1 ?_ (fun e => ?_) (fun j hj => (g4 j hj).trans ((d4 j hj).trans (px_sb_ne _ _ (by omega)))) g5)
              · rw [List.append_assoc] at this
                exact this
              · rw [g2, List.map_append, ← List.append_assoc, d2]
                simp
              · rw [g3 e, d3 (by omega), px_sb_eq]
                have h34 : 3 < px_rk (px_ssg B t) := by omega
                cases hub : u op with
                | true => exact decide_eq_true (Or.inr ⟨h34, rfl⟩)
                | false => exact decide_eq_false (by rintro (q | q); omega; exact absurd q.2 (by simp))
        · rw [rd_loopN hl hs ga h4]
          dsimp only
          exact ⟨fun _ hF => go (r1 (by simpa using h4) hF), fun q => by cases q⟩
      · rw [rd_loopE hl hs]
        dsimp only
        refine ⟨fun q => (by cases q), fun _ hJ => hJ D0 u c hD0 (by simp) (fun _ => rfl) (fun _ _ => rfl) (fun q1 q2 => ?_)⟩
        rcases Nat.lt_or_ge (px_rk (px_ssg B t)) (lev - 10 + 1 + 1) with q | q
        · exact absurd ⟨q1, by omega⟩ hs
        · exact hex q1 q
