theorem tp_level {l : Launch} {w : cd_WT} {S : cd_Sp} (hC : cd_CD w S) {B : Nat → Nat} {L ky n : Nat} (ih : ∀ f, f ≤ n → (∀ op nt t I u v, op ≤ 8 → nt ≤ 8 → px_need L 5 t ≤ f → px_CT I w B L ky t u v → u ≤ t.1 → cd_C l w m_T_readsPiece (6 + 7 * (8 - op) + (8 - nt)) 0 0 [.ref (w.1 + 55), .int (nI op), .int (nI nt)] S I (cd_Pi S (px_PO I w B L ky u v (px_rdt B L ky f 5 op nt t)))) ∧ ∀ lev op nt t I u v, lev ≤ 5 → op ≤ 8 → nt ≤ 8 → px_need L lev t ≤ f → px_CT I w B L ky t u v → u ≤ t.1 → cd_C l w m_T_readsLevel (6 + 7 * (8 - op) + (8 - nt) + 1 + (5 - lev)) 0 0 [.ref (w.1 + 55), .int (nI lev), .int (nI op), .int (nI nt)] S I (cd_Pi S (px_PO I w B L ky u v (px_rdt B L ky f lev op nt t)))) (hp5 : ∀ op nt t I u v, op ≤ 8 → nt ≤ 8 → px_need L 5 t ≤ n + 1 → px_CT I w B L ky t u v → u ≤ t.1 → cd_C l w m_T_readsPiece (6 + 7 * (8 - op) + (8 - nt)) 0 0 [.ref (w.1 + 55), .int (nI op), .int (nI nt)] S I (cd_Pi S (px_PO I w B L ky u v (px_rdt B L ky (n + 1) 5 op nt t)))) {lev op nt : Nat} {t : px_Tok} {I : cd_Mem} {u v : Nat} (hlev : lev ≤ 5) (hop : op ≤ 8) (hnt : nt ≤ 8) (hf : px_need L lev t ≤ n + 1) (h : px_CT I w B L ky t u v) (hu : u ≤ t.1) : cd_C l w m_T_readsLevel (6 + 7 * (8 - op) + (8 - nt) + 1 + (5 - lev)) 0 0 [.ref (w.1 + 55), .int (nI lev), .int (nI op), .int (nI nt)] S I (cd_Pi S (px_PO I w B L ky u v (px_rdt B L ky (n + 1) lev op nt t))) := by
  refine cd_intro (by decide) (by simp [Value.category]) (Nat.le_of_ble_eq_true rfl) ?_
  intro X hO hE
  show cd_J w X 0 0 S I 0 [some (.ref (w.1 + 55)), some (.int (nI lev)), some (.int (nI op)), some (.int (nI nt)), none, none, none] []
  obtain ⟨hB, hO2, t1, t2, t3, ⟨t4, t4b⟩, t5, t6, t7⟩ := id h
  have hkd := hO2.2.2.2.2.1
  have hL9 := hB.2.1
  have hnL := hO2.2.1
  have htL := hO2.1
  by_cases hl5 : lev = 5
  · subst hl5
    refine r_iload hO d_T_readsLevel_0 rfl ?_
    refine r_k hO d_T_readsLevel_1 ?_
    refine r_icmp_ne hO d_T_readsLevel_2 (fun c_2 => ?_) (fun c_2 => ?_)
    · exact absurd rfl c_2
    · refine r_aload hO d_T_readsLevel_5 rfl ?_
      refine r_iload hO d_T_readsLevel_6 rfl ?_
      refine r_iload hO d_T_readsLevel_7 rfl ?_
      refine r_cV2i hO hE (hp5 op nt t I u v hop hnt hf h hu) mf_T_readsPiece lk_T_73 hC.2.2.2.2.2.2.2.2.2.2.2.2.1.1 rfl (by omega) rfl (Nat.le_of_ble_eq_true rfl) d_T_readsLevel_8 (Nat.zero_le _) (Nat.zero_le _) ?_
      rintro y I2 hp
      refine r_zret hO hE (px_PO_z hp) (Nat.zero_le _) (Nat.zero_le _) d_T_readsLevel_11 ?_
      exact ⟨_, rfl, rfl, hp⟩
  · have hl4 : lev < 5 := by omega
    have hn0 : 8 * (L - t.1) + (7 - lev) ≤ n + 1 := by unfold px_need at hf; rw [if_pos hlev] at hf; exact hf
    obtain ⟨r, hr⟩ : ∃ r, r = px_rdt B L ky (n + 1) lev op nt t := ⟨_, rfl⟩
    rw [← hr] at hE
    have hmost : (if lev = 2 then 1 else 96) ≤ 96 := by split <;> decide
    have loop : ∀ (g : Nat) (tt : px_Tok) (I1 : cd_Mem) (c1 : List Int32) (i : Nat) (x6 : Option Value), g ≤ n → px_CT I1 w B L ky tt (u + c1.length) (v + px_lv c1) → px_AP I I1 w u c1 → u + c1.length ≤ tt.1 → i + 1 ≤ tt.1 → (lev = 2 → i = 0) → px_need L (lev + 10) tt ≤ g → r = ((px_rdt B L ky g (lev + 10) op nt tt).1, (px_rdt B L ky g (lev + 10) op nt tt).2.1, c1 ++ (px_rdt B L ky g (lev + 10) op nt tt).2.2) → cd_J w X 0 0 S I1 42 [some (.ref (w.1 + 55)), some (.int (nI lev)), some (.int (nI op)), some (.int (nI nt)), some (.int (nI (if lev = 2 then 1 else 96))), some (.int (nI (i))), x6] [] := by
      intro g
      induction g with
      | zero =>
        intro tt I1 c1 i x6 hg h1 ha hb hi hi2 hnd
        exfalso
        unfold px_need at hnd
        rw [if_neg (by omega)] at hnd
        omega
      | succ g ihg =>
        intro tt I1 c1 i x6 hg h1 ha hb hi hi2 hnd hrr
        have hn1 : 8 * (L - tt.1) + 1 ≤ g + 1 := by unfold px_need at hnd; rw [if_neg (by omega)] at hnd; exact hnd
        obtain ⟨hB1, hO1, s1, s2, s3, s4, s5, s6, s7⟩ := id h1
        have hkd1 := hO1.2.2.2.2.1
        have hnL1 := hO1.2.1
        have htL1 := hO1.1
        have him : i < (if lev = 2 then 1 else 96) := by
          by_cases e2 : lev = 2
          · rw [if_pos e2, hi2 e2]; decide
          · rw [if_neg e2]; omega
        have e9 : lev + 10 - 9 = lev + 1 := by omega
        refine r_iload hO d_T_readsLevel_42 rfl ?_
        refine r_iload hO d_T_readsLevel_44 rfl ?_
        refine r_icmp_ge hO d_T_readsLevel_46 (fun c_46 => ?_) (fun c_46 => ?_)
        · exact absurd c_46 (nI_ge him (by omega))
        · refine r_aload hO d_T_readsLevel_49 rfl ?_
          refine r_iload hO d_T_readsLevel_50 rfl ?_
          refine r_cV1fi hO hE (c_T_isSignOf hC h1 lev (by omega)) mf_T_isSignOf lk_T_77 hC.2.2.2.2.2.2.2.2.2.2.2.2.1.1 rfl (by omega) rfl (Nat.le_of_ble_eq_true rfl) d_T_readsLevel_51 (Nat.zero_le _) (Nat.zero_le _) ?_
          refine r_if_eqB hO d_T_readsLevel_54 (fun c_54 => ?_) (fun c_54 => ?_)
          · refine r_k hO d_T_readsLevel_99 ?_
            refine r_zret hO hE (by first | exact Or.inl rfl | exact Or.inr rfl) (Nat.zero_le _) (Nat.zero_le _) d_T_readsLevel_100 ?_
            rw [hrr, rd_loopE (by omega) (by rw [e9]; exact c_54)]
            exact ⟨_, rfl, rfl, Or.inl ⟨rfl, rfl, by rw [List.append_nil]; exact h1, by rw [List.append_nil]; exact ha⟩⟩
          · have hk3 := px_ssg_k c_54.1
            have hsb := px_ssg_b B tt
            obtain ⟨hl1, hl2, hbb, hby⟩ := h1.b (Or.inl hk3)
            have hadv := px_adv_lt hO1 (by omega)
            have hato := (px_adv_ok hO1).1
            have hatL := hato.1
            have hsg : 0 < px_ssg B tt ∧ px_rk (px_ssg B tt) = lev + 10 - 9 := by rw [e9]; exact c_54
            have htr : -(px_sx (B tt.1)) = cd_tr (px_sc (px_ssg B tt)) := by
              have h0 := c_54.1
              unfold px_ssg at h0 ⊢
              rw [if_pos hk3] at h0 ⊢
              exact px_trs _ hbb h0
            refine r_aload hO d_T_readsLevel_57 rfl ?_
            refine r_getR hO f_T_33 rfl hC.2.2.2.2.2.2.2.2.2.2.2.2.1.1 hC.2.2.2.2.2.2.2.2.2.2.2.2.1.2.1 d_T_readsLevel_58 ?_
            refine r_aload hO d_T_readsLevel_61 rfl ?_
            refine r_getI hO f_T_15 rfl hC.2.2.2.2.2.2.2.2.2.2.2.2.1.1 d_T_readsLevel_62 ?_
            refine r_tops (show _ = nI tt.1 from s1) ?_
            refine r_bald hO hC.2.2.2.2.2.2.2.2.2.2.2.2.1.2.2.2.1 (by omega) (by decide) d_T_readsLevel_65 ?_
            rw [hby]
            refine r_sI6 hO d_T_readsLevel_66 rfl ?_
            refine r_aload hO d_T_readsLevel_68 rfl ?_
            refine r_cV0v hO hE (c_T_advances_r hC h1) mf_T_advances lk_T_41 hC.2.2.2.2.2.2.2.2.2.2.2.2.1.1 rfl (by omega) rfl (Nat.le_of_ble_eq_true rfl) d_T_readsLevel_69 (Nat.zero_le _) (Nat.zero_le _) ?_
            rintro I2 ⟨g1, g2⟩
            refine r_aload hO d_T_readsLevel_72 rfl ?_
            refine r_iload hO d_T_readsLevel_73 rfl ?_
            refine r_k hO d_T_readsLevel_74 ?_
            refine r_iaddN hO d_T_readsLevel_75 ?_
            refine r_iload hO d_T_readsLevel_76 rfl ?_
            refine r_iload hO d_T_readsLevel_77 rfl ?_
            refine r_cV3i hO hE ((ih g (by omega)).2 (lev + 1) op nt (px_adv B L tt) I2 _ _ (by omega) hop hnt (by unfold px_need; rw [if_pos (by omega)]; omega) g1 (by omega)) mf_T_readsLevel lk_T_48 hC.2.2.2.2.2.2.2.2.2.2.2.2.1.1 rfl (by omega) rfl (Nat.le_of_ble_eq_true rfl) d_T_readsLevel_78 (Nat.zero_le _) (Nat.zero_le _) ?_
            rintro y I3 hp
            have hrd := rd_ok (B := B) (L := L) (ky := ky) g (lev + 1) op nt _ hato (Or.inl (by omega))
            generalize ga : px_rdt B L ky g (lev + 1) op nt (px_adv B L tt) = a at hp hrd
            rcases hp with ⟨e1, rfl, e3, e4⟩ | ⟨e1, rfl, q1, q2, ⟨u', q3, q4⟩, q5⟩
            · have hl3 := (hrd.2 e1).1
              have hl4 := hrd.1.1
              have hl5 := ((hrd.2 e1).2.1 (by omega)).1
              refine r_if_ne hO d_T_readsLevel_81 (fun c_81 => ?_) (fun c_81 => ?_)
              · refine r_aload hO d_T_readsLevel_86 rfl ?_
                refine r_iload hO d_T_readsLevel_87 rfl ?_
                refine r_ineg hO d_T_readsLevel_89 ?_
                refine r_cV1v hO hE (c_T_puts_r hC e3 (by omega) _) mf_T_puts lk_T_81 hC.2.2.2.2.2.2.2.2.2.2.2.2.1.1 rfl (by omega) rfl (Nat.le_of_ble_eq_true rfl) d_T_readsLevel_90 (Nat.zero_le _) (Nat.zero_le _) ?_
                rintro I4 ⟨g5, g6, g7⟩
                refine r_incN5 hO d_T_readsLevel_93 rfl ?_
                refine r_goto hO d_T_readsLevel_96 ?_
                have k1 : px_CT I4 w B L ky a.2.1 (u + (c1 ++ a.2.2 ++ [px_sc (px_ssg B tt)]).length) (v + px_lv (c1 ++ a.2.2 ++ [px_sc (px_ssg B tt)])) := by
                  rw [px_lv_app, px_lv_app, px_lv_sc (by omega) (by omega), List.length_append, List.length_append, Nat.add_zero, ← Nat.add_assoc, ← Nat.add_assoc, ← Nat.add_assoc]
                  exact g5
                have k2 : px_AP I I4 w u (c1 ++ a.2.2 ++ [px_sc (px_ssg B tt)]) := by
                  have e5 := ha.tr ((px_AP.nil g2).tr e4)
                  rw [List.nil_append] at e5
                  refine e5.tr (px_AP.one g7 ?_ htr)
                  rw [g6, List.length_append, Nat.add_assoc]
                have k3 : (c1 ++ a.2.2 ++ [px_sc (px_ssg B tt)]).length = c1.length + a.2.2.length + 1 := by
                  rw [List.length_append, List.length_append]; rfl
                by_cases e2 : lev = 2
                · refine r_iload hO d_T_readsLevel_42 rfl ?_
                  refine r_iload hO d_T_readsLevel_44 rfl ?_
                  refine r_icmp_ge hO d_T_readsLevel_46 (fun c_46 => ?_) (fun c_46 => ?_)
                  · refine r_k hO d_T_readsLevel_99 ?_
                    refine r_zret hO hE (by first | exact Or.inl rfl | exact Or.inr rfl) (Nat.zero_le _) (Nat.zero_le _) d_T_readsLevel_100 ?_
                    rw [hrr, rd_loop2 (by omega) hsg (by rw [e9]; exact ga) e1]
                    refine ⟨_, rfl, rfl, Or.inl ⟨rfl, rfl, ?_, ?_⟩⟩
                    · show px_CT I4 w B L ky a.2.1 (u + (c1 ++ (a.2.2 ++ [px_sc (px_ssg B tt)])).length) (v + px_lv (c1 ++ (a.2.2 ++ [px_sc (px_ssg B tt)])))
                      rw [← List.append_assoc]
                      exact k1
                    · show px_AP I I4 w u (c1 ++ (a.2.2 ++ [px_sc (px_ssg B tt)]))
                      rw [← List.append_assoc]
                      exact k2
                  · exact absurd (nI_le (by rw [if_pos e2]; omega) (by omega)) c_46
                · refine ihg a.2.1 I4 (c1 ++ a.2.2 ++ [px_sc (px_ssg B tt)]) (i + 1) _ (by omega) k1 k2 (by omega) (by omega) (fun q => absurd q e2) (by unfold px_need; rw [if_neg (by omega)]; omega) ?_
                  rw [hrr, rd_loopY (by omega) (by omega) hsg (by rw [e9]; exact ga) e1 rfl]
                  simp
              · exact absurd c_81 (by decide)
            · refine r_if_ne hO d_T_readsLevel_81 (fun c_81 => ?_) (fun c_81 => ?_)
              · exact absurd rfl c_81
              · refine r_k hO d_T_readsLevel_84 ?_
                refine r_zret hO hE (by first | exact Or.inl rfl | exact Or.inr rfl) (Nat.zero_le _) (Nat.zero_le _) d_T_readsLevel_85 ?_
                rw [hrr, rd_loopN (a := a) (by omega) hsg (by rw [e9]; exact ga) (by rw [e1]; decide)]
                exact ⟨_, rfl, rfl, Or.inr ⟨rfl, rfl, q1, q2, ⟨u', q3, q4⟩, (ha.1.tr (g2.mono (fun b hb => by simp at hb ⊢; omega))).tr q5⟩⟩
    refine r_iload hO d_T_readsLevel_0 rfl ?_
    refine r_k hO d_T_readsLevel_1 ?_
    refine r_icmp_ne hO d_T_readsLevel_2 (fun c_2 => ?_) (fun c_2 => ?_)
    · refine r_aload hO d_T_readsLevel_12 rfl ?_
      refine r_iload hO d_T_readsLevel_13 rfl ?_
      refine r_k hO d_T_readsLevel_14 ?_
      refine r_iaddN hO d_T_readsLevel_15 ?_
      refine r_iload hO d_T_readsLevel_16 rfl ?_
      refine r_iload hO d_T_readsLevel_17 rfl ?_
      refine r_cV3i hO hE ((ih n (Nat.le_refl _)).2 (lev + 1) op nt t I u v (by omega) hop hnt (by unfold px_need; rw [if_pos (by omega)]; omega) h hu) mf_T_readsLevel lk_T_48 hC.2.2.2.2.2.2.2.2.2.2.2.2.1.1 rfl (by omega) rfl (Nat.le_of_ble_eq_true rfl) d_T_readsLevel_18 (Nat.zero_le _) (Nat.zero_le _) ?_
      rintro y I2 hp
      have hrd := rd_ok (B := B) (L := L) (ky := ky) n (lev + 1) op nt t hO2 (Or.inl (by omega))
      generalize ga : px_rdt B L ky n (lev + 1) op nt t = a at hp hrd
      rcases hp with ⟨e1, rfl, e3, e4⟩ | ⟨e1, rfl, q1, q2, ⟨u', q3, q4⟩, q5⟩
      · have hl1 := (hrd.2 e1).1
        have hl2 := hrd.1.1
        have hl3 := ((hrd.2 e1).2.1 (by omega)).1
        refine r_if_ne hO d_T_readsLevel_21 (fun c_21 => ?_) (fun c_21 => ?_)
        · refine r_iload hO d_T_readsLevel_26 rfl ?_
          refine r_k hO d_T_readsLevel_27 ?_
          refine r_jn2 (pcJ := 37) (fun v => v = nI (if lev = 2 then 1 else 96)) (fun v_28 hv_28 => ?_) (fun hj_28 => ?_)
          · subst hv_28
            refine r_sI4 hO d_T_readsLevel_37 rfl ?_
            refine r_k hO d_T_readsLevel_39 ?_
            refine r_sI5 hO d_T_readsLevel_40 rfl ?_
            exact loop n a.2.1 I2 a.2.2 0 _ (Nat.le_refl _) e3 e4 (by omega) (by omega) (fun _ => rfl) (by unfold px_need; rw [if_neg (by omega)]; omega) (hr.trans (rd_levY hl4 ga e1 rfl))
          · refine r_icmp_ne hO d_T_readsLevel_28 (fun c_28 => ?_) (fun c_28 => ?_)
            · rw [nI_eq (by omega) (by omega)] at c_28
              refine r_k hO d_T_readsLevel_35 ?_
              exact hj_28 _ (by rw [if_neg c_28])
            · rw [nI_eq (by omega) (by omega)] at c_28
              refine r_k hO d_T_readsLevel_31 ?_
              refine r_goto hO d_T_readsLevel_32 ?_
              exact hj_28 _ (by rw [if_pos c_28])
        · exact absurd c_21 (by decide)
      · refine r_if_ne hO d_T_readsLevel_21 (fun c_21 => ?_) (fun c_21 => ?_)
        · exact absurd rfl c_21
        · refine r_k hO d_T_readsLevel_24 ?_
          refine r_zret hO hE (by first | exact Or.inl rfl | exact Or.inr rfl) (Nat.zero_le _) (Nat.zero_le _) d_T_readsLevel_25 ?_
          rw [hr, rd_levN hl4 ga (by rw [e1]; decide)]
          exact ⟨_, rfl, rfl, Or.inr ⟨rfl, rfl, q1, q2, ⟨u', q3, q4⟩, q5⟩⟩
    · exact absurd ((nI_eq (by omega) (by omega)).mp c_2) hl5
theorem tp_rec {l : Launch} {w : cd_WT} {S : cd_Sp} (hC : cd_CD w S) {B : Nat → Nat} {L ky : Nat} : ∀ n f, f ≤ n → (∀ op nt t I u v, op ≤ 8 → nt ≤ 8 → px_need L 5 t ≤ f → px_CT I w B L ky t u v → u ≤ t.1 → cd_C l w m_T_readsPiece (6 + 7 * (8 - op) + (8 - nt)) 0 0 [.ref (w.1 + 55), .int (nI op), .int (nI nt)] S I (cd_Pi S (px_PO I w B L ky u v (px_rdt B L ky f 5 op nt t)))) ∧ ∀ lev op nt t I u v, lev ≤ 5 → op ≤ 8 → nt ≤ 8 → px_need L lev t ≤ f → px_CT I w B L ky t u v → u ≤ t.1 → cd_C l w m_T_readsLevel (6 + 7 * (8 - op) + (8 - nt) + 1 + (5 - lev)) 0 0 [.ref (w.1 + 55), .int (nI lev), .int (nI op), .int (nI nt)] S I (cd_Pi S (px_PO I w B L ky u v (px_rdt B L ky f lev op nt t)))
  | 0, f, hf => by
    have hf0 : f = 0 := by omega
    subst hf0
    refine ⟨fun op nt t I u v _ _ hn => ?_, fun lev op nt t I u v hl _ _ hn => ?_⟩
    · unfold px_need at hn
      rw [if_pos (by decide)] at hn
      omega
    · unfold px_need at hn
      rw [if_pos hl] at hn
      omega
  | n + 1, f, hf => by
    have ih := fun f hf => tp_rec (l := l) hC (B := B) (L := L) (ky := ky) n f hf
    by_cases e : f ≤ n
    · exact ih f e
    · have hfe : f = n + 1 := by omega
      subst hfe
      have hp5 : ∀ op nt t I u v, op ≤ 8 → nt ≤ 8 → px_need L 5 t ≤ n + 1 → px_CT I w B L ky t u v → u ≤ t.1 → cd_C l w m_T_readsPiece (6 + 7 * (8 - op) + (8 - nt)) 0 0 [.ref (w.1 + 55), .int (nI op), .int (nI nt)] S I (cd_Pi S (px_PO I w B L ky u v (px_rdt B L ky (n + 1) 5 op nt t))) := fun op nt t I u v h1 h2 h3 h4 h5 => tp_piece hC ih h1 h2 h3 h4 h5
      exact ⟨hp5, fun lev op nt t I u v h0 h1 h2 h3 h4 h5 => tp_level hC ih hp5 h0 h1 h2 h3 h4 h5⟩
