theorem cd_upd_same (r : Nat → Int32) {k : Nat} {v : Int32} (h : v = r k) : upd r k v = r := by
  funext j
  unfold upd
  split
  · rename_i hj
    rw [h, hj]
  · rfl
/-- what a sheet's place makes of a habit -/
def cd_ph (M ce : Nat → Int32) (s i : Nat) : Int32 := if ce (24 * s + i) = cd_NONE then M (16 + 5 * i + 2) else cd_wi (ce (24 * s + i)) (nI 0) (nI 99)
theorem cd_po_s (N ce : Nat → Int32) (s i : Nat) : cd_po N ce s (i + 1) = ((cd_po N ce s i).1 + (if (cd_po N ce s i).2 (16 + 5 * i + 2) = cd_ph (cd_po N ce s i).2 ce s i then nI 0 else nI 1), upd (cd_po N ce s i).2 (16 + 5 * i + 2) (cd_ph (cd_po N ce s i).2 ce s i)) := by
  unfold cd_ph
  rfl
theorem cd_ph_ex {M ce : Nat → Int32} {mm s i : Nat} (h : cd_IV M mm) (hi : i < mm) : ∃ k, k ≤ 99 ∧ cd_ph M ce s i = nI k := by
  unfold cd_ph
  split
  · exact (h.1 i hi).2.2.1
  · exact cd_wi_ex _ (by decide)
theorem d_C_pour_0 : cd_D_iload b_C_pour 0 1 1 := Or.inr ⟨1, ⟨by decide +kernel, rfl⟩, rfl⟩
theorem d_C_pour_1 : cd_Dk b_C_pour 1 (nI 3) 2 := Or.inl ⟨3, ⟨by decide +kernel, rfl⟩, by decide +kernel⟩
theorem d_C_pour_2 : cd_D 3 b_C_pour 2 (.invokestatic 58) 5 := ⟨by decide +kernel, rfl⟩
theorem d_C_pour_5 : cd_D_if_ne b_C_pour 5 11 8 := ⟨6, by decide +kernel, by decide, rfl⟩
theorem d_C_pour_8 : cd_D 2 b_C_pour 8 (.ldc 62) 10 := ⟨by decide +kernel, rfl⟩
theorem d_C_pour_10 : cd_D 1 b_C_pour 10 .ireturn 11 := ⟨by decide +kernel, rfl⟩
theorem d_C_pour_11 : cd_D_aload b_C_pour 11 0 12 := Or.inr ⟨0, ⟨by decide +kernel, rfl⟩, rfl⟩
theorem d_C_pour_12 : cd_D 3 b_C_pour 12 (.getfield 35) 15 := ⟨by decide +kernel, rfl⟩
theorem d_C_pour_15 : cd_D_iload b_C_pour 15 1 16 := Or.inr ⟨1, ⟨by decide +kernel, rfl⟩, rfl⟩
theorem d_C_pour_16 : cd_D 1 b_C_pour 16 .aaload 17 := ⟨by decide +kernel, rfl⟩
theorem d_C_pour_17 : cd_D_astore b_C_pour 17 2 18 := Or.inr ⟨2, ⟨by decide +kernel, rfl⟩, rfl⟩
theorem d_C_pour_18 : cd_D_aload b_C_pour 18 2 19 := Or.inr ⟨2, ⟨by decide +kernel, rfl⟩, rfl⟩
theorem d_C_pour_19 : cd_D 3 b_C_pour 19 (.invokevirtual 167) 22 := ⟨by decide +kernel, rfl⟩
theorem d_C_pour_22 : cd_D_if_eq b_C_pour 22 28 25 := ⟨6, by decide +kernel, by decide, rfl⟩
theorem d_C_pour_25 : cd_D 2 b_C_pour 25 (.ldc 171) 27 := ⟨by decide +kernel, rfl⟩
theorem d_C_pour_27 : cd_D 1 b_C_pour 27 .ireturn 28 := ⟨by decide +kernel, rfl⟩
theorem d_C_pour_28 : cd_Dk b_C_pour 28 (nI 0) 29 := Or.inl ⟨0, ⟨by decide +kernel, rfl⟩, by decide +kernel⟩
theorem d_C_pour_29 : cd_D_istore b_C_pour 29 3 30 := Or.inr ⟨3, ⟨by decide +kernel, rfl⟩, rfl⟩
theorem d_C_pour_30 : cd_Dk b_C_pour 30 (nI 0) 31 := Or.inl ⟨0, ⟨by decide +kernel, rfl⟩, by decide +kernel⟩
theorem d_C_pour_31 : cd_D_istore b_C_pour 31 4 33 := Or.inl ⟨by decide +kernel, rfl⟩
theorem d_C_pour_33 : cd_D_iload b_C_pour 33 4 35 := Or.inl ⟨by decide +kernel, rfl⟩
theorem d_C_pour_35 : cd_D_aload b_C_pour 35 0 36 := Or.inr ⟨0, ⟨by decide +kernel, rfl⟩, rfl⟩
theorem d_C_pour_36 : cd_D 3 b_C_pour 36 (.getfield 10) 39 := ⟨by decide +kernel, rfl⟩
theorem d_C_pour_39 : cd_D 3 b_C_pour 39 (.getfield 63) 42 := ⟨by decide +kernel, rfl⟩
theorem d_C_pour_42 : cd_D_icmp_ge b_C_pour 42 123 45 := ⟨81, by decide +kernel, by decide, rfl⟩
theorem d_C_pour_45 : cd_D_iload b_C_pour 45 4 47 := Or.inl ⟨by decide +kernel, rfl⟩
theorem d_C_pour_47 : cd_D_aload b_C_pour 47 2 48 := Or.inr ⟨2, ⟨by decide +kernel, rfl⟩, rfl⟩
theorem d_C_pour_48 : cd_D 3 b_C_pour 48 (.getfield 176) 51 := ⟨by decide +kernel, rfl⟩
theorem d_C_pour_51 : cd_D_icmp_ge b_C_pour 51 123 54 := ⟨72, by decide +kernel, by decide, rfl⟩
theorem d_C_pour_54 : cd_D_aload b_C_pour 54 0 55 := Or.inr ⟨0, ⟨by decide +kernel, rfl⟩, rfl⟩
theorem d_C_pour_55 : cd_D 3 b_C_pour 55 (.getfield 10) 58 := ⟨by decide +kernel, rfl⟩
theorem d_C_pour_58 : cd_D 3 b_C_pour 58 (.getfield 75) 61 := ⟨by decide +kernel, rfl⟩
theorem d_C_pour_61 : cd_D_iload b_C_pour 61 4 63 := Or.inl ⟨by decide +kernel, rfl⟩
theorem d_C_pour_63 : cd_D 1 b_C_pour 63 .aaload 64 := ⟨by decide +kernel, rfl⟩
theorem d_C_pour_64 : cd_D_astore b_C_pour 64 5 66 := Or.inl ⟨by decide +kernel, rfl⟩
theorem d_C_pour_66 : cd_D_aload b_C_pour 66 2 67 := Or.inr ⟨2, ⟨by decide +kernel, rfl⟩, rfl⟩
theorem d_C_pour_67 : cd_D_iload b_C_pour 67 4 69 := Or.inl ⟨by decide +kernel, rfl⟩
theorem d_C_pour_69 : cd_D 3 b_C_pour 69 (.invokevirtual 179) 72 := ⟨by decide +kernel, rfl⟩
theorem d_C_pour_72 : cd_D_if_eq b_C_pour 72 90 75 := ⟨18, by decide +kernel, by decide, rfl⟩
theorem d_C_pour_75 : cd_D_aload b_C_pour 75 2 76 := Or.inr ⟨2, ⟨by decide +kernel, rfl⟩, rfl⟩
theorem d_C_pour_76 : cd_D 3 b_C_pour 76 (.getfield 182) 79 := ⟨by decide +kernel, rfl⟩
theorem d_C_pour_79 : cd_D_iload b_C_pour 79 4 81 := Or.inl ⟨by decide +kernel, rfl⟩
theorem d_C_pour_81 : cd_D 1 b_C_pour 81 .iaload 82 := ⟨by decide +kernel, rfl⟩
theorem d_C_pour_82 : cd_Dk b_C_pour 82 (nI 99) 84 := Or.inr (Or.inl ⟨99, ⟨by decide +kernel, rfl⟩, by decide +kernel⟩)
theorem d_C_pour_84 : cd_D 3 b_C_pour 84 (.invokestatic 249) 87 := ⟨by decide +kernel, rfl⟩
theorem d_C_pour_87 : cd_D_goto b_C_pour 87 95 := ⟨8, by decide +kernel, by decide⟩
theorem d_C_pour_90 : cd_D_aload b_C_pour 90 5 92 := Or.inl ⟨by decide +kernel, rfl⟩
theorem d_C_pour_92 : cd_D 3 b_C_pour 92 (.getfield 87) 95 := ⟨by decide +kernel, rfl⟩
theorem d_C_pour_95 : cd_D_istore b_C_pour 95 6 97 := Or.inl ⟨by decide +kernel, rfl⟩
theorem d_C_pour_97 : cd_D_iload b_C_pour 97 6 99 := Or.inl ⟨by decide +kernel, rfl⟩
theorem d_C_pour_99 : cd_D_aload b_C_pour 99 5 101 := Or.inl ⟨by decide +kernel, rfl⟩
theorem d_C_pour_101 : cd_D 3 b_C_pour 101 (.getfield 87) 104 := ⟨by decide +kernel, rfl⟩
theorem d_C_pour_104 : cd_D_icmp_eq b_C_pour 104 117 107 := ⟨13, by decide +kernel, by decide, rfl⟩
theorem d_C_pour_107 : cd_D_aload b_C_pour 107 5 109 := Or.inl ⟨by decide +kernel, rfl⟩
theorem d_C_pour_109 : cd_D_iload b_C_pour 109 6 111 := Or.inl ⟨by decide +kernel, rfl⟩
theorem d_C_pour_111 : cd_D 3 b_C_pour 111 (.putfield 87) 114 := ⟨by decide +kernel, rfl⟩
theorem d_C_pour_114 : cd_D 3 b_C_pour 114 (.iinc 3 (1)) 117 := ⟨by decide +kernel, rfl⟩
theorem d_C_pour_117 : cd_D 3 b_C_pour 117 (.iinc 4 (1)) 120 := ⟨by decide +kernel, rfl⟩
theorem d_C_pour_120 : cd_D_goto b_C_pour 120 33 := ⟨-87, by decide +kernel, by decide⟩
theorem d_C_pour_123 : cd_D_iload b_C_pour 123 3 124 := Or.inr ⟨3, ⟨by decide +kernel, rfl⟩, rfl⟩
theorem d_C_pour_124 : cd_D 1 b_C_pour 124 .ireturn 125 := ⟨by decide +kernel, rfl⟩
theorem c_C_pour {l : Launch} {w : cd_WT} {S : cd_Sp} {I : cd_Mem} (hC : cd_CD w S) {mm tc : Nat} {N : Nat → Int32} (hG : cd_HG w S I (w.1 + 1) N mm tc) {so sz ce : Nat → Int32} (hS : cd_SR w I so sz ce) (hVS : cd_VS so sz) (z : Int32) : cd_C l w m_C_pour 2 0 0 [.ref w.1, .int z] S I (cd_Pn w S I (sp_pour N so sz ce mm z) tc) := by
  refine cd_intro (by decide) (by simp [Value.category]) (Nat.le_of_ble_eq_true rfl) ?_
  intro X hO hE
  show cd_J w X 0 0 S I 0 [some (.ref w.1), some (.int z), none, none, none, none, none] []
  obtain ⟨hH, hhd, hV, hIV, hR⟩ := id hG
  have hmm := hV.2.1
  have hm1 : I (w.1 + 1) 3 = nI mm := (hR.at 1 (by omega) rfl rfl).trans hV.1
  refine r_iload hO d_C_pour_0 rfl ?_
  refine r_k hO d_C_pour_1 ?_
  refine r_cS2fi hO hE (c_C_isWithin _ _) mf_C_isWithin lk_C_58 (by decide) rfl (Nat.le_of_ble_eq_true rfl) d_C_pour_2 (Nat.zero_le _) (Nat.zero_le _) ?_
  refine r_if_neB hO d_C_pour_5 (fun c_5 => ?_) (fun c_5 => ?_)
  · obtain ⟨s, -, hs3, rfl⟩ := cd_in_ex c_5 (by decide) (by decide)
    obtain ⟨hs0, hs1, hs2⟩ := hS s (by omega)
    obtain ⟨n, hn24, hsz, hso⟩ := hVS s (by omega)
    refine r_aload hO d_C_pour_11 rfl ?_
    refine r_getR hO f_C_35 rfl hC.1 hC.2.2.2.2.2.1 d_C_pour_12 ?_
    refine r_iload hO d_C_pour_15 rfl ?_
    refine r_aald (t := 6) hO hC.2.2.2.2.2.2.2.2.2.2.2.2.2.1 (by decide) (by decide) (by omega) (by decide) (hC.2.2.2.2.2.2.2.2.2.2.2.2.2.2.2.2.2.1 _ (by omega)).1 d_C_pour_16 ?_
    refine r_sA2 hO d_C_pour_17 rfl ?_
    refine r_aload hO d_C_pour_18 rfl ?_
    refine r_cV0fi hO hE (c_S_isMissing (hC.2.2.2.2.2.2.2.2.2.2.2.2.2.2.2.2.2.1 _ (by omega)).2 (Nat.le_trans (Nat.le_add_right _ _) (Nat.le_add_right _ _))) mf_S_isMissing lk_C_167 (hC.2.2.2.2.2.2.2.2.2.2.2.2.2.2.2.2.2.1 _ (by omega)).2.1 rfl (by decide) rfl (Nat.le_of_ble_eq_true rfl) d_C_pour_19 (Nat.zero_le _) (Nat.zero_le _) ?_
    rw [hs0]
    refine r_if_eqB hO d_C_pour_22 (fun c_22 => ?_) (fun c_22 => ?_)
    · have hs22 : ¬ so s = (-1) := c_22
      have loop : ∀ (r i : Nat) (I1 : cd_Mem) (x5 x6 : Option Value), i + r = min n mm → cd_HG w S I1 (w.1 + 1) (cd_po N ce s i).2 mm tc → cd_ofh w (w.1 + 1) I I1 → cd_J w X 0 0 S I1 33 [some (.ref w.1), some (.int (nI s)), some (.ref (w.1 + 62 + 2 * s)), some (.int (cd_po N ce s i).1), some (.int (nI i)), x5, x6] [] := by
        intro r
        induction r with
        | zero =>
          intro i I1 x5 x6 hi hG1 ho1
          have hi2 : i = min n mm := by omega
          have hm3 : I1 (w.1 + 1) 3 = nI mm := (hG1.2.2.2.2.at 1 (by omega) rfl rfl).trans hG1.2.2.1.1
          have hz1 : I1 (w.1 + 62 + 2 * s) 1 = nI n := by rw [ho1 _ (fun q => by rcases q with q | q <;> omega)]; exact hs1.trans hsz
          by_cases hmi : mm ≤ i
          · skip
            refine r_iload hO d_C_pour_33 rfl ?_
            refine r_aload hO d_C_pour_35 rfl ?_
            refine r_getR hO f_C_10 rfl hC.1 hC.2.1 d_C_pour_36 ?_
            refine r_getI hO f_C_63 rfl hH.2.1 d_C_pour_39 ?_
            refine r_tops hm3 ?_
            refine r_icmp_ge hO d_C_pour_42 (fun c_42 => ?_) (fun c_42 => ?_)
            · refine r_iload hO d_C_pour_123 rfl ?_
              refine r_iret hO hE (Nat.zero_le _) (Nat.zero_le _) d_C_pour_124 ?_
              exact cd_pn (by unfold sp_pour; rw [if_pos c_5, cd_tn_nI (show s < 2 ^ 31 by omega), if_pos ((cd_so0 hso).mpr hs22), hsz, cd_tn_nI (show n < 2 ^ 31 by omega)]; rw [← hi2]) hG1 ho1
            · exact absurd (nI_le hmi (by omega)) c_42
          · skip
            refine r_iload hO d_C_pour_33 rfl ?_
            refine r_aload hO d_C_pour_35 rfl ?_
            refine r_getR hO f_C_10 rfl hC.1 hC.2.1 d_C_pour_36 ?_
            refine r_getI hO f_C_63 rfl hH.2.1 d_C_pour_39 ?_
            refine r_tops hm3 ?_
            refine r_icmp_ge hO d_C_pour_42 (fun c_42 => ?_) (fun c_42 => ?_)
            · exact absurd c_42 (nI_ge (by omega) (by omega))
            · refine r_iload hO d_C_pour_45 rfl ?_
              refine r_aload hO d_C_pour_47 rfl ?_
              refine r_getI hO f_C_176 rfl (hC.2.2.2.2.2.2.2.2.2.2.2.2.2.2.2.2.2.1 _ (by omega)).2.1 d_C_pour_48 ?_
              refine r_tops hz1 ?_
              refine r_icmp_ge hO d_C_pour_51 (fun c_51 => ?_) (fun c_51 => ?_)
              · refine r_iload hO d_C_pour_123 rfl ?_
                refine r_iret hO hE (Nat.zero_le _) (Nat.zero_le _) d_C_pour_124 ?_
                exact cd_pn (by unfold sp_pour; rw [if_pos c_5, cd_tn_nI (show s < 2 ^ 31 by omega), if_pos ((cd_so0 hso).mpr hs22), hsz, cd_tn_nI (show n < 2 ^ 31 by omega)]; rw [← hi2]) hG1 ho1
              · exact absurd (nI_le (by omega) (by omega)) c_51
        | succ r ih =>
          intro i I1 x5 x6 hi hG1 ho1
          have him : i < mm := by omega
          have hin : i < n := by omega
          have hm3 : I1 (w.1 + 1) 3 = nI mm := (hG1.2.2.2.2.at 1 (by omega) rfl rfl).trans hG1.2.2.1.1
          have hz1 : I1 (w.1 + 62 + 2 * s) 1 = nI n := by rw [ho1 _ (fun q => by rcases q with q | q <;> omega)]; exact hs1.trans hsz
          have hce : I1 (w.1 + 62 + 2 * s + 1) i = ce (24 * s + i) := by rw [ho1 _ (fun q => by rcases q with q | q <;> omega)]; exact hs2 i (by omega)
          have hps := cd_po_s N ce s i
          have hpx := cd_ph_ex (ce := ce) (s := s) hG1.2.2.2.1 him
          revert hG1 hps hpx
          generalize hM : (cd_po N ce s i).2 = M
          intro hG1 hps hpx
          have hb2 : I1 (w.1 + 1 + 6 + i) 2 = M (16 + 5 * i + 2) := hG1.2.2.2.2.ask him 2 (by decide)
          refine r_iload hO d_C_pour_33 rfl ?_
          refine r_aload hO d_C_pour_35 rfl ?_
          refine r_getR hO f_C_10 rfl hC.1 hC.2.1 d_C_pour_36 ?_
          refine r_getI hO f_C_63 rfl hH.2.1 d_C_pour_39 ?_
          refine r_tops hm3 ?_
          refine r_icmp_ge hO d_C_pour_42 (fun c_42 => ?_) (fun c_42 => ?_)
          · exact absurd c_42 (nI_ge (by omega) (by omega))
          · refine r_iload hO d_C_pour_45 rfl ?_
            refine r_aload hO d_C_pour_47 rfl ?_
            refine r_getI hO f_C_176 rfl (hC.2.2.2.2.2.2.2.2.2.2.2.2.2.2.2.2.2.1 _ (by omega)).2.1 d_C_pour_48 ?_
            refine r_tops hz1 ?_
            refine r_icmp_ge hO d_C_pour_51 (fun c_51 => ?_) (fun c_51 => ?_)
            · exact absurd c_51 (nI_ge (by omega) (by omega))
            · refine r_aload hO d_C_pour_54 rfl ?_
              refine r_getR hO f_C_10 rfl hC.1 hC.2.1 d_C_pour_55 ?_
              refine r_getR hO f_C_75 rfl hH.2.1 hH.2.2.2.2.1.1 d_C_pour_58 ?_
              refine r_iload hO d_C_pour_61 rfl ?_
              refine r_aald (t := 4) hO hH.2.2.2.2.1.2 (by decide) (by decide) (by omega) (by decide) (hH.2.2.2.2.2.2.2 _ (by omega)).1 d_C_pour_63 ?_
              refine r_sA5 hO d_C_pour_64 rfl ?_
              refine r_aload hO d_C_pour_66 rfl ?_
              refine r_iload hO d_C_pour_67 rfl ?_
              refine r_cV1fi hO hE (c_S_isNumber (hC.2.2.2.2.2.2.2.2.2.2.2.2.2.2.2.2.2.1 _ (by omega)).2 (Nat.le_trans (Nat.le_add_right _ _) (Nat.le_add_right _ _)) hz1 hn24 _) mf_S_isNumber lk_C_179 (hC.2.2.2.2.2.2.2.2.2.2.2.2.2.2.2.2.2.1 _ (by omega)).2.1 rfl (by decide) rfl (Nat.le_of_ble_eq_true rfl) d_C_pour_69 (Nat.zero_le _) (Nat.zero_le _) ?_
              refine r_jn1 (pcJ := 95) (fun v => v = cd_ph M ce s i) (fun v_72 hv_72 => ?_) (fun hj_72 => ?_)
              · subst hv_72
                refine r_sI6 hO d_C_pour_95 rfl ?_
                refine r_iload hO d_C_pour_97 rfl ?_
                refine r_aload hO d_C_pour_99 rfl ?_
                refine r_getI hO f_C_87 rfl (hH.2.2.2.2.2.2.2 _ (by omega)).2 d_C_pour_101 ?_
                rw [hb2]
                refine r_icmp_eq hO d_C_pour_104 (fun c_104 => ?_) (fun c_104 => ?_)
                · refine r_incN4 hO d_C_pour_117 rfl ?_
                  refine r_goto hO d_C_pour_120 ?_
                  have e1 : cd_po N ce s (i + 1) = ((cd_po N ce s i).1, M) := by
                    rw [hps, if_pos c_104.symm, ← cd_p0, cd_upd_same _ c_104]
                  have e2 : (cd_po N ce s i).1 = (cd_po N ce s (i + 1)).1 := by rw [e1]
                  rw [e2]
                  exact ih (i + 1) I1 _ _ (by omega) (by rw [e1]; exact hG1) ho1
                · refine r_aload hO d_C_pour_107 rfl ?_
                  refine r_iload hO d_C_pour_109 rfl ?_
                  refine r_putI hO f_C_87 rfl (hH.2.2.2.2.2.2.2 _ (by omega)).2 (Nat.le_trans hH.1 (Nat.le_trans (Nat.le_add_right _ 6) (Nat.le_add_right _ _))) d_C_pour_111 ?_
                  refine r_inc3 hO d_C_pour_114 rfl rfl ?_
                  refine r_incN4 hO d_C_pour_117 rfl ?_
                  refine r_goto hO d_C_pour_120 ?_
                  have e1 : cd_po N ce s (i + 1) = ((cd_po N ce s i).1 + nI 1, upd M (16 + 5 * i + 2) (cd_ph M ce s i)) := by
                    rw [hps, if_neg (fun q => c_104 q.symm)]
                  have e2 : (cd_po N ce s i).1 + Int32.ofInt 1 = (cd_po N ce s (i + 1)).1 := by rw [e1]; rfl
                  rw [e2]
                  exact ih (i + 1) _ _ _ (by omega) (by rw [e1]; exact cd_HG_ask hG1 him 2 (by decide) _ hpx) (ho1.tr (cd_ofh.set _ _ (cd_wr_in (by omega) (by omega))))
              · refine r_if_eqB hO d_C_pour_72 (fun c_72 => ?_) (fun c_72 => ?_)
                · refine r_aload hO d_C_pour_90 rfl ?_
                  refine r_getI hO f_C_87 rfl (hH.2.2.2.2.2.2.2 _ (by omega)).2 d_C_pour_92 ?_
                  rw [hb2]
                  exact hj_72 _ (by unfold cd_ph; rw [if_pos (by rw [← hce]; exact Decidable.not_not.mp (fun q => c_72 ⟨nI_pos (by omega), nI_ge (by omega) (by omega), by rw [cd_tn_nI (show i < 2 ^ 31 by omega)]; exact q⟩))])
                · refine r_aload hO d_C_pour_75 rfl ?_
                  refine r_getR hO f_C_182 rfl (hC.2.2.2.2.2.2.2.2.2.2.2.2.2.2.2.2.2.1 _ (by omega)).2.1 (hC.2.2.2.2.2.2.2.2.2.2.2.2.2.2.2.2.2.1 _ (by omega)).2.2.1 d_C_pour_76 ?_
                  refine r_iload hO d_C_pour_79 rfl ?_
                  refine r_iald hO (hC.2.2.2.2.2.2.2.2.2.2.2.2.2.2.2.2.2.1 _ (by omega)).2.2.2 (by omega) (by decide) d_C_pour_81 ?_
                  rw [hce]
                  refine r_k hO d_C_pour_82 ?_
                  refine r_cS2fi hO hE (c_C_heldWithin _ _) mf_C_heldWithin lk_C_249 (by decide) rfl (Nat.le_of_ble_eq_true rfl) d_C_pour_84 (Nat.zero_le _) (Nat.zero_le _) ?_
                  refine r_tops (cd_hw_wi _ (by decide)) ?_
                  refine r_goto hO d_C_pour_87 ?_
                  exact hj_72 _ (by unfold cd_ph; rw [if_neg (by have := c_72.2.2; rw [cd_tn_nI (show i < 2 ^ 31 by omega), hce] at this; exact this)])
      refine r_k hO d_C_pour_28 ?_
      refine r_sI3 hO d_C_pour_29 rfl ?_
      refine r_k hO d_C_pour_30 ?_
      refine r_sI4 hO d_C_pour_31 rfl ?_
      exact loop (min n mm) 0 I _ _ (by omega) hG (cd_ofh.rf _ _ _)
    · refine r_ldc hO k_C_171 d_C_pour_25 ?_
      refine r_iret hO hE (Nat.zero_le _) (Nat.zero_le _) d_C_pour_27 ?_
      exact cd_pn (by unfold sp_pour; rw [if_pos c_5, cd_tn_nI (show s < 2 ^ 31 by omega), if_neg (fun q => (cd_so0 hso).mp q c_22)]) hG (cd_ofh.rf _ _ _)
  · refine r_ldc hO k_C_62 d_C_pour_8 ?_
    refine r_iret hO hE (Nat.zero_le _) (Nat.zero_le _) d_C_pour_10 ?_
    exact cd_pn (by unfold sp_pour; rw [if_neg c_5]) hG (cd_ofh.rf _ _ _)
