theorem px_wd : ∀ i, i < 3 → cd_tl.getD i 0 = px_ka (i + 1) - px_ka i ∧ ∀ k, k < px_ka (i + 1) - px_ka i → (cd_tb.getD i []).getD k 0 = nI (px_kc (px_ka i + k)) ∧ px_kc (px_ka i + k) < 128 := by decide +kernel
/-- the token that the component's tape tells -/
def px_CK (I : cd_Mem) (w : cd_WT) (B : Nat → Nat) (L : Nat) (t : px_Tok) : Prop := px_CP I w B L ∧ px_TO B L t ∧ I (w.1 + 55) 1 = nI t.1 ∧ I (w.1 + 55) 2 = nI t.2.2 ∧ I (w.1 + 55) 3 = nI t.2.1
theorem c_T_advances_r {l : Launch} {w : cd_WT} {S : cd_Sp} {I : cd_Mem} (hC : cd_CD w S) {B : Nat → Nat} {L ky : Nat} {t : px_Tok} {u v : Nat} (h : px_CT I w B L ky t u v) : cd_C l w m_T_advances 1 0 0 [.ref (w.1 + 55)] S I (cd_Pv S (fun I' => px_CT I' w B L ky (px_adv B L t) u v ∧ cd_off I I' [w.1 + 55])) := by
  obtain ⟨hB, hO2, t1, t2, t3, ⟨t4, t4b⟩, t5, t6, t7⟩ := h
  refine px_imp (c_T_advances hC hB t2 hO2.2.1 t3 hO2.2.2.2.2.1) ?_
  rintro r S' I' ⟨b1, b2, Q, rfl, k0, k1, k2, k3⟩
  refine ⟨b1, b2, ?_, cd_off.set _ _ (by simp)⟩
  unfold px_CT px_CP
  rw [cd_set_eq, cd_set_ne _ _ (show w.1 + 56 ≠ w.1 + 55 by omega), k0 0 (by decide) (by decide) (by decide), k0 4 (by decide) (by decide) (by decide), k0 5 (by decide) (by decide) (by decide), k0 6 (by decide) (by decide) (by decide)]
  exact ⟨hB, (px_adv_ok hO2).1, k1, k2, k3, ⟨t4, t4b⟩, t5, t6, t7⟩
theorem c_T_puts_r {l : Launch} {w : cd_WT} {S : cd_Sp} {I : cd_Mem} (hC : cd_CD w S) {B : Nat → Nat} {L ky : Nat} {t : px_Tok} {u v : Nat} (h : px_CT I w B L ky t u v) (hu : u < 96) (x : Int32) : cd_C l w m_T_puts 0 0 0 [.ref (w.1 + 55), .int x] S I (cd_Pv S (fun I' => px_CT I' w B L ky t (u + 1) v ∧ I' (w.1 + 57) = upd (I (w.1 + 57)) u x ∧ cd_off I I' [w.1 + 55, w.1 + 57])) := by
  obtain ⟨hB, hO2, t1, t2, t3, t4, t5, t6, t7⟩ := h
  refine px_imp (c_T_puts hC t6 t7 x) ?_
  rintro r S' I' ⟨b1, b2, b3⟩
  rw [if_pos hu] at b3
  subst b3
  refine ⟨b1, b2, ?_, by rw [cd_set_ne _ _ (by omega), cd_set_eq], (cd_off.set _ _ (by simp)).tr (cd_off.set _ _ (by simp))⟩
  unfold px_CT px_CP
  rw [cd_set_eq, cd_set_ne _ _ (show w.1 + 56 ≠ w.1 + 55 by omega), cd_set_ne _ _ (show w.1 + 56 ≠ w.1 + 57 by omega)]
  exact ⟨hB, hO2, t1, t2, t3, t4, t5, rfl, hu⟩
/-- codes came behind the first u -/
def px_AP (I I' : cd_Mem) (w : cd_WT) (u : Nat) (c : List Int32) : Prop := cd_off I I' [w.1 + 55, w.1 + 57] ∧ (∀ k, k < u → I' (w.1 + 57) k = I (w.1 + 57) k) ∧ ∀ k, k < c.length → I' (w.1 + 57) (u + k) = cd_tr (c.getD k 0)
theorem px_AP.nil {I I' : cd_Mem} {w : cd_WT} {u : Nat} (h : cd_off I I' [w.1 + 55]) : px_AP I I' w u [] := ⟨fun b hb => h b (by simp at hb ⊢; omega), fun k _ => by rw [h _ (by simp)], fun k hk => absurd hk (Nat.not_lt_zero _)⟩
theorem px_AP.tr {I I1 I2 : cd_Mem} {w : cd_WT} {u : Nat} {c1 c2 : List Int32} (a : px_AP I I1 w u c1) (b : px_AP I1 I2 w (u + c1.length) c2) : px_AP I I2 w u (c1 ++ c2) := by
  refine ⟨a.1.tr b.1, fun k hk => (b.2.1 k (by omega)).trans (a.2.1 k hk), fun k hk => ?_⟩
  rw [List.length_append] at hk
  simp only [List.getD_eq_getElem?_getD]
  by_cases h : k < c1.length
  · rw [b.2.1 _ (by omega), a.2.2 k h, List.getElem?_append_left h]
    simp only [List.getD_eq_getElem?_getD]
  · have := b.2.2 (k - c1.length) (by omega)
    rw [show u + c1.length + (k - c1.length) = u + k by omega] at this
    rw [this, List.getElem?_append_right (by omega)]
    simp only [List.getD_eq_getElem?_getD]
theorem px_AP.one {I I' : cd_Mem} {w : cd_WT} {u : Nat} {x y : Int32} (h : cd_off I I' [w.1 + 55, w.1 + 57]) (h2 : I' (w.1 + 57) = upd (I (w.1 + 57)) u x) (hx : x = cd_tr y) : px_AP I I' w u [y] := by
  refine ⟨h, fun k hk => by rw [h2]; exact px_un _ _ (by omega), fun k hk => ?_⟩
  have hk0 : k = 0 := by simpa using hk
  subst hk0
  rw [h2, hx]
  exact px_ue _ _ _
/-- a reading that went well, or not -/
def px_PO (I : cd_Mem) (w : cd_WT) (B : Nat → Nat) (L ky u v : Nat) (r : Bool × px_Tok × List Int32) (y : Int32) (I' : cd_Mem) : Prop := (r.1 = true ∧ y = nI 1 ∧ px_CT I' w B L ky r.2.1 (u + r.2.2.length) (v + px_lv r.2.2) ∧ px_AP I I' w u r.2.2) ∨ (r.1 = false ∧ y = nI 0 ∧ px_CP I' w B L ∧ I' (w.1 + 55) 1 = nI r.2.1.1 ∧ (∃ u', u' ≤ 96 ∧ I' (w.1 + 55) 6 = nI u') ∧ cd_off I I' [w.1 + 55, w.1 + 57])
theorem d_T_isWord_0 : cd_D_aload b_T_isWord 0 0 1 := Or.inr ⟨0, ⟨by decide +kernel, rfl⟩, rfl⟩
theorem d_T_isWord_1 : cd_D 3 b_T_isWord 1 (.getfield 21) 4 := ⟨by decide +kernel, rfl⟩
theorem d_T_isWord_4 : cd_Dk b_T_isWord 4 (nI 1) 5 := Or.inl ⟨1, ⟨by decide +kernel, rfl⟩, by decide +kernel⟩
theorem d_T_isWord_5 : cd_D_icmp_ne b_T_isWord 5 24 8 := ⟨19, by decide +kernel, by decide, rfl⟩
theorem d_T_isWord_8 : cd_D_aload b_T_isWord 8 0 9 := Or.inr ⟨0, ⟨by decide +kernel, rfl⟩, rfl⟩
theorem d_T_isWord_9 : cd_D 3 b_T_isWord 9 (.getfield 18) 12 := ⟨by decide +kernel, rfl⟩
theorem d_T_isWord_12 : cd_D_aload b_T_isWord 12 0 13 := Or.inr ⟨0, ⟨by decide +kernel, rfl⟩, rfl⟩
theorem d_T_isWord_13 : cd_D 3 b_T_isWord 13 (.getfield 15) 16 := ⟨by decide +kernel, rfl⟩
theorem d_T_isWord_16 : cd_D 1 b_T_isWord 16 .isub 17 := ⟨by decide +kernel, rfl⟩
theorem d_T_isWord_17 : cd_D_aload b_T_isWord 17 1 18 := Or.inr ⟨1, ⟨by decide +kernel, rfl⟩, rfl⟩
theorem d_T_isWord_18 : cd_D 3 b_T_isWord 18 (.invokevirtual 111) 21 := ⟨by decide +kernel, rfl⟩
theorem d_T_isWord_21 : cd_D_icmp_eq b_T_isWord 21 26 24 := ⟨5, by decide +kernel, by decide, rfl⟩
theorem d_T_isWord_24 : cd_Dk b_T_isWord 24 (nI 0) 25 := Or.inl ⟨0, ⟨by decide +kernel, rfl⟩, by decide +kernel⟩
theorem d_T_isWord_25 : cd_D 1 b_T_isWord 25 .ireturn 26 := ⟨by decide +kernel, rfl⟩
theorem d_T_isWord_26 : cd_Dk b_T_isWord 26 (nI 0) 27 := Or.inl ⟨0, ⟨by decide +kernel, rfl⟩, by decide +kernel⟩
theorem d_T_isWord_27 : cd_D_istore b_T_isWord 27 2 28 := Or.inr ⟨2, ⟨by decide +kernel, rfl⟩, rfl⟩
theorem d_T_isWord_28 : cd_D_iload b_T_isWord 28 2 29 := Or.inr ⟨2, ⟨by decide +kernel, rfl⟩, rfl⟩
theorem d_T_isWord_29 : cd_D_aload b_T_isWord 29 1 30 := Or.inr ⟨1, ⟨by decide +kernel, rfl⟩, rfl⟩
theorem d_T_isWord_30 : cd_D 3 b_T_isWord 30 (.invokevirtual 111) 33 := ⟨by decide +kernel, rfl⟩
theorem d_T_isWord_33 : cd_D_icmp_ge b_T_isWord 33 63 36 := ⟨30, by decide +kernel, by decide, rfl⟩
theorem d_T_isWord_36 : cd_D_aload b_T_isWord 36 0 37 := Or.inr ⟨0, ⟨by decide +kernel, rfl⟩, rfl⟩
theorem d_T_isWord_37 : cd_D 3 b_T_isWord 37 (.getfield 33) 40 := ⟨by decide +kernel, rfl⟩
theorem d_T_isWord_40 : cd_D_aload b_T_isWord 40 0 41 := Or.inr ⟨0, ⟨by decide +kernel, rfl⟩, rfl⟩
theorem d_T_isWord_41 : cd_D 3 b_T_isWord 41 (.getfield 15) 44 := ⟨by decide +kernel, rfl⟩
theorem d_T_isWord_44 : cd_D_iload b_T_isWord 44 2 45 := Or.inr ⟨2, ⟨by decide +kernel, rfl⟩, rfl⟩
theorem d_T_isWord_45 : cd_D 1 b_T_isWord 45 .iadd 46 := ⟨by decide +kernel, rfl⟩
theorem d_T_isWord_46 : cd_D 1 b_T_isWord 46 .baload 47 := ⟨by decide +kernel, rfl⟩
theorem d_T_isWord_47 : cd_D_aload b_T_isWord 47 1 48 := Or.inr ⟨1, ⟨by decide +kernel, rfl⟩, rfl⟩
theorem d_T_isWord_48 : cd_D_iload b_T_isWord 48 2 49 := Or.inr ⟨2, ⟨by decide +kernel, rfl⟩, rfl⟩
theorem d_T_isWord_49 : cd_D 3 b_T_isWord 49 (.invokevirtual 113) 52 := ⟨by decide +kernel, rfl⟩
theorem d_T_isWord_52 : cd_D_icmp_eq b_T_isWord 52 57 55 := ⟨5, by decide +kernel, by decide, rfl⟩
theorem d_T_isWord_55 : cd_Dk b_T_isWord 55 (nI 0) 56 := Or.inl ⟨0, ⟨by decide +kernel, rfl⟩, by decide +kernel⟩
theorem d_T_isWord_56 : cd_D 1 b_T_isWord 56 .ireturn 57 := ⟨by decide +kernel, rfl⟩
theorem d_T_isWord_57 : cd_D 3 b_T_isWord 57 (.iinc 2 (1)) 60 := ⟨by decide +kernel, rfl⟩
theorem d_T_isWord_60 : cd_D_goto b_T_isWord 60 28 := ⟨-32, by decide +kernel, by decide⟩
theorem d_T_isWord_63 : cd_Dk b_T_isWord 63 (nI 1) 64 := Or.inl ⟨1, ⟨by decide +kernel, rfl⟩, by decide +kernel⟩
theorem d_T_isWord_64 : cd_D 1 b_T_isWord 64 .ireturn 65 := ⟨by decide +kernel, rfl⟩
theorem c_T_isWord {l : Launch} {w : cd_WT} {S : cd_Sp} {I : cd_Mem} (hC : cd_CD w S) {B : Nat → Nat} {L : Nat} {t : px_Tok} (h : px_CK I w B L t) {i : Nat} (hi3 : i < 3) : cd_C l w m_T_isWord 4 0 0 [.ref (w.1 + 55), .ref (w.2.2.2.2.2.1 i)] S I (cd_Fi S (cd_bI (px_kw B t i)) I) := by
  refine cd_intro (by decide) (by simp [Value.category]) (Nat.le_of_ble_eq_true rfl) ?_
  intro X hO hE
  show cd_J w X 0 0 S I 0 [some (.ref (w.1 + 55)), some (.ref (w.2.2.2.2.2.1 i)), none] []
  obtain ⟨hB, hO2, t1, t2, t3⟩ := id h
  have hkd := hO2.2.2.2.2.1
  have hL9 := hB.2.1
  have hnL := hO2.2.1
  have hi : i < 6 := by omega
  obtain ⟨hw1, hw2⟩ := px_wd i hi3
  have hw3 := px_tl_b i hi
  obtain ⟨n, hn⟩ : ∃ n, n = px_ka (i + 1) - px_ka i := ⟨_, rfl⟩
  rw [← hn] at hw1 hw2
  have loop : ∀ r k, k + r = n → t.2.1 = 1 → t.2.2 - t.1 = n → (∀ j, j < k → B (t.1 + j) = px_kc (px_ka i + j)) → cd_J w X 0 0 S I 28 [some (.ref (w.1 + 55)), some (.ref (w.2.2.2.2.2.1 i)), some (.int (nI k))] [] := by
    intro r
    induction r with
    | zero =>
      intro k hk hk1 hkn hj
      refine r_iload hO d_T_isWord_28 rfl ?_
      refine r_aload hO d_T_isWord_29 rfl ?_
      refine r_cVS0fi hO hE hi (c_J_length hi) mf_J_length lk_T_111 rfl (by omega) rfl (Nat.le_of_ble_eq_true rfl) d_T_isWord_30 (Nat.zero_le _) (Nat.zero_le _) ?_
      rw [hw1]
      refine r_icmp_ge hO d_T_isWord_33 (fun c_33 => ?_) (fun c_33 => ?_)
      · refine r_k hO d_T_isWord_63 ?_
        refine r_zret hO hE (by first | exact Or.inl rfl | exact Or.inr rfl) (Nat.zero_le _) (Nat.zero_le _) d_T_isWord_64 ?_
        exact cd_ret1 ⟨hk1, hkn.trans hn, fun j hj2 => hj j (by omega)⟩
      · exact absurd (nI_le (by omega) (by omega)) c_33
    | succ r ih =>
      intro k hk hk1 hkn hj
      have hlt := hO2.2.2.1 (by omega)
      obtain ⟨hb, hby⟩ := hB.2.2 (t.1 + k) (by omega)
      obtain ⟨hc1, hc2⟩ := hw2 k (by omega)
      refine r_iload hO d_T_isWord_28 rfl ?_
      refine r_aload hO d_T_isWord_29 rfl ?_
      refine r_cVS0fi hO hE hi (c_J_length hi) mf_J_length lk_T_111 rfl (by omega) rfl (Nat.le_of_ble_eq_true rfl) d_T_isWord_30 (Nat.zero_le _) (Nat.zero_le _) ?_
      rw [hw1]
      refine r_icmp_ge hO d_T_isWord_33 (fun c_33 => ?_) (fun c_33 => ?_)
      · exact absurd c_33 (nI_ge (by omega) (by omega))
      · refine r_aload hO d_T_isWord_36 rfl ?_
        refine r_getR hO f_T_33 rfl hC.2.2.2.2.2.2.2.2.2.2.2.2.1.1 hC.2.2.2.2.2.2.2.2.2.2.2.2.1.2.1 d_T_isWord_37 ?_
        refine r_aload hO d_T_isWord_40 rfl ?_
        refine r_getI hO f_T_15 rfl hC.2.2.2.2.2.2.2.2.2.2.2.2.1.1 d_T_isWord_41 ?_
        refine r_tops (show _ = nI t.1 from t1) ?_
        refine r_iload hO d_T_isWord_44 rfl ?_
        refine r_iaddN hO d_T_isWord_45 ?_
        refine r_bald hO hC.2.2.2.2.2.2.2.2.2.2.2.2.1.2.2.2.1 (by omega) (by decide) d_T_isWord_46 ?_
        rw [hby]
        refine r_aload hO d_T_isWord_47 rfl ?_
        refine r_iload hO d_T_isWord_48 rfl ?_
        refine r_cVS1fi hO hE hi (c_J_charAt hi (by rw [hw1]; omega)) mf_J_charAt lk_T_113 rfl (by omega) rfl (Nat.le_of_ble_eq_true rfl) d_T_isWord_49 (Nat.zero_le _) (Nat.zero_le _) ?_
        rw [hc1]
        refine r_icmp_eq hO d_T_isWord_52 (fun c_52 => ?_) (fun c_52 => ?_)
        · rw [px_sx_eq hb hc2] at c_52
          refine r_incN2 hO d_T_isWord_57 rfl ?_
          refine r_goto hO d_T_isWord_60 ?_
          exact ih (k + 1) (by omega) hk1 hkn (fun j hj2 => by by_cases e : j = k; rw [e]; exact c_52; exact hj j (by omega))
        · rw [px_sx_eq hb hc2] at c_52
          refine r_k hO d_T_isWord_55 ?_
          refine r_zret hO hE (by first | exact Or.inl rfl | exact Or.inr rfl) (Nat.zero_le _) (Nat.zero_le _) d_T_isWord_56 ?_
          exact cd_ret0 (fun q => c_52 (q.2.2 k (by omega)))
  refine r_aload hO d_T_isWord_0 rfl ?_
  refine r_getI hO f_T_21 rfl hC.2.2.2.2.2.2.2.2.2.2.2.2.1.1 d_T_isWord_1 ?_
  refine r_tops (show _ = nI t.2.1 from t3) ?_
  refine r_k hO d_T_isWord_4 ?_
  refine r_icmp_ne hO d_T_isWord_5 (fun c_5 => ?_) (fun c_5 => ?_)
  · rw [nI_eq (by omega) (by omega)] at c_5
    refine r_k hO d_T_isWord_24 ?_
    refine r_zret hO hE (by first | exact Or.inl rfl | exact Or.inr rfl) (Nat.zero_le _) (Nat.zero_le _) d_T_isWord_25 ?_
    exact cd_ret0 (fun q => c_5 q.1)
  · rw [nI_eq (by omega) (by omega)] at c_5
    have hlt := hO2.2.2.1 (by omega)
    refine r_aload hO d_T_isWord_8 rfl ?_
    refine r_getI hO f_T_18 rfl hC.2.2.2.2.2.2.2.2.2.2.2.2.1.1 d_T_isWord_9 ?_
    refine r_tops (show _ = nI t.2.2 from t2) ?_
    refine r_aload hO d_T_isWord_12 rfl ?_
    refine r_getI hO f_T_15 rfl hC.2.2.2.2.2.2.2.2.2.2.2.2.1.1 d_T_isWord_13 ?_
    refine r_tops (show _ = nI t.1 from t1) ?_
    refine r_isubN hO d_T_isWord_16 (by omega) ?_
    refine r_aload hO d_T_isWord_17 rfl ?_
    refine r_cVS0fi hO hE hi (c_J_length hi) mf_J_length lk_T_111 rfl (by omega) rfl (Nat.le_of_ble_eq_true rfl) d_T_isWord_18 (Nat.zero_le _) (Nat.zero_le _) ?_
    rw [hw1]
    refine r_icmp_eq hO d_T_isWord_21 (fun c_21 => ?_) (fun c_21 => ?_)
    · rw [nI_eq (by omega) (by omega)] at c_21
      refine r_k hO d_T_isWord_26 ?_
      refine r_sI2 hO d_T_isWord_27 rfl ?_
      exact loop n 0 (by omega) c_5 c_21 (fun j hj => absurd hj (Nat.not_lt_zero _))
    · rw [nI_eq (by omega) (by omega)] at c_21
      refine r_k hO d_T_isWord_24 ?_
      refine r_zret hO hE (by first | exact Or.inl rfl | exact Or.inr rfl) (Nat.zero_le _) (Nat.zero_le _) d_T_isWord_25 ?_
      exact cd_ret0 (fun q => c_21 (q.2.1.trans hn.symm))
theorem d_T_readsKey_0 : cd_D_aload b_T_readsKey 0 0 1 := Or.inr ⟨0, ⟨by decide +kernel, rfl⟩, rfl⟩
theorem d_T_readsKey_1 : cd_D 2 b_T_readsKey 1 (.ldc 63) 3 := ⟨by decide +kernel, rfl⟩
theorem d_T_readsKey_3 : cd_D 3 b_T_readsKey 3 (.invokevirtual 65) 6 := ⟨by decide +kernel, rfl⟩
theorem d_T_readsKey_6 : cd_D_if_eq b_T_readsKey 6 17 9 := ⟨11, by decide +kernel, by decide, rfl⟩
theorem d_T_readsKey_9 : cd_D_aload b_T_readsKey 9 0 10 := Or.inr ⟨0, ⟨by decide +kernel, rfl⟩, rfl⟩
theorem d_T_readsKey_10 : cd_Dk b_T_readsKey 10 (nI 0) 11 := Or.inl ⟨0, ⟨by decide +kernel, rfl⟩, by decide +kernel⟩
theorem d_T_readsKey_11 : cd_D 3 b_T_readsKey 11 (.putfield 24) 14 := ⟨by decide +kernel, rfl⟩
theorem d_T_readsKey_14 : cd_D_goto b_T_readsKey 14 53 := ⟨39, by decide +kernel, by decide⟩
theorem d_T_readsKey_17 : cd_D_aload b_T_readsKey 17 0 18 := Or.inr ⟨0, ⟨by decide +kernel, rfl⟩, rfl⟩
theorem d_T_readsKey_18 : cd_D 2 b_T_readsKey 18 (.ldc 69) 20 := ⟨by decide +kernel, rfl⟩
theorem d_T_readsKey_20 : cd_D 3 b_T_readsKey 20 (.invokevirtual 65) 23 := ⟨by decide +kernel, rfl⟩
theorem d_T_readsKey_23 : cd_D_if_eq b_T_readsKey 23 34 26 := ⟨11, by decide +kernel, by decide, rfl⟩
theorem d_T_readsKey_26 : cd_D_aload b_T_readsKey 26 0 27 := Or.inr ⟨0, ⟨by decide +kernel, rfl⟩, rfl⟩
theorem d_T_readsKey_27 : cd_Dk b_T_readsKey 27 (nI 1) 28 := Or.inl ⟨1, ⟨by decide +kernel, rfl⟩, by decide +kernel⟩
theorem d_T_readsKey_28 : cd_D 3 b_T_readsKey 28 (.putfield 24) 31 := ⟨by decide +kernel, rfl⟩
theorem d_T_readsKey_31 : cd_D_goto b_T_readsKey 31 53 := ⟨22, by decide +kernel, by decide⟩
theorem d_T_readsKey_34 : cd_D_aload b_T_readsKey 34 0 35 := Or.inr ⟨0, ⟨by decide +kernel, rfl⟩, rfl⟩
theorem d_T_readsKey_35 : cd_D 2 b_T_readsKey 35 (.ldc 71) 37 := ⟨by decide +kernel, rfl⟩
theorem d_T_readsKey_37 : cd_D 3 b_T_readsKey 37 (.invokevirtual 65) 40 := ⟨by decide +kernel, rfl⟩
theorem d_T_readsKey_40 : cd_D_if_eq b_T_readsKey 40 51 43 := ⟨11, by decide +kernel, by decide, rfl⟩
theorem d_T_readsKey_43 : cd_D_aload b_T_readsKey 43 0 44 := Or.inr ⟨0, ⟨by decide +kernel, rfl⟩, rfl⟩
theorem d_T_readsKey_44 : cd_Dk b_T_readsKey 44 (nI 2) 45 := Or.inl ⟨2, ⟨by decide +kernel, rfl⟩, by decide +kernel⟩
theorem d_T_readsKey_45 : cd_D 3 b_T_readsKey 45 (.putfield 24) 48 := ⟨by decide +kernel, rfl⟩
theorem d_T_readsKey_48 : cd_D_goto b_T_readsKey 48 53 := ⟨5, by decide +kernel, by decide⟩
theorem d_T_readsKey_51 : cd_Dk b_T_readsKey 51 (nI 0) 52 := Or.inl ⟨0, ⟨by decide +kernel, rfl⟩, by decide +kernel⟩
theorem d_T_readsKey_52 : cd_D 1 b_T_readsKey 52 .ireturn 53 := ⟨by decide +kernel, rfl⟩
theorem d_T_readsKey_53 : cd_D_aload b_T_readsKey 53 0 54 := Or.inr ⟨0, ⟨by decide +kernel, rfl⟩, rfl⟩
theorem d_T_readsKey_54 : cd_D 3 b_T_readsKey 54 (.invokevirtual 41) 57 := ⟨by decide +kernel, rfl⟩
theorem d_T_readsKey_57 : cd_Dk b_T_readsKey 57 (nI 1) 58 := Or.inl ⟨1, ⟨by decide +kernel, rfl⟩, by decide +kernel⟩
theorem d_T_readsKey_58 : cd_D 1 b_T_readsKey 58 .ireturn 59 := ⟨by decide +kernel, rfl⟩
theorem c_T_readsKey {l : Launch} {w : cd_WT} {S : cd_Sp} {I : cd_Mem} (hC : cd_CD w S) {B : Nat → Nat} {L : Nat} {t : px_Tok} {u v : Nat} (h : px_CK I w B L t) (h5 : I (w.1 + 55) 5 = nI v) (h6 : I (w.1 + 55) 6 = nI u) (hu : u ≤ 96) : cd_C l w m_T_readsKey 5 0 0 [.ref (w.1 + 55)] S I (cd_Pi S (fun y I' => (px_ky B t = 3 ∧ y = nI 0 ∧ I' = I) ∨ (px_ky B t < 3 ∧ y = nI 1 ∧ px_CT I' w B L (px_ky B t) (px_adv B L t) u v ∧ cd_off I I' [w.1 + 55]))) := by
  refine cd_intro (by decide) (by simp [Value.category]) (Nat.le_of_ble_eq_true rfl) ?_
  intro X hO hE
  show cd_J w X 0 0 S I 0 [some (.ref (w.1 + 55))] []
  have hset : ∀ k, k ≤ 2 → px_CT (cd_set I (w.1 + 55) (upd (I (w.1 + 55)) 4 (nI k))) w B L k t u v := by
    intro k hk
    unfold px_CT px_CP
    rw [cd_set_eq, cd_set_ne _ _ (show w.1 + 56 ≠ w.1 + 55 by omega)]
    exact ⟨h.1, h.2.1, h.2.2.1, h.2.2.2.1, h.2.2.2.2, ⟨rfl, hk⟩, h5, h6, hu⟩
  refine r_aload hO d_T_readsKey_0 rfl ?_
  have hi : (0 : Nat) < 6 := by decide
  refine r_ldcS hO (hi) d_T_readsKey_1 ?_
  refine r_cV1fi hO hE (c_T_isWord hC h (i := 0) (by decide)) mf_T_isWord lk_T_65 hC.2.2.2.2.2.2.2.2.2.2.2.2.1.1 rfl (by decide) rfl (Nat.le_of_ble_eq_true rfl) d_T_readsKey_3 (Nat.zero_le _) (Nat.zero_le _) ?_
  refine r_if_eqB hO d_T_readsKey_6 (fun c_6 => ?_) (fun c_6 => ?_)
  · refine r_aload hO d_T_readsKey_17 rfl ?_
    have hi : (1 : Nat) < 6 := by decide
    refine r_ldcS hO (hi) d_T_readsKey_18 ?_
    refine r_cV1fi hO hE (c_T_isWord hC h (i := 1) (by decide)) mf_T_isWord lk_T_65 hC.2.2.2.2.2.2.2.2.2.2.2.2.1.1 rfl (by decide) rfl (Nat.le_of_ble_eq_true rfl) d_T_readsKey_20 (Nat.zero_le _) (Nat.zero_le _) ?_
    refine r_if_eqB hO d_T_readsKey_23 (fun c_23 => ?_) (fun c_23 => ?_)
    · refine r_aload hO d_T_readsKey_34 rfl ?_
      have hi : (2 : Nat) < 6 := by decide
      refine r_ldcS hO (hi) d_T_readsKey_35 ?_
      refine r_cV1fi hO hE (c_T_isWord hC h (i := 2) (by decide)) mf_T_isWord lk_T_65 hC.2.2.2.2.2.2.2.2.2.2.2.2.1.1 rfl (by decide) rfl (Nat.le_of_ble_eq_true rfl) d_T_readsKey_37 (Nat.zero_le _) (Nat.zero_le _) ?_
      refine r_if_eqB hO d_T_readsKey_40 (fun c_40 => ?_) (fun c_40 => ?_)
      · refine r_k hO d_T_readsKey_51 ?_
        refine r_zret hO hE (by first | exact Or.inl rfl | exact Or.inr rfl) (Nat.zero_le _) (Nat.zero_le _) d_T_readsKey_52 ?_
        exact ⟨_, rfl, rfl, Or.inl ⟨by unfold px_ky; rw [if_neg c_6, if_neg c_23, if_neg c_40], rfl, rfl⟩⟩
      · refine r_aload hO d_T_readsKey_43 rfl ?_
        refine r_k hO d_T_readsKey_44 ?_
        refine r_putI hO f_T_24 rfl hC.2.2.2.2.2.2.2.2.2.2.2.2.1.1 (Nat.le_add_right _ _) d_T_readsKey_45 ?_
        refine r_goto hO d_T_readsKey_48 ?_
        refine r_aload hO d_T_readsKey_53 rfl ?_
        refine r_cV0v hO hE (c_T_advances_r hC (hset 2 (by decide))) mf_T_advances lk_T_41 hC.2.2.2.2.2.2.2.2.2.2.2.2.1.1 rfl (by decide) rfl (Nat.le_of_ble_eq_true rfl) d_T_readsKey_54 (Nat.zero_le _) (Nat.zero_le _) ?_
        rintro I2 ⟨g1, g2⟩
        refine r_k hO d_T_readsKey_57 ?_
        refine r_zret hO hE (by first | exact Or.inl rfl | exact Or.inr rfl) (Nat.zero_le _) (Nat.zero_le _) d_T_readsKey_58 ?_
        have e : px_ky B t = 2 := by unfold px_ky; rw [if_neg c_6, if_neg c_23, if_pos c_40]
        exact ⟨_, rfl, rfl, Or.inr ⟨by rw [e]; decide, rfl, by rw [e]; exact g1, (cd_off.set _ _ (by simp)).tr g2⟩⟩
    · refine r_aload hO d_T_readsKey_26 rfl ?_
      refine r_k hO d_T_readsKey_27 ?_
      refine r_putI hO f_T_24 rfl hC.2.2.2.2.2.2.2.2.2.2.2.2.1.1 (Nat.le_add_right _ _) d_T_readsKey_28 ?_
      refine r_goto hO d_T_readsKey_31 ?_
      refine r_aload hO d_T_readsKey_53 rfl ?_
      refine r_cV0v hO hE (c_T_advances_r hC (hset 1 (by decide))) mf_T_advances lk_T_41 hC.2.2.2.2.2.2.2.2.2.2.2.2.1.1 rfl (by decide) rfl (Nat.le_of_ble_eq_true rfl) d_T_readsKey_54 (Nat.zero_le _) (Nat.zero_le _) ?_
      rintro I2 ⟨g1, g2⟩
      refine r_k hO d_T_readsKey_57 ?_
      refine r_zret hO hE (by first | exact Or.inl rfl | exact Or.inr rfl) (Nat.zero_le _) (Nat.zero_le _) d_T_readsKey_58 ?_
      have e : px_ky B t = 1 := by unfold px_ky; rw [if_neg c_6, if_pos c_23]
      exact ⟨_, rfl, rfl, Or.inr ⟨by rw [e]; decide, rfl, by rw [e]; exact g1, (cd_off.set _ _ (by simp)).tr g2⟩⟩
  · refine r_aload hO d_T_readsKey_9 rfl ?_
    refine r_k hO d_T_readsKey_10 ?_
    refine r_putI hO f_T_24 rfl hC.2.2.2.2.2.2.2.2.2.2.2.2.1.1 (Nat.le_add_right _ _) d_T_readsKey_11 ?_
    refine r_goto hO d_T_readsKey_14 ?_
    refine r_aload hO d_T_readsKey_53 rfl ?_
    refine r_cV0v hO hE (c_T_advances_r hC (hset 0 (by decide))) mf_T_advances lk_T_41 hC.2.2.2.2.2.2.2.2.2.2.2.2.1.1 rfl (by decide) rfl (Nat.le_of_ble_eq_true rfl) d_T_readsKey_54 (Nat.zero_le _) (Nat.zero_le _) ?_
    rintro I2 ⟨g1, g2⟩
    refine r_k hO d_T_readsKey_57 ?_
    refine r_zret hO hE (by first | exact Or.inl rfl | exact Or.inr rfl) (Nat.zero_le _) (Nat.zero_le _) d_T_readsKey_58 ?_
    have e : px_ky B t = 0 := by unfold px_ky; rw [if_pos c_6]
    exact ⟨_, rfl, rfl, Or.inr ⟨by rw [e]; decide, rfl, by rw [e]; exact g1, (cd_off.set _ _ (by simp)).tr g2⟩⟩
theorem d_T_readsLeaf_0 : cd_D_aload b_T_readsLeaf 0 0 1 := Or.inr ⟨0, ⟨by decide +kernel, rfl⟩, rfl⟩
theorem d_T_readsLeaf_1 : cd_D 3 b_T_readsLeaf 1 (.getfield 21) 4 := ⟨by decide +kernel, rfl⟩
theorem d_T_readsLeaf_4 : cd_Dk b_T_readsLeaf 4 (nI 2) 5 := Or.inl ⟨2, ⟨by decide +kernel, rfl⟩, by decide +kernel⟩
theorem d_T_readsLeaf_5 : cd_D_icmp_ne b_T_readsLeaf 5 15 8 := ⟨10, by decide +kernel, by decide, rfl⟩
theorem d_T_readsLeaf_8 : cd_D_aload b_T_readsLeaf 8 0 9 := Or.inr ⟨0, ⟨by decide +kernel, rfl⟩, rfl⟩
theorem d_T_readsLeaf_9 : cd_D 3 b_T_readsLeaf 9 (.invokevirtual 92) 12 := ⟨by decide +kernel, rfl⟩
theorem d_T_readsLeaf_12 : cd_D_goto b_T_readsLeaf 12 19 := ⟨7, by decide +kernel, by decide⟩
theorem d_T_readsLeaf_15 : cd_D_aload b_T_readsLeaf 15 0 16 := Or.inr ⟨0, ⟨by decide +kernel, rfl⟩, rfl⟩
theorem d_T_readsLeaf_16 : cd_D 3 b_T_readsLeaf 16 (.invokevirtual 96) 19 := ⟨by decide +kernel, rfl⟩
theorem d_T_readsLeaf_19 : cd_D_istore b_T_readsLeaf 19 1 20 := Or.inr ⟨1, ⟨by decide +kernel, rfl⟩, rfl⟩
theorem d_T_readsLeaf_20 : cd_D_iload b_T_readsLeaf 20 1 21 := Or.inr ⟨1, ⟨by decide +kernel, rfl⟩, rfl⟩
theorem d_T_readsLeaf_21 : cd_D_if_ge b_T_readsLeaf 21 26 24 := ⟨5, by decide +kernel, by decide, rfl⟩
theorem d_T_readsLeaf_24 : cd_Dk b_T_readsLeaf 24 (nI 0) 25 := Or.inl ⟨0, ⟨by decide +kernel, rfl⟩, by decide +kernel⟩
theorem d_T_readsLeaf_25 : cd_D 1 b_T_readsLeaf 25 .ireturn 26 := ⟨by decide +kernel, rfl⟩
theorem d_T_readsLeaf_26 : cd_D_aload b_T_readsLeaf 26 0 27 := Or.inr ⟨0, ⟨by decide +kernel, rfl⟩, rfl⟩
theorem d_T_readsLeaf_27 : cd_D 1 b_T_readsLeaf 27 .dup 28 := ⟨by decide +kernel, rfl⟩
theorem d_T_readsLeaf_28 : cd_D 3 b_T_readsLeaf 28 (.getfield 27) 31 := ⟨by decide +kernel, rfl⟩
theorem d_T_readsLeaf_31 : cd_Dk b_T_readsLeaf 31 (nI 1) 32 := Or.inl ⟨1, ⟨by decide +kernel, rfl⟩, by decide +kernel⟩
theorem d_T_readsLeaf_32 : cd_D 1 b_T_readsLeaf 32 .iadd 33 := ⟨by decide +kernel, rfl⟩
theorem d_T_readsLeaf_33 : cd_D 3 b_T_readsLeaf 33 (.putfield 27) 36 := ⟨by decide +kernel, rfl⟩
theorem d_T_readsLeaf_36 : cd_D_aload b_T_readsLeaf 36 0 37 := Or.inr ⟨0, ⟨by decide +kernel, rfl⟩, rfl⟩
theorem d_T_readsLeaf_37 : cd_D_iload b_T_readsLeaf 37 1 38 := Or.inr ⟨1, ⟨by decide +kernel, rfl⟩, rfl⟩
theorem d_T_readsLeaf_38 : cd_D 3 b_T_readsLeaf 38 (.invokevirtual 81) 41 := ⟨by decide +kernel, rfl⟩
theorem d_T_readsLeaf_41 : cd_D_aload b_T_readsLeaf 41 0 42 := Or.inr ⟨0, ⟨by decide +kernel, rfl⟩, rfl⟩
theorem d_T_readsLeaf_42 : cd_D 3 b_T_readsLeaf 42 (.invokevirtual 41) 45 := ⟨by decide +kernel, rfl⟩
theorem d_T_readsLeaf_45 : cd_Dk b_T_readsLeaf 45 (nI 1) 46 := Or.inl ⟨1, ⟨by decide +kernel, rfl⟩, by decide +kernel⟩
theorem d_T_readsLeaf_46 : cd_D 1 b_T_readsLeaf 46 .ireturn 47 := ⟨by decide +kernel, rfl⟩
theorem c_T_readsLeaf {l : Launch} {w : cd_WT} {S : cd_Sp} {I : cd_Mem} (hC : cd_CD w S) {B : Nat → Nat} {L ky : Nat} {t : px_Tok} {u v : Nat} (h : px_CT I w B L ky t u v) (hk : t.2.1 = 1 ∨ t.2.1 = 2) (hu : u ≤ t.1) : cd_C l w m_T_readsLeaf 5 0 0 [.ref (w.1 + 55)] S I (cd_Pi S (px_PO I w B L ky u v (if (px_lfo B ky t).isSome then (true, px_adv B L t, [(px_lfo B ky t).getD 0]) else (false, t, [])))) := by
  refine cd_intro (by decide) (by simp [Value.category]) (Nat.le_of_ble_eq_true rfl) ?_
  intro X hO hE
  show cd_J w X 0 0 S I 0 [some (.ref (w.1 + 55)), none] []
  obtain ⟨hB, hO2, t1, t2, t3, ⟨t4, t4b⟩, t5, t6, t7⟩ := id h
  have hkd := hO2.2.2.2.2.1
  have hL9 := hB.2.1
  have hnL := hO2.2.1
  have hlt := hO2.2.2.1 (by omega)
  have htL := hO2.1
  have tail : ∀ x : Int32, px_lfo B ky t = some x → cd_J w X 0 0 S I 20 [some (.ref (w.1 + 55)), some (.int x)] [] := by
    intro x hx
    obtain ⟨hx0, hx1, -⟩ := px_lfo_k hO2 hx
    have hadv := px_adv_lt hO2 hx0
    have hadL := (px_adv_ok hO2).1.1
    have hset : px_CT (cd_set I (w.1 + 55) (upd (I (w.1 + 55)) 5 (nI (v + 1)))) w B L ky t u (v + 1) := by
      unfold px_CT px_CP
      rw [cd_set_eq, cd_set_ne _ _ (show w.1 + 56 ≠ w.1 + 55 by omega)]
      exact ⟨hB, hO2, t1, t2, t3, ⟨t4, t4b⟩, rfl, t6, t7⟩
    refine r_iload hO d_T_readsLeaf_20 rfl ?_
    refine r_if_ge hO d_T_readsLeaf_21 (fun c_21 => ?_) (fun c_21 => ?_)
    · refine r_aload hO d_T_readsLeaf_26 rfl ?_
      refine r_dup hO d_T_readsLeaf_27 rfl ?_
      refine r_getI hO f_T_27 rfl hC.2.2.2.2.2.2.2.2.2.2.2.2.1.1 d_T_readsLeaf_28 ?_
      refine r_tops (show _ = nI v from t5) ?_
      refine r_k hO d_T_readsLeaf_31 ?_
      refine r_iaddN hO d_T_readsLeaf_32 ?_
      refine r_putI hO f_T_27 rfl hC.2.2.2.2.2.2.2.2.2.2.2.2.1.1 (Nat.le_add_right _ _) d_T_readsLeaf_33 ?_
      refine r_aload hO d_T_readsLeaf_36 rfl ?_
      refine r_iload hO d_T_readsLeaf_37 rfl ?_
      refine r_cV1v hO hE (c_T_puts_r hC hset (by omega) x) mf_T_puts lk_T_81 hC.2.2.2.2.2.2.2.2.2.2.2.2.1.1 rfl (by decide) rfl (Nat.le_of_ble_eq_true rfl) d_T_readsLeaf_38 (Nat.zero_le _) (Nat.zero_le _) ?_
      rintro I2 ⟨g1, g2, g3⟩
      try simp (disch := omega) only [cd_set_eq, cd_set_ne, cd_set_set]
      refine r_aload hO d_T_readsLeaf_41 rfl ?_
      refine r_cV0v hO hE (c_T_advances_r hC g1) mf_T_advances lk_T_41 hC.2.2.2.2.2.2.2.2.2.2.2.2.1.1 rfl (by decide) rfl (Nat.le_of_ble_eq_true rfl) d_T_readsLeaf_42 (Nat.zero_le _) (Nat.zero_le _) ?_
      rintro I3 ⟨g4, g5⟩
      try simp (disch := omega) only [cd_set_eq, cd_set_ne, cd_set_set]
      refine r_k hO d_T_readsLeaf_45 ?_
      refine r_zret hO hE (by first | exact Or.inl rfl | exact Or.inr rfl) (Nat.zero_le _) (Nat.zero_le _) d_T_readsLeaf_46 ?_
      have er : (if (px_lfo B ky t).isSome = true then (true, px_adv B L t, [(px_lfo B ky t).getD 0]) else (false, t, [])) = (true, px_adv B L t, [x]) := by rw [hx]; rfl
      rw [er]
      refine ⟨_, rfl, rfl, Or.inl ⟨rfl, rfl, ?_, ?_⟩⟩
      · have e : px_lv [x] = 1 := by show (if x < 0 then 0 else 1) + 0 = 1; rw [if_neg hx1]
        show px_CT I3 w B L ky (px_adv B L t) (u + 1) (v + px_lv [x])
        rw [e]
        exact g4
      · have a1 : px_AP I I2 w u [x] := px_AP.one ((cd_off.set _ _ (by simp)).tr g3) (by rw [g2, cd_set_ne _ _ (by omega)]) (cd_tr_p hx1).symm
        have a2 := a1.tr (px_AP.nil g5)
        rw [List.append_nil] at a2
        exact a2
    · exact absurd (Int32.not_lt.mp hx1) c_21
  refine r_aload hO d_T_readsLeaf_0 rfl ?_
  refine r_getI hO f_T_21 rfl hC.2.2.2.2.2.2.2.2.2.2.2.2.1.1 d_T_readsLeaf_1 ?_
  refine r_tops (show _ = nI t.2.1 from t3) ?_
  refine r_k hO d_T_readsLeaf_4 ?_
  refine r_icmp_ne hO d_T_readsLeaf_5 (fun c_5 => ?_) (fun c_5 => ?_)
  · rw [nI_eq (by omega) (by omega)] at c_5
    refine r_aload hO d_T_readsLeaf_15 rfl ?_
    refine r_cV0fi hO hE (c_T_name hC h (by omega)) mf_T_name lk_T_96 hC.2.2.2.2.2.2.2.2.2.2.2.2.1.1 rfl (by decide) rfl (Nat.le_of_ble_eq_true rfl) d_T_readsLeaf_16 (Nat.zero_le _) (Nat.zero_le _) ?_
    refine r_sI1 hO d_T_readsLeaf_19 rfl ?_
    unfold px_nmv
    by_cases hq : t.2.2 - t.1 = 1 ∧ px_npl ky (B t.1) < 9
    · rw [if_pos hq]
      exact tail _ (by unfold px_lfo; rw [if_neg c_5, if_pos ⟨by omega, hq.1, hq.2⟩])
    · rw [if_neg hq]
      refine r_iload hO d_T_readsLeaf_20 rfl ?_
      refine r_if_ge hO d_T_readsLeaf_21 (fun c_21 => ?_) (fun c_21 => ?_)
      · exact absurd c_21 (by decide)
      · refine r_k hO d_T_readsLeaf_24 ?_
        refine r_zret hO hE (by first | exact Or.inl rfl | exact Or.inr rfl) (Nat.zero_le _) (Nat.zero_le _) d_T_readsLeaf_25 ?_
        exact ⟨_, rfl, rfl, Or.inr ⟨by rw [show px_lfo B ky t = none by unfold px_lfo; rw [if_neg c_5, if_neg (fun q => hq q.2)]]; rfl, rfl, hB, by rw [show px_lfo B ky t = none by unfold px_lfo; rw [if_neg c_5, if_neg (fun q => hq q.2)]]; exact t1, ⟨u, t7, t6⟩, cd_off.rf _ _⟩⟩
  · rw [nI_eq (by omega) (by omega)] at c_5
    refine r_aload hO d_T_readsLeaf_8 rfl ?_
    refine r_cV0fi hO hE (c_T_number hC h c_5) mf_T_number lk_T_92 hC.2.2.2.2.2.2.2.2.2.2.2.2.1.1 rfl (by decide) rfl (Nat.le_of_ble_eq_true rfl) d_T_readsLeaf_9 (Nat.zero_le _) (Nat.zero_le _) ?_
    refine r_goto hO d_T_readsLeaf_12 ?_
    refine r_sI1 hO d_T_readsLeaf_19 rfl ?_
    exact tail _ (by unfold px_lfo; rw [if_pos c_5])
