def px_b (b : Bool) : Int32 := if b = true then nI 1 else nI 0
theorem px_nar (b : Bool) : vp_nar .boolean (px_b b) = px_b b := by cases b <;> decide
theorem px_b0 {b : Bool} : px_b b = 0 ↔ ¬ b = true := by cases b <;> decide
theorem px_sc0 : ∀ x, x < 12 → 1 ≤ x → ¬ px_sc x = 0 := by decide +kernel
theorem px_split : ∀ St : List Nat, (∀ x ∈ St, 1 ≤ x ∧ x ≤ 11) → ∃ D S0, St = D ++ S0 ∧ (∀ x ∈ D, 1 ≤ x ∧ x ≤ 10 ∧ 0 ≤ px_rk x) ∧ ∀ x S1, S0 = x :: S1 → x = 11 ∨ (1 ≤ x ∧ x ≤ 10 ∧ px_rk x < 0)
  | [], _ => ⟨[], [], rfl, fun _ h => (by cases h), fun _ _ h => (by cases h)⟩
  | x :: S, h => by
    by_cases e : x = 11
    · exact ⟨[], x :: S, rfl, fun _ h => (by cases h), fun y S1 q => by cases q; exact Or.inl e⟩
    · obtain ⟨D, S0, e1, e2, e3⟩ := px_split S (fun y hy => h y (List.mem_cons_of_mem _ hy))
      obtain ⟨h1, h2⟩ := h x List.mem_cons_self
      refine ⟨x :: D, S0, by rw [e1]; rfl, fun y hy => ?_, e3⟩
      rcases List.mem_cons.mp hy with q | q
      · subst q; exact ⟨h1, by omega, Nat.zero_le _⟩
      · exact e2 y q
theorem px_split10 : ∀ St : List Nat, ∃ k S0, St = px_n10 k ++ S0 ∧ px_h10 S0
  | [] => ⟨0, [], rfl, fun _ _ h => by cases h⟩
  | x :: S => by
    by_cases e : x = 10
    · obtain ⟨k, S0, e1, e2⟩ := px_split10 S
      exact ⟨k + 1, S0, by rw [e1, e]; rfl, e2⟩
    · exact ⟨0, x :: S, rfl, fun y S1 q => by cases q; exact e⟩
theorem px_RP.row {I : cd_Mem} {m : Nat} {B : Nat → Nat} {L ky : Nat} {t : px_Tok} {c : List Int32} {st : List Nat} {n : Nat} (h : px_RP I m B L ky t c st n) (Q : Nat → Int32) : px_RP (cd_set I (m + 10) Q) m B L ky t c st n := by
  have q : ∀ b, b ≠ m + 10 → cd_set I (m + 10) Q b = I b := fun b hb => cd_set_ne _ _ hb
  unfold px_RP px_TF
  rw [q m (by omega), q (m + 5) (by omega), q (m + 8) (by omega), q (m + 9) (by omega)]
  exact h
theorem px_RP.mn {I : cd_Mem} {m : Nat} {B : Nat → Nat} {L ky : Nat} {t : px_Tok} {c : List Int32} {st : List Nat} {n n' : Nat} (h : px_RP I m B L ky t c st n) (hn : c.length + st.length ≤ n') : px_RP I m B L ky t c st n' := by
  obtain ⟨a1, a2, a3, a4, a5, a6, a7, a8, a9, a10, a11, a12⟩ := h
  exact ⟨a1, a2, a3, a4, a5, a6, a7, a8, a9, a10, a11, hn⟩
theorem px_RP.push {I : cd_Mem} {m : Nat} {B : Nat → Nat} {L ky : Nat} {t : px_Tok} {c : List Int32} {st : List Nat} {n : Nat} (h : px_RP I m B L ky t c st n) {x : Nat} (hx : 1 ≤ x ∧ x ≤ 11) {v : Int32} (hv : v = px_sc x) : px_RP (cd_set (cd_set I (m + 9) (upd (I (m + 9)) st.length v)) m (upd (I m) 19 (nI (st.length + 1)))) m B L ky t c (x :: st) (n + 1) := by
  obtain ⟨a1, a2, a3, a4, a5, a6, a7, a8, a9, a10, a11, a12⟩ := h
  subst hv
  have q : ∀ b, b ≠ m → b ≠ m + 9 → cd_set (cd_set I (m + 9) (upd (I (m + 9)) st.length (px_sc x))) m (upd (I m) 19 (nI (st.length + 1))) b = I b := fun b h1 h2 => by rw [cd_set_ne _ _ h1, cd_set_ne _ _ h2]
  have q9 : cd_set (cd_set I (m + 9) (upd (I (m + 9)) st.length (px_sc x))) m (upd (I m) 19 (nI (st.length + 1))) (m + 9) = upd (I (m + 9)) st.length (px_sc x) := by rw [cd_set_ne _ _ (by omega), cd_set_eq]
  unfold px_RP px_TF
  rw [q (m + 5) (by omega) (by omega), q (m + 8) (by omega) (by omega), q9, cd_set_eq]
  refine ⟨a1, a2, a3, a4, a5, a6, a7, a8, rfl, ⟨px_ue _ _ _, px_wl_cg a10 (fun k hk => px_un _ _ (by omega))⟩, fun y hy => ?_, ?_⟩
  · rcases List.mem_cons.mp hy with e | e
    · subst e; exact hx
    · exact a11 y e
  · show c.length + (st.length + 1) ≤ n + 1
    omega
theorem px_RP.pop {I : cd_Mem} {m : Nat} {B : Nat → Nat} {L ky : Nat} {t : px_Tok} {c : List Int32} {st : List Nat} {n x : Nat} (h : px_RP I m B L ky t c (x :: st) n) : px_RP (cd_set I m (upd (I m) 19 (nI st.length))) m B L ky t c st n := by
  obtain ⟨a1, a2, a3, a4, a5, a6, a7, a8, a9, a10, a11, a12⟩ := h
  have q : ∀ b, b ≠ m → cd_set I m (upd (I m) 19 (nI st.length)) b = I b := fun b hb => cd_set_ne _ _ hb
  unfold px_RP px_TF
  rw [q (m + 5) (by omega), q (m + 8) (by omega), q (m + 9) (by omega), cd_set_eq]
  refine ⟨a1, a2, a3, a4, a5, a6, a7, a8, rfl, a10.2, fun y hy => a11 y (List.mem_cons_of_mem _ hy), ?_⟩
  have h2 : c.length + (st.length + 1) ≤ n := a12
  omega
theorem c_M_notsOpen_r {l : Launch} {w : cd_WT} {S : cd_Sp} {I : cd_Mem} {m : Nat} (hM : cd_MO w S m) {B : Nat → Nat} {L ky : Nat} {t : px_Tok} {c : List Int32} {st : List Nat} {n : Nat} (h : px_RP I m B L ky t c st n) (hn : n ≤ 96) : cd_C l w m_M_notsOpen 0 0 0 [.ref m] S I (cd_Fi S (nI (st.count 10)) I) := by
  obtain ⟨a1, a2, a3, a4, a5, a6, a7, a8, a9, a10, a11, a12⟩ := h
  rw [← px_ct_e a10 a11]
  exact c_M_notsOpen hM a9 (by omega)
theorem c_M_settle_r {l : Launch} {w : cd_WT} {S : cd_Sp} {I : cd_Mem} {m : Nat} (hM : cd_MO w S m) {B : Nat → Nat} {L ky : Nat} {t : px_Tok} {c : List Int32} {D S0 : List Nat} {n r : Nat} (h : px_RP I m B L ky t c (D ++ S0) n) (hn : n ≤ 96) (hr : r ≤ 6) (hD : ∀ x ∈ D, 1 ≤ x ∧ x ≤ 10 ∧ r ≤ px_rk x) (hS : ∀ x S1, S0 = x :: S1 → x = 11 ∨ (1 ≤ x ∧ x ≤ 10 ∧ px_rk x < r)) : cd_C l w m_M_settle 1 0 0 [.ref m, .int (nI r)] S I (cd_Pv S (fun I' => px_RP I' m B L ky t (c ++ D.map px_sc) S0 n ∧ px_fm I I' m ∧ I' (m + 10) = I (m + 10))) := by
  obtain ⟨a1, a2, a3, a4, a5, a6, a7, a8, a9, a10, a11, a12⟩ := h
  rw [List.length_append] at a9 a12
  refine px_imp (c_M_settle hM hr a10 hD hS (by omega) (by omega) a7 a6 a9) ?_
  rintro y S' I' ⟨b1, b2, Q, Cc, rfl, g1, g2, g3, g4⟩
  have q8 : cd_set (cd_set I (m + 8) Cc) m Q (m + 8) = Cc := by simp (disch := omega) only [cd_set_eq, cd_set_ne]
  have qo : ∀ b, b ≠ m → b ≠ m + 8 → cd_set (cd_set I (m + 8) Cc) m Q b = I b := fun b b1 b2 => by rw [cd_set_ne _ _ b1, cd_set_ne _ _ b2]
  refine ⟨b1, b2, ?_, ((px_fm.rf I m).setr (Or.inl rfl)).setm (fun k hk => (g1 k (by omega) (by omega)).trans (by rw [cd_set_ne _ _ (by omega)])), qo _ (by omega) (by omega)⟩
  unfold px_RP px_TF
  rw [q8, qo (m + 5) (by omega) (by omega), qo (m + 9) (by omega) (by omega), cd_set_eq, g1 6 (by decide) (by decide), g1 12 (by decide) (by decide), g1 7 (by decide) (by decide), g1 8 (by decide) (by decide), g1 9 (by decide) (by decide), g1 10 (by decide) (by decide), g1 11 (by decide) (by decide), g1 17 (by decide) (by decide)]
  refine ⟨a1, a2, a3, a4, a5, by rw [g3]; simp, g4, ?_, g2, px_wl_r a10, fun y hy => a11 y (List.mem_append_right _ hy), ?_⟩
  · rw [px_lv_app, px_lv_s D (fun x hx => ⟨(hD x hx).1, (hD x hx).2.1⟩)]
    exact a8
  · simp; omega
theorem d_M_takesE_0 : cd_Dk b_M_takesE 0 (nI 0) 1 := Or.inl ⟨0, ⟨by decide +kernel, rfl⟩, by decide +kernel⟩
theorem d_M_takesE_1 : cd_D_istore b_M_takesE 1 1 2 := Or.inr ⟨1, ⟨by decide +kernel, rfl⟩, rfl⟩
theorem d_M_takesE_2 : cd_Dk b_M_takesE 2 (nI 0) 3 := Or.inl ⟨0, ⟨by decide +kernel, rfl⟩, by decide +kernel⟩
theorem d_M_takesE_3 : cd_D_istore b_M_takesE 3 2 4 := Or.inr ⟨2, ⟨by decide +kernel, rfl⟩, rfl⟩
theorem d_M_takesE_4 : cd_Dk b_M_takesE 4 (nI 1) 5 := Or.inl ⟨1, ⟨by decide +kernel, rfl⟩, by decide +kernel⟩
theorem d_M_takesE_5 : cd_D_istore b_M_takesE 5 3 6 := Or.inr ⟨3, ⟨by decide +kernel, rfl⟩, rfl⟩
theorem d_M_takesE_6 : cd_D_aload b_M_takesE 6 0 7 := Or.inr ⟨0, ⟨by decide +kernel, rfl⟩, rfl⟩
theorem d_M_takesE_7 : cd_Dk b_M_takesE 7 (nI 0) 8 := Or.inl ⟨0, ⟨by decide +kernel, rfl⟩, by decide +kernel⟩
theorem d_M_takesE_8 : cd_D 3 b_M_takesE 8 (.putfield 228) 11 := ⟨by decide +kernel, rfl⟩
theorem d_M_takesE_11 : cd_D_aload b_M_takesE 11 0 12 := Or.inr ⟨0, ⟨by decide +kernel, rfl⟩, rfl⟩
theorem d_M_takesE_12 : cd_Dk b_M_takesE 12 (nI 0) 13 := Or.inl ⟨0, ⟨by decide +kernel, rfl⟩, by decide +kernel⟩
theorem d_M_takesE_13 : cd_D 3 b_M_takesE 13 (.putfield 234) 16 := ⟨by decide +kernel, rfl⟩
theorem d_M_takesE_16 : cd_D_aload b_M_takesE 16 0 17 := Or.inr ⟨0, ⟨by decide +kernel, rfl⟩, rfl⟩
theorem d_M_takesE_17 : cd_Dk b_M_takesE 17 (nI 0) 18 := Or.inl ⟨0, ⟨by decide +kernel, rfl⟩, by decide +kernel⟩
theorem d_M_takesE_18 : cd_D 3 b_M_takesE 18 (.putfield 222) 21 := ⟨by decide +kernel, rfl⟩
theorem d_M_takesE_21 : cd_D_aload b_M_takesE 21 0 22 := Or.inr ⟨0, ⟨by decide +kernel, rfl⟩, rfl⟩
theorem d_M_takesE_22 : cd_D 3 b_M_takesE 22 (.getfield 38) 25 := ⟨by decide +kernel, rfl⟩
theorem d_M_takesE_25 : cd_Dk b_M_takesE 25 (nI 0) 26 := Or.inl ⟨0, ⟨by decide +kernel, rfl⟩, by decide +kernel⟩
theorem d_M_takesE_26 : cd_Dk b_M_takesE 26 (nI 0) 27 := Or.inl ⟨0, ⟨by decide +kernel, rfl⟩, by decide +kernel⟩
theorem d_M_takesE_27 : cd_D 1 b_M_takesE 27 .bastore 28 := ⟨by decide +kernel, rfl⟩
theorem d_M_takesE_28 : cd_D_iload b_M_takesE 28 3 29 := Or.inr ⟨3, ⟨by decide +kernel, rfl⟩, rfl⟩
theorem d_M_takesE_29 : cd_D_if_ne b_M_takesE 29 39 32 := ⟨10, by decide +kernel, by decide, rfl⟩
theorem d_M_takesE_32 : cd_D_aload b_M_takesE 32 0 33 := Or.inr ⟨0, ⟨by decide +kernel, rfl⟩, rfl⟩
theorem d_M_takesE_33 : cd_D 3 b_M_takesE 33 (.getfield 204) 36 := ⟨by decide +kernel, rfl⟩
theorem d_M_takesE_36 : cd_D_if_eq b_M_takesE 36 345 39 := ⟨309, by decide +kernel, by decide, rfl⟩
theorem d_M_takesE_39 : cd_D_iload b_M_takesE 39 3 40 := Or.inr ⟨3, ⟨by decide +kernel, rfl⟩, rfl⟩
theorem d_M_takesE_40 : cd_D_if_eq b_M_takesE 40 180 43 := ⟨140, by decide +kernel, by decide, rfl⟩
theorem d_M_takesE_43 : cd_D_aload b_M_takesE 43 0 44 := Or.inr ⟨0, ⟨by decide +kernel, rfl⟩, rfl⟩
theorem d_M_takesE_44 : cd_D 3 b_M_takesE 44 (.getfield 204) 47 := ⟨by decide +kernel, rfl⟩
theorem d_M_takesE_47 : cd_Dk b_M_takesE 47 (nI 3) 48 := Or.inl ⟨3, ⟨by decide +kernel, rfl⟩, by decide +kernel⟩
theorem d_M_takesE_48 : cd_D_icmp_ne b_M_takesE 48 97 51 := ⟨49, by decide +kernel, by decide, rfl⟩
theorem d_M_takesE_51 : cd_D_aload b_M_takesE 51 0 52 := Or.inr ⟨0, ⟨by decide +kernel, rfl⟩, rfl⟩
theorem d_M_takesE_52 : cd_D 3 b_M_takesE 52 (.getfield 210) 55 := ⟨by decide +kernel, rfl⟩
theorem d_M_takesE_55 : cd_Dk b_M_takesE 55 (nI 33) 57 := Or.inr (Or.inl ⟨33, ⟨by decide +kernel, rfl⟩, by decide +kernel⟩)
theorem d_M_takesE_57 : cd_D_icmp_ne b_M_takesE 57 97 60 := ⟨40, by decide +kernel, by decide, rfl⟩
theorem d_M_takesE_60 : cd_D_iload b_M_takesE 60 2 61 := Or.inr ⟨2, ⟨by decide +kernel, rfl⟩, rfl⟩
theorem d_M_takesE_61 : cd_Dk b_M_takesE 61 (nI 8) 63 := Or.inr (Or.inl ⟨8, ⟨by decide +kernel, rfl⟩, by decide +kernel⟩)
theorem d_M_takesE_63 : cd_D_icmp_ge b_M_takesE 63 97 66 := ⟨34, by decide +kernel, by decide, rfl⟩
theorem d_M_takesE_66 : cd_D_aload b_M_takesE 66 0 67 := Or.inr ⟨0, ⟨by decide +kernel, rfl⟩, rfl⟩
theorem d_M_takesE_67 : cd_D 3 b_M_takesE 67 (.getfield 35) 70 := ⟨by decide +kernel, rfl⟩
theorem d_M_takesE_70 : cd_D_aload b_M_takesE 70 0 71 := Or.inr ⟨0, ⟨by decide +kernel, rfl⟩, rfl⟩
theorem d_M_takesE_71 : cd_D 3 b_M_takesE 71 (.getfield 222) 74 := ⟨by decide +kernel, rfl⟩
theorem d_M_takesE_74 : cd_Dk b_M_takesE 74 (-10) 76 := Or.inr (Or.inl ⟨-10, ⟨by decide +kernel, rfl⟩, by decide +kernel⟩)
theorem d_M_takesE_76 : cd_D 1 b_M_takesE 76 .iastore 77 := ⟨by decide +kernel, rfl⟩
theorem d_M_takesE_77 : cd_D_aload b_M_takesE 77 0 78 := Or.inr ⟨0, ⟨by decide +kernel, rfl⟩, rfl⟩
theorem d_M_takesE_78 : cd_D 1 b_M_takesE 78 .dup 79 := ⟨by decide +kernel, rfl⟩
theorem d_M_takesE_79 : cd_D 3 b_M_takesE 79 (.getfield 222) 82 := ⟨by decide +kernel, rfl⟩
theorem d_M_takesE_82 : cd_Dk b_M_takesE 82 (nI 1) 83 := Or.inl ⟨1, ⟨by decide +kernel, rfl⟩, by decide +kernel⟩
theorem d_M_takesE_83 : cd_D 1 b_M_takesE 83 .iadd 84 := ⟨by decide +kernel, rfl⟩
theorem d_M_takesE_84 : cd_D 3 b_M_takesE 84 (.putfield 222) 87 := ⟨by decide +kernel, rfl⟩
theorem d_M_takesE_87 : cd_D 3 b_M_takesE 87 (.iinc 2 (1)) 90 := ⟨by decide +kernel, rfl⟩
theorem d_M_takesE_90 : cd_D_aload b_M_takesE 90 0 91 := Or.inr ⟨0, ⟨by decide +kernel, rfl⟩, rfl⟩
theorem d_M_takesE_91 : cd_D 3 b_M_takesE 91 (.invokevirtual 219) 94 := ⟨by decide +kernel, rfl⟩
theorem d_M_takesE_94 : cd_D_goto b_M_takesE 94 172 := ⟨78, by decide +kernel, by decide⟩
theorem d_M_takesE_97 : cd_D_aload b_M_takesE 97 0 98 := Or.inr ⟨0, ⟨by decide +kernel, rfl⟩, rfl⟩
theorem d_M_takesE_98 : cd_D 3 b_M_takesE 98 (.getfield 204) 101 := ⟨by decide +kernel, rfl⟩
theorem d_M_takesE_101 : cd_Dk b_M_takesE 101 (nI 3) 102 := Or.inl ⟨3, ⟨by decide +kernel, rfl⟩, by decide +kernel⟩
theorem d_M_takesE_102 : cd_D_icmp_ne b_M_takesE 102 158 105 := ⟨56, by decide +kernel, by decide, rfl⟩
theorem d_M_takesE_105 : cd_D_aload b_M_takesE 105 0 106 := Or.inr ⟨0, ⟨by decide +kernel, rfl⟩, rfl⟩
theorem d_M_takesE_106 : cd_D 3 b_M_takesE 106 (.getfield 210) 109 := ⟨by decide +kernel, rfl⟩
theorem d_M_takesE_109 : cd_Dk b_M_takesE 109 (nI 40) 111 := Or.inr (Or.inl ⟨40, ⟨by decide +kernel, rfl⟩, by decide +kernel⟩)
theorem d_M_takesE_111 : cd_D_icmp_ne b_M_takesE 111 158 114 := ⟨47, by decide +kernel, by decide, rfl⟩
theorem d_M_takesE_114 : cd_D_iload b_M_takesE 114 1 115 := Or.inr ⟨1, ⟨by decide +kernel, rfl⟩, rfl⟩
theorem d_M_takesE_115 : cd_Dk b_M_takesE 115 (nI 8) 117 := Or.inr (Or.inl ⟨8, ⟨by decide +kernel, rfl⟩, by decide +kernel⟩)
theorem d_M_takesE_117 : cd_D_icmp_ge b_M_takesE 117 158 120 := ⟨41, by decide +kernel, by decide, rfl⟩
theorem d_M_takesE_120 : cd_D_aload b_M_takesE 120 0 121 := Or.inr ⟨0, ⟨by decide +kernel, rfl⟩, rfl⟩
theorem d_M_takesE_121 : cd_D 3 b_M_takesE 121 (.getfield 35) 124 := ⟨by decide +kernel, rfl⟩
theorem d_M_takesE_124 : cd_D_aload b_M_takesE 124 0 125 := Or.inr ⟨0, ⟨by decide +kernel, rfl⟩, rfl⟩
theorem d_M_takesE_125 : cd_D 3 b_M_takesE 125 (.getfield 222) 128 := ⟨by decide +kernel, rfl⟩
theorem d_M_takesE_128 : cd_Dk b_M_takesE 128 (-11) 130 := Or.inr (Or.inl ⟨-11, ⟨by decide +kernel, rfl⟩, by decide +kernel⟩)
theorem d_M_takesE_130 : cd_D 1 b_M_takesE 130 .iastore 131 := ⟨by decide +kernel, rfl⟩
theorem d_M_takesE_131 : cd_D_aload b_M_takesE 131 0 132 := Or.inr ⟨0, ⟨by decide +kernel, rfl⟩, rfl⟩
theorem d_M_takesE_132 : cd_D 1 b_M_takesE 132 .dup 133 := ⟨by decide +kernel, rfl⟩
theorem d_M_takesE_133 : cd_D 3 b_M_takesE 133 (.getfield 222) 136 := ⟨by decide +kernel, rfl⟩
theorem d_M_takesE_136 : cd_Dk b_M_takesE 136 (nI 1) 137 := Or.inl ⟨1, ⟨by decide +kernel, rfl⟩, by decide +kernel⟩
theorem d_M_takesE_137 : cd_D 1 b_M_takesE 137 .iadd 138 := ⟨by decide +kernel, rfl⟩
theorem d_M_takesE_138 : cd_D 3 b_M_takesE 138 (.putfield 222) 141 := ⟨by decide +kernel, rfl⟩
theorem d_M_takesE_141 : cd_D 3 b_M_takesE 141 (.iinc 1 (1)) 144 := ⟨by decide +kernel, rfl⟩
theorem d_M_takesE_144 : cd_D_aload b_M_takesE 144 0 145 := Or.inr ⟨0, ⟨by decide +kernel, rfl⟩, rfl⟩
theorem d_M_takesE_145 : cd_D 3 b_M_takesE 145 (.getfield 38) 148 := ⟨by decide +kernel, rfl⟩
theorem d_M_takesE_148 : cd_D_iload b_M_takesE 148 1 149 := Or.inr ⟨1, ⟨by decide +kernel, rfl⟩, rfl⟩
theorem d_M_takesE_149 : cd_Dk b_M_takesE 149 (nI 0) 150 := Or.inl ⟨0, ⟨by decide +kernel, rfl⟩, by decide +kernel⟩
theorem d_M_takesE_150 : cd_D 1 b_M_takesE 150 .bastore 151 := ⟨by decide +kernel, rfl⟩
theorem d_M_takesE_151 : cd_D_aload b_M_takesE 151 0 152 := Or.inr ⟨0, ⟨by decide +kernel, rfl⟩, rfl⟩
theorem d_M_takesE_152 : cd_D 3 b_M_takesE 152 (.invokevirtual 219) 155 := ⟨by decide +kernel, rfl⟩
theorem d_M_takesE_155 : cd_D_goto b_M_takesE 155 172 := ⟨17, by decide +kernel, by decide⟩
theorem d_M_takesE_158 : cd_D_aload b_M_takesE 158 0 159 := Or.inr ⟨0, ⟨by decide +kernel, rfl⟩, rfl⟩
theorem d_M_takesE_159 : cd_D 3 b_M_takesE 159 (.invokevirtual 240) 162 := ⟨by decide +kernel, rfl⟩
theorem d_M_takesE_162 : cd_D_if_eq b_M_takesE 162 170 165 := ⟨8, by decide +kernel, by decide, rfl⟩
theorem d_M_takesE_165 : cd_Dk b_M_takesE 165 (nI 0) 166 := Or.inl ⟨0, ⟨by decide +kernel, rfl⟩, by decide +kernel⟩
theorem d_M_takesE_166 : cd_D_istore b_M_takesE 166 3 167 := Or.inr ⟨3, ⟨by decide +kernel, rfl⟩, rfl⟩
theorem d_M_takesE_167 : cd_D_goto b_M_takesE 167 172 := ⟨5, by decide +kernel, by decide⟩
theorem d_M_takesE_170 : cd_Dk b_M_takesE 170 (nI 0) 171 := Or.inl ⟨0, ⟨by decide +kernel, rfl⟩, by decide +kernel⟩
theorem d_M_takesE_171 : cd_D 1 b_M_takesE 171 .ireturn 172 := ⟨by decide +kernel, rfl⟩
theorem d_M_takesE_172 : cd_D_aload b_M_takesE 172 0 173 := Or.inr ⟨0, ⟨by decide +kernel, rfl⟩, rfl⟩
theorem d_M_takesE_173 : cd_D 3 b_M_takesE 173 (.invokevirtual 244) 176 := ⟨by decide +kernel, rfl⟩
theorem d_M_takesE_176 : cd_D_istore b_M_takesE 176 2 177 := Or.inr ⟨2, ⟨by decide +kernel, rfl⟩, rfl⟩
theorem d_M_takesE_177 : cd_D_goto b_M_takesE 177 28 := ⟨-149, by decide +kernel, by decide⟩
theorem d_M_takesE_180 : cd_D_aload b_M_takesE 180 0 181 := Or.inr ⟨0, ⟨by decide +kernel, rfl⟩, rfl⟩
theorem d_M_takesE_181 : cd_D 3 b_M_takesE 181 (.getfield 204) 184 := ⟨by decide +kernel, rfl⟩
theorem d_M_takesE_184 : cd_Dk b_M_takesE 184 (nI 3) 185 := Or.inl ⟨3, ⟨by decide +kernel, rfl⟩, by decide +kernel⟩
theorem d_M_takesE_185 : cd_D_icmp_ne b_M_takesE 185 237 188 := ⟨52, by decide +kernel, by decide, rfl⟩
theorem d_M_takesE_188 : cd_D_aload b_M_takesE 188 0 189 := Or.inr ⟨0, ⟨by decide +kernel, rfl⟩, rfl⟩
theorem d_M_takesE_189 : cd_D 3 b_M_takesE 189 (.getfield 210) 192 := ⟨by decide +kernel, rfl⟩
theorem d_M_takesE_192 : cd_Dk b_M_takesE 192 (nI 41) 194 := Or.inr (Or.inl ⟨41, ⟨by decide +kernel, rfl⟩, by decide +kernel⟩)
theorem d_M_takesE_194 : cd_D_icmp_ne b_M_takesE 194 237 197 := ⟨43, by decide +kernel, by decide, rfl⟩
theorem d_M_takesE_197 : cd_D_iload b_M_takesE 197 1 198 := Or.inr ⟨1, ⟨by decide +kernel, rfl⟩, rfl⟩
theorem d_M_takesE_198 : cd_D_if_le b_M_takesE 198 237 201 := ⟨39, by decide +kernel, by decide, rfl⟩
theorem d_M_takesE_201 : cd_D_aload b_M_takesE 201 0 202 := Or.inr ⟨0, ⟨by decide +kernel, rfl⟩, rfl⟩
theorem d_M_takesE_202 : cd_Dk b_M_takesE 202 (nI 0) 203 := Or.inl ⟨0, ⟨by decide +kernel, rfl⟩, by decide +kernel⟩
theorem d_M_takesE_203 : cd_D 3 b_M_takesE 203 (.invokevirtual 237) 206 := ⟨by decide +kernel, rfl⟩
theorem d_M_takesE_206 : cd_D_aload b_M_takesE 206 0 207 := Or.inr ⟨0, ⟨by decide +kernel, rfl⟩, rfl⟩
theorem d_M_takesE_207 : cd_D 1 b_M_takesE 207 .dup 208 := ⟨by decide +kernel, rfl⟩
theorem d_M_takesE_208 : cd_D 3 b_M_takesE 208 (.getfield 222) 211 := ⟨by decide +kernel, rfl⟩
theorem d_M_takesE_211 : cd_Dk b_M_takesE 211 (nI 1) 212 := Or.inl ⟨1, ⟨by decide +kernel, rfl⟩, by decide +kernel⟩
theorem d_M_takesE_212 : cd_D 1 b_M_takesE 212 .isub 213 := ⟨by decide +kernel, rfl⟩
theorem d_M_takesE_213 : cd_D 3 b_M_takesE 213 (.putfield 222) 216 := ⟨by decide +kernel, rfl⟩
theorem d_M_takesE_216 : cd_D 3 b_M_takesE 216 (.iinc 1 (-1)) 219 := ⟨by decide +kernel, rfl⟩
theorem d_M_takesE_219 : cd_D_aload b_M_takesE 219 0 220 := Or.inr ⟨0, ⟨by decide +kernel, rfl⟩, rfl⟩
theorem d_M_takesE_220 : cd_Dk b_M_takesE 220 (nI 6) 222 := Or.inr (Or.inl ⟨6, ⟨by decide +kernel, rfl⟩, by decide +kernel⟩)
theorem d_M_takesE_222 : cd_D 3 b_M_takesE 222 (.invokevirtual 237) 225 := ⟨by decide +kernel, rfl⟩
theorem d_M_takesE_225 : cd_D_aload b_M_takesE 225 0 226 := Or.inr ⟨0, ⟨by decide +kernel, rfl⟩, rfl⟩
theorem d_M_takesE_226 : cd_D 3 b_M_takesE 226 (.invokevirtual 244) 229 := ⟨by decide +kernel, rfl⟩
theorem d_M_takesE_229 : cd_D_istore b_M_takesE 229 2 230 := Or.inr ⟨2, ⟨by decide +kernel, rfl⟩, rfl⟩
theorem d_M_takesE_230 : cd_D_aload b_M_takesE 230 0 231 := Or.inr ⟨0, ⟨by decide +kernel, rfl⟩, rfl⟩
theorem d_M_takesE_231 : cd_D 3 b_M_takesE 231 (.invokevirtual 219) 234 := ⟨by decide +kernel, rfl⟩
theorem d_M_takesE_234 : cd_D_goto b_M_takesE 234 28 := ⟨-206, by decide +kernel, by decide⟩
theorem d_M_takesE_237 : cd_D_aload b_M_takesE 237 0 238 := Or.inr ⟨0, ⟨by decide +kernel, rfl⟩, rfl⟩
theorem d_M_takesE_238 : cd_D 3 b_M_takesE 238 (.invokevirtual 247) 241 := ⟨by decide +kernel, rfl⟩
theorem d_M_takesE_241 : cd_D_istore b_M_takesE 241 4 243 := Or.inl ⟨by decide +kernel, rfl⟩
theorem d_M_takesE_243 : cd_D_iload b_M_takesE 243 4 245 := Or.inl ⟨by decide +kernel, rfl⟩
theorem d_M_takesE_245 : cd_D_if_eq b_M_takesE 245 266 248 := ⟨21, by decide +kernel, by decide, rfl⟩
theorem d_M_takesE_248 : cd_D_iload b_M_takesE 248 4 250 := Or.inl ⟨by decide +kernel, rfl⟩
theorem d_M_takesE_250 : cd_D 3 b_M_takesE 250 (.invokestatic 225) 253 := ⟨by decide +kernel, rfl⟩
theorem d_M_takesE_253 : cd_Dk b_M_takesE 253 (nI 3) 254 := Or.inl ⟨3, ⟨by decide +kernel, rfl⟩, by decide +kernel⟩
theorem d_M_takesE_254 : cd_D_icmp_ne b_M_takesE 254 268 257 := ⟨14, by decide +kernel, by decide, rfl⟩
theorem d_M_takesE_257 : cd_D_aload b_M_takesE 257 0 258 := Or.inr ⟨0, ⟨by decide +kernel, rfl⟩, rfl⟩
theorem d_M_takesE_258 : cd_D 3 b_M_takesE 258 (.getfield 38) 261 := ⟨by decide +kernel, rfl⟩
theorem d_M_takesE_261 : cd_D_iload b_M_takesE 261 1 262 := Or.inr ⟨1, ⟨by decide +kernel, rfl⟩, rfl⟩
theorem d_M_takesE_262 : cd_D 1 b_M_takesE 262 .baload 263 := ⟨by decide +kernel, rfl⟩
theorem d_M_takesE_263 : cd_D_if_eq b_M_takesE 263 268 266 := ⟨5, by decide +kernel, by decide, rfl⟩
theorem d_M_takesE_266 : cd_Dk b_M_takesE 266 (nI 0) 267 := Or.inl ⟨0, ⟨by decide +kernel, rfl⟩, by decide +kernel⟩
theorem d_M_takesE_267 : cd_D 1 b_M_takesE 267 .ireturn 268 := ⟨by decide +kernel, rfl⟩
theorem d_M_takesE_268 : cd_D_aload b_M_takesE 268 0 269 := Or.inr ⟨0, ⟨by decide +kernel, rfl⟩, rfl⟩
theorem d_M_takesE_269 : cd_D 3 b_M_takesE 269 (.getfield 38) 272 := ⟨by decide +kernel, rfl⟩
theorem d_M_takesE_272 : cd_D_iload b_M_takesE 272 1 273 := Or.inr ⟨1, ⟨by decide +kernel, rfl⟩, rfl⟩
theorem d_M_takesE_273 : cd_D_iload b_M_takesE 273 4 275 := Or.inl ⟨by decide +kernel, rfl⟩
theorem d_M_takesE_275 : cd_D 3 b_M_takesE 275 (.invokestatic 225) 278 := ⟨by decide +kernel, rfl⟩
theorem d_M_takesE_278 : cd_Dk b_M_takesE 278 (nI 3) 279 := Or.inl ⟨3, ⟨by decide +kernel, rfl⟩, by decide +kernel⟩
theorem d_M_takesE_279 : cd_D_icmp_eq b_M_takesE 279 300 282 := ⟨21, by decide +kernel, by decide, rfl⟩
theorem d_M_takesE_282 : cd_D_iload b_M_takesE 282 4 284 := Or.inl ⟨by decide +kernel, rfl⟩
theorem d_M_takesE_284 : cd_D 3 b_M_takesE 284 (.invokestatic 225) 287 := ⟨by decide +kernel, rfl⟩
theorem d_M_takesE_287 : cd_Dk b_M_takesE 287 (nI 3) 288 := Or.inl ⟨3, ⟨by decide +kernel, rfl⟩, by decide +kernel⟩
theorem d_M_takesE_288 : cd_D_icmp_le b_M_takesE 288 304 291 := ⟨16, by decide +kernel, by decide, rfl⟩
theorem d_M_takesE_291 : cd_D_aload b_M_takesE 291 0 292 := Or.inr ⟨0, ⟨by decide +kernel, rfl⟩, rfl⟩
theorem d_M_takesE_292 : cd_D 3 b_M_takesE 292 (.getfield 38) 295 := ⟨by decide +kernel, rfl⟩
theorem d_M_takesE_295 : cd_D_iload b_M_takesE 295 1 296 := Or.inr ⟨1, ⟨by decide +kernel, rfl⟩, rfl⟩
theorem d_M_takesE_296 : cd_D 1 b_M_takesE 296 .baload 297 := ⟨by decide +kernel, rfl⟩
theorem d_M_takesE_297 : cd_D_if_eq b_M_takesE 297 304 300 := ⟨7, by decide +kernel, by decide, rfl⟩
theorem d_M_takesE_300 : cd_Dk b_M_takesE 300 (nI 1) 301 := Or.inl ⟨1, ⟨by decide +kernel, rfl⟩, by decide +kernel⟩
theorem d_M_takesE_301 : cd_D_goto b_M_takesE 301 305 := ⟨4, by decide +kernel, by decide⟩
theorem d_M_takesE_304 : cd_Dk b_M_takesE 304 (nI 0) 305 := Or.inl ⟨0, ⟨by decide +kernel, rfl⟩, by decide +kernel⟩
theorem d_M_takesE_305 : cd_D 1 b_M_takesE 305 .bastore 306 := ⟨by decide +kernel, rfl⟩
theorem d_M_takesE_306 : cd_D_aload b_M_takesE 306 0 307 := Or.inr ⟨0, ⟨by decide +kernel, rfl⟩, rfl⟩
theorem d_M_takesE_307 : cd_D_iload b_M_takesE 307 4 309 := Or.inl ⟨by decide +kernel, rfl⟩
theorem d_M_takesE_309 : cd_D 3 b_M_takesE 309 (.invokestatic 225) 312 := ⟨by decide +kernel, rfl⟩
theorem d_M_takesE_312 : cd_D 3 b_M_takesE 312 (.invokevirtual 237) 315 := ⟨by decide +kernel, rfl⟩
theorem d_M_takesE_315 : cd_D_aload b_M_takesE 315 0 316 := Or.inr ⟨0, ⟨by decide +kernel, rfl⟩, rfl⟩
theorem d_M_takesE_316 : cd_D 3 b_M_takesE 316 (.getfield 35) 319 := ⟨by decide +kernel, rfl⟩
theorem d_M_takesE_319 : cd_D_aload b_M_takesE 319 0 320 := Or.inr ⟨0, ⟨by decide +kernel, rfl⟩, rfl⟩
theorem d_M_takesE_320 : cd_D 3 b_M_takesE 320 (.getfield 222) 323 := ⟨by decide +kernel, rfl⟩
theorem d_M_takesE_323 : cd_D_iload b_M_takesE 323 4 325 := Or.inl ⟨by decide +kernel, rfl⟩
theorem d_M_takesE_325 : cd_D 1 b_M_takesE 325 .iastore 326 := ⟨by decide +kernel, rfl⟩
theorem d_M_takesE_326 : cd_D_aload b_M_takesE 326 0 327 := Or.inr ⟨0, ⟨by decide +kernel, rfl⟩, rfl⟩
theorem d_M_takesE_327 : cd_D 1 b_M_takesE 327 .dup 328 := ⟨by decide +kernel, rfl⟩
theorem d_M_takesE_328 : cd_D 3 b_M_takesE 328 (.getfield 222) 331 := ⟨by decide +kernel, rfl⟩
theorem d_M_takesE_331 : cd_Dk b_M_takesE 331 (nI 1) 332 := Or.inl ⟨1, ⟨by decide +kernel, rfl⟩, by decide +kernel⟩
theorem d_M_takesE_332 : cd_D 1 b_M_takesE 332 .iadd 333 := ⟨by decide +kernel, rfl⟩
theorem d_M_takesE_333 : cd_D 3 b_M_takesE 333 (.putfield 222) 336 := ⟨by decide +kernel, rfl⟩
theorem d_M_takesE_336 : cd_Dk b_M_takesE 336 (nI 1) 337 := Or.inl ⟨1, ⟨by decide +kernel, rfl⟩, by decide +kernel⟩
theorem d_M_takesE_337 : cd_D_istore b_M_takesE 337 3 338 := Or.inr ⟨3, ⟨by decide +kernel, rfl⟩, rfl⟩
theorem d_M_takesE_338 : cd_D_aload b_M_takesE 338 0 339 := Or.inr ⟨0, ⟨by decide +kernel, rfl⟩, rfl⟩
theorem d_M_takesE_339 : cd_D 3 b_M_takesE 339 (.invokevirtual 219) 342 := ⟨by decide +kernel, rfl⟩
theorem d_M_takesE_342 : cd_D_goto b_M_takesE 342 28 := ⟨-314, by decide +kernel, by decide⟩
theorem d_M_takesE_345 : cd_D_aload b_M_takesE 345 0 346 := Or.inr ⟨0, ⟨by decide +kernel, rfl⟩, rfl⟩
theorem d_M_takesE_346 : cd_Dk b_M_takesE 346 (nI 0) 347 := Or.inl ⟨0, ⟨by decide +kernel, rfl⟩, by decide +kernel⟩
theorem d_M_takesE_347 : cd_D 3 b_M_takesE 347 (.invokevirtual 237) 350 := ⟨by decide +kernel, rfl⟩
theorem d_M_takesE_350 : cd_D_iload b_M_takesE 350 1 351 := Or.inr ⟨1, ⟨by decide +kernel, rfl⟩, rfl⟩
theorem d_M_takesE_351 : cd_D_if_ne b_M_takesE 351 358 354 := ⟨7, by decide +kernel, by decide, rfl⟩
theorem d_M_takesE_354 : cd_Dk b_M_takesE 354 (nI 1) 355 := Or.inl ⟨1, ⟨by decide +kernel, rfl⟩, by decide +kernel⟩
theorem d_M_takesE_355 : cd_D_goto b_M_takesE 355 359 := ⟨4, by decide +kernel, by decide⟩
theorem d_M_takesE_358 : cd_Dk b_M_takesE 358 (nI 0) 359 := Or.inl ⟨0, ⟨by decide +kernel, rfl⟩, by decide +kernel⟩
theorem d_M_takesE_359 : cd_D 1 b_M_takesE 359 .ireturn 360 := ⟨by decide +kernel, rfl⟩
theorem c_M_takesE {l : Launch} {w : cd_WT} {S : cd_Sp} {I : cd_Mem} {m : Nat} (hM : cd_MO w S m) {B : Nat → Nat} {L ky : Nat} {t0 : px_Tok} (a1 : I m 6 = nI L) (a2 : px_TP (I (m + 5)) B L) (a3 : I m 12 = nI ky ∧ ky ≤ 2) (a4 : px_TF (I m) B t0) (a5 : px_TO B L t0) {r : Bool × px_Tok × List Int32} (hr : r = px_rdt B L ky 800 0 0 0 t0) : cd_C l w m_M_takesE 3 0 0 [.ref m] S I (cd_Pi S (fun y I' => y = cd_bI (r.1 = true ∧ r.2.1.2.1 = 0) ∧ px_fm I I' m ∧ I' m 8 = nI r.2.1.1 ∧ (r.1 = true ∧ r.2.1.2.1 = 0 → I' m 16 = nI r.2.2.length ∧ px_cl (I' (m + 8)) r.2.2 ∧ I' m 17 = nI (px_lv r.2.2)))) := by
  refine cd_intro (by decide) (by simp [Value.category]) (Nat.le_of_ble_eq_true rfl) ?_
  intro X hO hE
  show cd_J w X 0 0 S I 0 [some (.ref m), none, none, none, none] []
  have hR : px_rules B L ky (fun (t : px_Tok) (wt : Bool) (St : List Nat) (p : Nat) (u : Nat → Bool) (c : List Int32) => ∀ (I1 : cd_Mem) (x4 : Option Value), px_RP I1 m B L ky t c St t.1 → px_fm I I1 m → p ≤ 8 → (∀ j, j ≤ p → I1 (m + 10) j = px_b (u j)) → cd_J w X 0 0 S I1 28 [some (.ref m), some (.int (nI (p))), some (.int (nI (St.count 10))), some (.int (px_b wt)), x4] []) (fun t => t.1 = r.2.1.1 ∧ ¬ (r.1 = true ∧ r.2.1.2.1 = 0)) := by
    refine ⟨?_, ?_, ?_, ?_, ?_, ?_, ?_, ?_⟩
    · intro t k S0 p u c x hx h10 hJ I1 x4 hP hf hp hu
      show cd_J w X 0 0 S I1 28 [some (.ref m), some (.int (nI (p))), some (.int (nI ((px_n10 k ++ S0).count 10))), some (.int (nI 1)), x4] []
      obtain ⟨a1, a2, ⟨a3, a3b⟩, a4, a5, a6, a7, a8, a9, a10, a11, a12⟩ := id hP
      have hkd := a5.2.2.2.2.1
      have hT1 := a2.1
      have htL := a5.1
      have hnL := a5.2.1
      have hk3 : ¬ t.2.1 = 3 := by
        intro q
        unfold px_lfo at hx
        rw [q, if_neg (by decide), if_neg (by rintro ⟨q1, -⟩; exact absurd q1 (by decide))] at hx
        cases hx
      refine r_iload hO d_M_takesE_28 rfl ?_
      refine r_if_ne hO d_M_takesE_29 (fun c_29 => ?_) (fun c_29 => ?_)
      · refine r_iload hO d_M_takesE_39 rfl ?_
        refine r_if_eq hO d_M_takesE_40 (fun c_40 => ?_) (fun c_40 => ?_)
        · exact absurd c_40 (by decide)
        · refine r_aload hO d_M_takesE_43 rfl ?_
          refine r_getI hO f_M_204 rfl hM.2.1 d_M_takesE_44 ?_
          refine r_tops (show _ = nI t.2.1 from a4.2.1) ?_
          refine r_k hO d_M_takesE_47 ?_
          refine r_icmp_ne hO d_M_takesE_48 (fun c_48 => ?_) (fun c_48 => ?_)
          · refine r_aload hO d_M_takesE_97 rfl ?_
            refine r_getI hO f_M_204 rfl hM.2.1 d_M_takesE_98 ?_
            refine r_tops (show _ = nI t.2.1 from a4.2.1) ?_
            refine r_k hO d_M_takesE_101 ?_
            refine r_icmp_ne hO d_M_takesE_102 (fun c_102 => ?_) (fun c_102 => ?_)
            · refine r_aload hO d_M_takesE_158 rfl ?_
              refine r_cV0i hO hE (c_M_takesPart hM hP h10) mf_M_takesPart lk_M_240 hM.2.1 rfl (by decide) rfl (Nat.le_of_ble_eq_true rfl) d_M_takesE_159 (Nat.zero_le _) (Nat.zero_le _) ?_
              rintro y I2 h2
              rcases h2 with ⟨q, -⟩ | ⟨x', hx', rfl, hP2, hf2, h102⟩
              · rw [hx] at q
                cases q
              cases hx.symm.trans hx'
              refine r_if_eq hO d_M_takesE_162 (fun c_162 => ?_) (fun c_162 => ?_)
              · exact absurd c_162 (by decide)
              · refine r_k hO d_M_takesE_165 ?_
                refine r_sI3 hO d_M_takesE_166 rfl ?_
                refine r_goto hO d_M_takesE_167 ?_
                refine r_aload hO d_M_takesE_172 rfl ?_
                refine r_cV0fi hO hE (c_M_notsOpen_r hM hP2 (Nat.le_trans hP2.2.2.2.2.1.1 hT1)) mf_M_notsOpen lk_M_244 hM.2.1 rfl (by decide) rfl (Nat.le_of_ble_eq_true rfl) d_M_takesE_173 (Nat.zero_le _) (Nat.zero_le _) ?_
                refine r_sI2 hO d_M_takesE_176 rfl ?_
                refine r_goto hO d_M_takesE_177 ?_
                exact hJ I2 _ hP2 (hf.tr hf2) hp (fun j hj => by rw [h102]; exact hu j hj)
            · exact absurd ((nI_eq (by omega) (by omega)).mp c_102) hk3
          · exact absurd ((nI_eq (by omega) (by omega)).mp c_48) hk3
      · exact absurd c_29 (by decide)
    · intro t St p u c hx h8 hJ I1 x4 hP hf hp hu
      show cd_J w X 0 0 S I1 28 [some (.ref m), some (.int (nI (p))), some (.int (nI (St.count 10))), some (.int (nI 1)), x4] []
      obtain ⟨a1, a2, ⟨a3, a3b⟩, a4, a5, a6, a7, a8, a9, a10, a11, a12⟩ := id hP
      have hkd := a5.2.2.2.2.1
      have hT1 := a2.1
      have htL := a5.1
      have hnL := a5.2.1
      have hk3 : t.2.1 = 3 := hx.1
      have hv : I1 m 10 = nI (B t.1) := a4.2.2.2.1 (Or.inr hk3)
      have hlt := a5.2.2.1 (by omega)
      have hvb := (a2.2 t.1 (by omega)).2
      refine r_iload hO d_M_takesE_28 rfl ?_
      refine r_if_ne hO d_M_takesE_29 (fun c_29 => ?_) (fun c_29 => ?_)
      · refine r_iload hO d_M_takesE_39 rfl ?_
        refine r_if_eq hO d_M_takesE_40 (fun c_40 => ?_) (fun c_40 => ?_)
        · exact absurd c_40 (by decide)
        · refine r_aload hO d_M_takesE_43 rfl ?_
          refine r_getI hO f_M_204 rfl hM.2.1 d_M_takesE_44 ?_
          refine r_tops (show _ = nI t.2.1 from a4.2.1) ?_
          refine r_k hO d_M_takesE_47 ?_
          refine r_icmp_ne hO d_M_takesE_48 (fun c_48 => ?_) (fun c_48 => ?_)
          · exact absurd hk3 (fun q => c_48 (by rw [q]))
          · refine r_aload hO d_M_takesE_51 rfl ?_
            refine r_getI hO f_M_210 rfl hM.2.1 d_M_takesE_52 ?_
            refine r_tops (show _ = nI (B t.1) from hv) ?_
            refine r_k hO d_M_takesE_55 ?_
            refine r_icmp_ne hO d_M_takesE_57 (fun c_57 => ?_) (fun c_57 => ?_)
            · exact absurd (by rw [hx.2]) c_57
            · refine r_iload hO d_M_takesE_60 rfl ?_
              refine r_k hO d_M_takesE_61 ?_
              refine r_icmp_ge hO d_M_takesE_63 (fun c_63 => ?_) (fun c_63 => ?_)
              · exact absurd ((nI_leI (by omega) (by omega)).mp c_63) (by omega)
              · refine r_aload hO d_M_takesE_66 rfl ?_
                refine r_getR hO f_M_35 rfl hM.2.1 (mo_r9 hM) d_M_takesE_67 ?_
                refine r_aload hO d_M_takesE_70 rfl ?_
                refine r_getI hO f_M_222 rfl hM.2.1 d_M_takesE_71 ?_
                refine r_tops (show _ = nI St.length from a9) ?_
                refine r_k hO d_M_takesE_74 ?_
                refine r_iast hO (mo_s9 hM) (mo_l9 hM) (by omega) (by decide) d_M_takesE_76 ?_
                refine r_aload hO d_M_takesE_77 rfl ?_
                refine r_dup hO d_M_takesE_78 rfl ?_
                refine r_getI hO f_M_222 rfl hM.2.1 d_M_takesE_79 ?_
                try simp (disch := omega) only [cd_set_eq, cd_set_ne, cd_set_set]
                refine r_tops (show _ = nI St.length from a9) ?_
                refine r_k hO d_M_takesE_82 ?_
                refine r_iaddN hO d_M_takesE_83 ?_
                refine r_putI hO f_M_222 rfl hM.2.1 hM.1 d_M_takesE_84 ?_
                try simp (disch := omega) only [cd_set_eq, cd_set_ne, cd_set_set]
                refine r_gen (fun I2 hI2 => ?_)
                have hP2 : px_RP I2 m B L ky t c (10 :: St) (t.1 + 1) := by rw [hI2]; exact hP.push (by decide) (by decide)
                have hf2 : px_fm I I2 m := by rw [hI2]; exact (hf.setr (Or.inr (Or.inl rfl))).setm (fun k hk => by rw [cd_set_ne _ _ (by omega)]; exact px_un _ _ (by omega))
                have h102 : I2 (m + 10) = I1 (m + 10) := by rw [hI2, cd_set_ne _ _ (by omega), cd_set_ne _ _ (by omega)]
                clear hI2
                refine r_incN2 hO d_M_takesE_87 rfl ?_
                refine r_aload hO d_M_takesE_90 rfl ?_
                refine r_cV0v hO hE (c_M_go_r hM hP2 (by omega) (Or.inr (Or.inr hk3))) mf_M_go lk_M_219 hM.2.1 rfl (by decide) rfl (Nat.le_of_ble_eq_true rfl) d_M_takesE_91 (Nat.zero_le _) (Nat.zero_le _) ?_
                rintro I4 ⟨j1, j2, j3⟩
                try simp (disch := omega) only [cd_set_eq, cd_set_ne, cd_set_set]
                refine r_goto hO d_M_takesE_94 ?_
                refine r_aload hO d_M_takesE_172 rfl ?_
                refine r_cV0fi hO hE (c_M_notsOpen_r hM j1 (Nat.le_trans j1.2.2.2.2.1.1 hT1)) mf_M_notsOpen lk_M_244 hM.2.1 rfl (by decide) rfl (Nat.le_of_ble_eq_true rfl) d_M_takesE_173 (Nat.zero_le _) (Nat.zero_le _) ?_
                try simp (disch := omega) only [cd_set_eq, cd_set_ne, cd_set_set]
                refine r_sI2 hO d_M_takesE_176 rfl ?_
                refine r_goto hO d_M_takesE_177 ?_
                exact hJ I4 _ j1 (hf2.tr j2) hp (fun j hj => by rw [j3, h102]; exact hu j hj)
      · exact absurd c_29 (by decide)
    · intro t St p u c hx h8 hJ I1 x4 hP hf hp hu
      show cd_J w X 0 0 S I1 28 [some (.ref m), some (.int (nI (p))), some (.int (nI (St.count 10))), some (.int (nI 1)), x4] []
      obtain ⟨a1, a2, ⟨a3, a3b⟩, a4, a5, a6, a7, a8, a9, a10, a11, a12⟩ := id hP
      have hkd := a5.2.2.2.2.1
      have hT1 := a2.1
      have htL := a5.1
      have hnL := a5.2.1
      have hk3 : t.2.1 = 3 := hx.1
      have hv : I1 m 10 = nI (B t.1) := a4.2.2.2.1 (Or.inr hk3)
      have hlt := a5.2.2.1 (by omega)
      have hvb := (a2.2 t.1 (by omega)).2
      refine r_iload hO d_M_takesE_28 rfl ?_
      refine r_if_ne hO d_M_takesE_29 (fun c_29 => ?_) (fun c_29 => ?_)
      · refine r_iload hO d_M_takesE_39 rfl ?_
        refine r_if_eq hO d_M_takesE_40 (fun c_40 => ?_) (fun c_40 => ?_)
        · exact absurd c_40 (by decide)
        · refine r_aload hO d_M_takesE_43 rfl ?_
          refine r_getI hO f_M_204 rfl hM.2.1 d_M_takesE_44 ?_
          refine r_tops (show _ = nI t.2.1 from a4.2.1) ?_
          refine r_k hO d_M_takesE_47 ?_
          refine r_icmp_ne hO d_M_takesE_48 (fun c_48 => ?_) (fun c_48 => ?_)
          · exact absurd hk3 (fun q => c_48 (by rw [q]))
          · refine r_aload hO d_M_takesE_51 rfl ?_
            refine r_getI hO f_M_210 rfl hM.2.1 d_M_takesE_52 ?_
            refine r_tops (show _ = nI (B t.1) from hv) ?_
            refine r_k hO d_M_takesE_55 ?_
            refine r_icmp_ne hO d_M_takesE_57 (fun c_57 => ?_) (fun c_57 => ?_)
            · refine r_aload hO d_M_takesE_97 rfl ?_
              refine r_getI hO f_M_204 rfl hM.2.1 d_M_takesE_98 ?_
              refine r_tops (show _ = nI t.2.1 from a4.2.1) ?_
              refine r_k hO d_M_takesE_101 ?_
              refine r_icmp_ne hO d_M_takesE_102 (fun c_102 => ?_) (fun c_102 => ?_)
              · exact absurd hk3 (fun q => c_102 (by rw [q]))
              · refine r_aload hO d_M_takesE_105 rfl ?_
                refine r_getI hO f_M_210 rfl hM.2.1 d_M_takesE_106 ?_
                refine r_tops (show _ = nI (B t.1) from hv) ?_
                refine r_k hO d_M_takesE_109 ?_
                refine r_icmp_ne hO d_M_takesE_111 (fun c_111 => ?_) (fun c_111 => ?_)
                · exact absurd (by rw [hx.2]) c_111
                · refine r_iload hO d_M_takesE_114 rfl ?_
                  refine r_k hO d_M_takesE_115 ?_
                  refine r_icmp_ge hO d_M_takesE_117 (fun c_117 => ?_) (fun c_117 => ?_)
                  · exact absurd ((nI_leI (by omega) (by omega)).mp c_117) (by omega)
                  · refine r_aload hO d_M_takesE_120 rfl ?_
                    refine r_getR hO f_M_35 rfl hM.2.1 (mo_r9 hM) d_M_takesE_121 ?_
                    refine r_aload hO d_M_takesE_124 rfl ?_
                    refine r_getI hO f_M_222 rfl hM.2.1 d_M_takesE_125 ?_
                    refine r_tops (show _ = nI St.length from a9) ?_
                    refine r_k hO d_M_takesE_128 ?_
                    refine r_iast hO (mo_s9 hM) (mo_l9 hM) (by omega) (by decide) d_M_takesE_130 ?_
                    refine r_aload hO d_M_takesE_131 rfl ?_
                    refine r_dup hO d_M_takesE_132 rfl ?_
                    refine r_getI hO f_M_222 rfl hM.2.1 d_M_takesE_133 ?_
                    try simp (disch := omega) only [cd_set_eq, cd_set_ne, cd_set_set]
                    refine r_tops (show _ = nI St.length from a9) ?_
                    refine r_k hO d_M_takesE_136 ?_
                    refine r_iaddN hO d_M_takesE_137 ?_
                    refine r_putI hO f_M_222 rfl hM.2.1 hM.1 d_M_takesE_138 ?_
                    try simp (disch := omega) only [cd_set_eq, cd_set_ne, cd_set_set]
                    refine r_gen (fun I2 hI2 => ?_)
                    have hP2 : px_RP I2 m B L ky t c (11 :: St) (t.1 + 1) := by rw [hI2]; exact hP.push (by decide) (by decide)
                    have hf2 : px_fm I I2 m := by rw [hI2]; exact (hf.setr (Or.inr (Or.inl rfl))).setm (fun k hk => by rw [cd_set_ne _ _ (by omega)]; exact px_un _ _ (by omega))
                    have h102 : I2 (m + 10) = I1 (m + 10) := by rw [hI2, cd_set_ne _ _ (by omega), cd_set_ne _ _ (by omega)]
                    clear hI2
                    refine r_incN1 hO d_M_takesE_141 rfl ?_
                    refine r_aload hO d_M_takesE_144 rfl ?_
                    refine r_getR hO f_M_38 rfl hM.2.1 (mo_r10 hM) d_M_takesE_145 ?_
                    try simp (disch := omega) only [cd_set_eq, cd_set_ne, cd_set_set]
                    refine r_iload hO d_M_takesE_148 rfl ?_
                    refine r_k hO d_M_takesE_149 ?_
                    refine r_zast hO (mo_s10 hM) (mo_l10 hM) (by omega) (by decide) d_M_takesE_150 ?_
                    try simp (disch := omega) only [cd_set_eq, cd_set_ne, cd_set_set]
                    refine r_gen (fun I3 hI3 => ?_)
                    have hP3 : px_RP I3 m B L ky t c (11 :: St) (t.1 + 1) := by rw [hI3]; exact hP2.row _
                    have hf3 : px_fm I I3 m := by rw [hI3]; exact hf2.setr (Or.inr (Or.inr rfl))
                    have hu3 : ∀ j, j ≤ p + 1 → I3 (m + 10) j = px_b (px_sb u (p + 1) false j) := by
                      intro j hj
                      rw [hI3, cd_set_eq]
                      unfold upd px_sb
                      by_cases e : j = p + 1
                      · rw [if_pos e, if_pos e]; decide
                      · rw [if_neg e, if_neg e, h102]; exact hu j (by omega)
                    clear hI3
                    refine r_aload hO d_M_takesE_151 rfl ?_
                    refine r_cV0v hO hE (c_M_go_r hM hP3 (by omega) (Or.inr (Or.inr hk3))) mf_M_go lk_M_219 hM.2.1 rfl (by decide) rfl (Nat.le_of_ble_eq_true rfl) d_M_takesE_152 (Nat.zero_le _) (Nat.zero_le _) ?_
                    rintro I4 ⟨j1, j2, j3⟩
                    try simp (disch := omega) only [cd_set_eq, cd_set_ne, cd_set_set]
                    refine r_goto hO d_M_takesE_155 ?_
                    refine r_aload hO d_M_takesE_172 rfl ?_
                    refine r_cV0fi hO hE (c_M_notsOpen_r hM j1 (Nat.le_trans j1.2.2.2.2.1.1 hT1)) mf_M_notsOpen lk_M_244 hM.2.1 rfl (by decide) rfl (Nat.le_of_ble_eq_true rfl) d_M_takesE_173 (Nat.zero_le _) (Nat.zero_le _) ?_
                    try simp (disch := omega) only [cd_set_eq, cd_set_ne, cd_set_set]
                    refine r_sI2 hO d_M_takesE_176 rfl ?_
                    refine r_goto hO d_M_takesE_177 ?_
                    exact hJ I4 _ j1 (hf3.tr j2) (by omega) (fun j hj => by rw [j3]; exact hu3 j hj)
            · exact absurd ((nI_eq (by omega) (by omega)).mp c_57) (by rw [hx.2]; decide)
      · exact absurd c_29 (by decide)
    · intro t St p u c hx h1 h2 hF I1 x4 hP hf hp hu
      show cd_J w X 0 0 S I1 28 [some (.ref m), some (.int (nI (p))), some (.int (nI (St.count 10))), some (.int (nI 1)), x4] []
      obtain ⟨a1, a2, ⟨a3, a3b⟩, a4, a5, a6, a7, a8, a9, a10, a11, a12⟩ := id hP
      have hkd := a5.2.2.2.2.1
      have hT1 := a2.1
      have htL := a5.1
      have hnL := a5.2.1
      have hcb : St.count 10 ≤ St.length := List.count_le_length
      have hv3 : t.2.1 = 3 → I1 m 10 = nI (B t.1) ∧ B t.1 < 256 := fun q => ⟨a4.2.2.2.1 (Or.inr q), (a2.2 t.1 (by have := a5.2.2.1 (by omega); omega)).2⟩
      have tail : cd_J w X 0 0 S I1 158 [some (.ref m), some (.int (nI (p))), some (.int (nI (St.count 10))), some (.int (nI 1)), x4] [] := by
        obtain ⟨k, S0, hk, h10⟩ := px_split10 St
        rw [hk] at hP
        refine r_aload hO d_M_takesE_158 rfl ?_
        refine r_cV0i hO hE (c_M_takesPart hM hP h10) mf_M_takesPart lk_M_240 hM.2.1 rfl (by decide) rfl (Nat.le_of_ble_eq_true rfl) d_M_takesE_159 (Nat.zero_le _) (Nat.zero_le _) ?_
        rintro y I2 h2
        rcases h2 with ⟨-, rfl, rfl⟩ | ⟨x', hx', -⟩
        case inr =>
          rw [hx] at hx'
          cases hx'
        refine r_if_eq hO d_M_takesE_162 (fun c_162 => ?_) (fun c_162 => ?_)
        · refine r_k hO d_M_takesE_170 ?_
          refine r_zret hO hE (by first | exact Or.inl rfl | exact Or.inr rfl) (Nat.zero_le _) (Nat.zero_le _) d_M_takesE_171 ?_
          exact ⟨_, rfl, rfl, by rw [cd_bI, if_neg hF.2]; rfl, hf, by rw [a4.1, hF.1], fun q => absurd q hF.2⟩
        · exact absurd rfl c_162
      refine r_iload hO d_M_takesE_28 rfl ?_
      refine r_if_ne hO d_M_takesE_29 (fun c_29 => ?_) (fun c_29 => ?_)
      · refine r_iload hO d_M_takesE_39 rfl ?_
        refine r_if_eq hO d_M_takesE_40 (fun c_40 => ?_) (fun c_40 => ?_)
        · exact absurd c_40 (by decide)
        · refine r_aload hO d_M_takesE_43 rfl ?_
          refine r_getI hO f_M_204 rfl hM.2.1 d_M_takesE_44 ?_
          refine r_tops (show _ = nI t.2.1 from a4.2.1) ?_
          refine r_k hO d_M_takesE_47 ?_
          refine r_icmp_ne hO d_M_takesE_48 (fun c_48 => ?_) (fun c_48 => ?_)
          · rw [nI_eq (by omega) (by omega)] at c_48
            refine r_aload hO d_M_takesE_97 rfl ?_
            refine r_getI hO f_M_204 rfl hM.2.1 d_M_takesE_98 ?_
            refine r_tops (show _ = nI t.2.1 from a4.2.1) ?_
            refine r_k hO d_M_takesE_101 ?_
            refine r_icmp_ne hO d_M_takesE_102 (fun c_102 => ?_) (fun c_102 => ?_)
            · rw [nI_eq (by omega) (by omega)] at c_102
              exact tail
            · rw [nI_eq (by omega) (by omega)] at c_102
              obtain ⟨hv, hvb⟩ := hv3 c_102
              refine r_aload hO d_M_takesE_105 rfl ?_
              refine r_getI hO f_M_210 rfl hM.2.1 d_M_takesE_106 ?_
              refine r_tops (show _ = nI (B t.1) from hv) ?_
              refine r_k hO d_M_takesE_109 ?_
              refine r_icmp_ne hO d_M_takesE_111 (fun c_111 => ?_) (fun c_111 => ?_)
              · rw [nI_eq (by omega) (by omega)] at c_111
                exact tail
              · rw [nI_eq (by omega) (by omega)] at c_111
                refine r_iload hO d_M_takesE_114 rfl ?_
                refine r_k hO d_M_takesE_115 ?_
                refine r_icmp_ge hO d_M_takesE_117 (fun c_117 => ?_) (fun c_117 => ?_)
                · rw [nI_leI (by omega) (by omega)] at c_117
                  exact tail
                · rw [nI_leI (by omega) (by omega)] at c_117
                  exact absurd ⟨⟨c_102, c_111⟩, by omega⟩ h2
          · rw [nI_eq (by omega) (by omega)] at c_48
            obtain ⟨hv, hvb⟩ := hv3 c_48
            refine r_aload hO d_M_takesE_51 rfl ?_
            refine r_getI hO f_M_210 rfl hM.2.1 d_M_takesE_52 ?_
            refine r_tops (show _ = nI (B t.1) from hv) ?_
            refine r_k hO d_M_takesE_55 ?_
            refine r_icmp_ne hO d_M_takesE_57 (fun c_57 => ?_) (fun c_57 => ?_)
            · rw [nI_eq (by omega) (by omega)] at c_57
              refine r_aload hO d_M_takesE_97 rfl ?_
              refine r_getI hO f_M_204 rfl hM.2.1 d_M_takesE_98 ?_
              refine r_tops (show _ = nI t.2.1 from a4.2.1) ?_
              refine r_k hO d_M_takesE_101 ?_
              refine r_icmp_ne hO d_M_takesE_102 (fun c_102 => ?_) (fun c_102 => ?_)
              · rw [nI_eq (by omega) (by omega)] at c_102
                exact tail
              · rw [nI_eq (by omega) (by omega)] at c_102
                obtain ⟨hv, hvb⟩ := hv3 c_102
                refine r_aload hO d_M_takesE_105 rfl ?_
                refine r_getI hO f_M_210 rfl hM.2.1 d_M_takesE_106 ?_
                refine r_tops (show _ = nI (B t.1) from hv) ?_
                refine r_k hO d_M_takesE_109 ?_
                refine r_icmp_ne hO d_M_takesE_111 (fun c_111 => ?_) (fun c_111 => ?_)
                · rw [nI_eq (by omega) (by omega)] at c_111
                  exact tail
                · rw [nI_eq (by omega) (by omega)] at c_111
                  refine r_iload hO d_M_takesE_114 rfl ?_
                  refine r_k hO d_M_takesE_115 ?_
                  refine r_icmp_ge hO d_M_takesE_117 (fun c_117 => ?_) (fun c_117 => ?_)
                  · rw [nI_leI (by omega) (by omega)] at c_117
                    exact tail
                  · rw [nI_leI (by omega) (by omega)] at c_117
                    exact absurd ⟨⟨c_102, c_111⟩, by omega⟩ h2
            · rw [nI_eq (by omega) (by omega)] at c_57
              refine r_iload hO d_M_takesE_60 rfl ?_
              refine r_k hO d_M_takesE_61 ?_
              refine r_icmp_ge hO d_M_takesE_63 (fun c_63 => ?_) (fun c_63 => ?_)
              · rw [nI_leI (by omega) (by omega)] at c_63
                refine r_aload hO d_M_takesE_97 rfl ?_
                refine r_getI hO f_M_204 rfl hM.2.1 d_M_takesE_98 ?_
                refine r_tops (show _ = nI t.2.1 from a4.2.1) ?_
                refine r_k hO d_M_takesE_101 ?_
                refine r_icmp_ne hO d_M_takesE_102 (fun c_102 => ?_) (fun c_102 => ?_)
                · rw [nI_eq (by omega) (by omega)] at c_102
                  exact tail
                · rw [nI_eq (by omega) (by omega)] at c_102
                  obtain ⟨hv, hvb⟩ := hv3 c_102
                  refine r_aload hO d_M_takesE_105 rfl ?_
                  refine r_getI hO f_M_210 rfl hM.2.1 d_M_takesE_106 ?_
                  refine r_tops (show _ = nI (B t.1) from hv) ?_
                  refine r_k hO d_M_takesE_109 ?_
                  refine r_icmp_ne hO d_M_takesE_111 (fun c_111 => ?_) (fun c_111 => ?_)
                  · rw [nI_eq (by omega) (by omega)] at c_111
                    exact tail
                  · rw [nI_eq (by omega) (by omega)] at c_111
                    refine r_iload hO d_M_takesE_114 rfl ?_
                    refine r_k hO d_M_takesE_115 ?_
                    refine r_icmp_ge hO d_M_takesE_117 (fun c_117 => ?_) (fun c_117 => ?_)
                    · rw [nI_leI (by omega) (by omega)] at c_117
                      exact tail
                    · rw [nI_leI (by omega) (by omega)] at c_117
                      exact absurd ⟨⟨c_102, c_111⟩, by omega⟩ h2
              · rw [nI_leI (by omega) (by omega)] at c_63
                exact absurd ⟨⟨c_48, c_57⟩, by omega⟩ h1
      · exact absurd c_29 (by decide)
    · intro t D k S0 p u c hx hD h10 hJ I1 x4 hP hf hp hu
      show cd_J w X 0 0 S I1 28 [some (.ref m), some (.int (nI (p + 1))), some (.int (nI ((D ++ 11 :: (px_n10 k ++ S0)).count 10))), some (.int (nI 0)), x4] []
      obtain ⟨a1, a2, ⟨a3, a3b⟩, a4, a5, a6, a7, a8, a9, a10, a11, a12⟩ := id hP
      have hkd := a5.2.2.2.2.1
      have hT1 := a2.1
      have htL := a5.1
      have hnL := a5.2.1
      have hk3 : t.2.1 = 3 := hx.1
      have hv : I1 m 10 = nI (B t.1) := a4.2.2.2.1 (Or.inr hk3)
      have hlt := a5.2.2.1 (by omega)
      have hvb := (a2.2 t.1 (by omega)).2
      have hk0 : ¬ t.2.1 = 0 := by omega
      have hS11 : ∀ x ∈ S0, 1 ≤ x ∧ x ≤ 11 := fun y hy => a11 y (List.mem_append_right _ (List.mem_cons_of_mem _ (List.mem_append_right _ hy)))
      refine r_iload hO d_M_takesE_28 rfl ?_
      refine r_if_ne hO d_M_takesE_29 (fun c_29 => ?_) (fun c_29 => ?_)
      · exact absurd rfl c_29
      · refine r_aload hO d_M_takesE_32 rfl ?_
        refine r_getI hO f_M_204 rfl hM.2.1 d_M_takesE_33 ?_
        refine r_tops (show _ = nI t.2.1 from a4.2.1) ?_
        refine r_if_eq hO d_M_takesE_36 (fun c_36 => ?_) (fun c_36 => ?_)
        · exact absurd c_36 (nI_ne0 (by omega) (by omega))
        · refine r_iload hO d_M_takesE_39 rfl ?_
          refine r_if_eq hO d_M_takesE_40 (fun c_40 => ?_) (fun c_40 => ?_)
          · refine r_aload hO d_M_takesE_180 rfl ?_
            refine r_getI hO f_M_204 rfl hM.2.1 d_M_takesE_181 ?_
            refine r_tops (show _ = nI t.2.1 from a4.2.1) ?_
            refine r_k hO d_M_takesE_184 ?_
            refine r_icmp_ne hO d_M_takesE_185 (fun c_185 => ?_) (fun c_185 => ?_)
            · exact absurd hk3 (fun q => c_185 (by rw [q]))
            · refine r_aload hO d_M_takesE_188 rfl ?_
              refine r_getI hO f_M_210 rfl hM.2.1 d_M_takesE_189 ?_
              refine r_tops (show _ = nI (B t.1) from hv) ?_
              refine r_k hO d_M_takesE_192 ?_
              refine r_icmp_ne hO d_M_takesE_194 (fun c_194 => ?_) (fun c_194 => ?_)
              · exact absurd (by rw [hx.2]) c_194
              · refine r_iload hO d_M_takesE_197 rfl ?_
                refine r_if_le hO d_M_takesE_198 (fun c_198 => ?_) (fun c_198 => ?_)
                · exact absurd c_198 (nI_nle (by omega) (by omega))
                · refine r_aload hO d_M_takesE_201 rfl ?_
                  refine r_k hO d_M_takesE_202 ?_
                  refine r_cV1v hO hE (c_M_settle_r hM (D := D) (S0 := 11 :: (px_n10 k ++ S0)) hP (by omega) (by decide) (fun y hy => ⟨(hD y hy).1, Nat.le_trans (hD y hy).2.1 (by decide), Nat.zero_le _⟩) (fun y S1 e => by cases e; exact Or.inl rfl)) mf_M_settle lk_M_237 hM.2.1 rfl (by decide) rfl (Nat.le_of_ble_eq_true rfl) d_M_takesE_203 (Nat.zero_le _) (Nat.zero_le _) ?_
                  rintro I2 ⟨hP2, hf2, h102⟩
                  have b9 : I2 m 19 = nI ((px_n10 k ++ S0).length + 1) := hP2.2.2.2.2.2.2.2.2.1
                  have hlb : (px_n10 k ++ S0).length ≤ t.1 := by have := hP2.2.2.2.2.2.2.2.2.2.2.2; have e : (11 :: (px_n10 k ++ S0)).length = (px_n10 k ++ S0).length + 1 := rfl; omega
                  try simp (disch := omega) only [cd_set_eq, cd_set_ne, cd_set_set]
                  refine r_aload hO d_M_takesE_206 rfl ?_
                  refine r_dup hO d_M_takesE_207 rfl ?_
                  refine r_getI hO f_M_222 rfl hM.2.1 d_M_takesE_208 ?_
                  try simp (disch := omega) only [cd_set_eq, cd_set_ne, cd_set_set]
                  refine r_tops (show _ = nI ((px_n10 k ++ S0).length + 1) from b9) ?_
                  refine r_k hO d_M_takesE_211 ?_
                  refine r_isubN hO d_M_takesE_212 (by omega) ?_
                  refine r_putI hO f_M_222 rfl hM.2.1 hM.1 d_M_takesE_213 ?_
                  try simp (disch := omega) only [cd_set_eq, cd_set_ne, cd_set_set]
                  refine r_gen (fun I3 hI3 => ?_)
                  have hP3 : px_RP I3 m B L ky t (c ++ D.map px_sc) (px_n10 k ++ S0) t.1 := by rw [hI3]; exact hP2.pop
                  have hf3 : px_fm I I3 m := by rw [hI3]; exact (hf.tr hf2).setm (fun k hk => px_un _ _ (by omega))
                  have h103 : I3 (m + 10) = I1 (m + 10) := by rw [hI3, cd_set_ne _ _ (by omega)]; exact h102
                  clear hI3
                  refine r_inc1 hO d_M_takesE_216 (show nI (p + 1) + Int32.ofInt (-1) = nI p from sb_m1 (by omega)) rfl ?_
                  refine r_aload hO d_M_takesE_219 rfl ?_
                  refine r_k hO d_M_takesE_220 ?_
                  refine r_cV1v hO hE (c_M_settle_r hM (D := px_n10 k) (S0 := S0) hP3 (by omega) (by decide) (fun y hy => by rw [px_n10_m hy]; decide) (px_h10_s h10 hS11)) mf_M_settle lk_M_237 hM.2.1 rfl (by decide) rfl (Nat.le_of_ble_eq_true rfl) d_M_takesE_222 (Nat.zero_le _) (Nat.zero_le _) ?_
                  rintro I4 ⟨hP4, hf4, h104⟩
                  rw [px_n10_c] at hP4
                  try simp (disch := omega) only [cd_set_eq, cd_set_ne, cd_set_set]
                  refine r_aload hO d_M_takesE_225 rfl ?_
                  refine r_cV0fi hO hE (c_M_notsOpen_r hM hP4 (by omega)) mf_M_notsOpen lk_M_244 hM.2.1 rfl (by decide) rfl (Nat.le_of_ble_eq_true rfl) d_M_takesE_226 (Nat.zero_le _) (Nat.zero_le _) ?_
                  try simp (disch := omega) only [cd_set_eq, cd_set_ne, cd_set_set]
                  refine r_sI2 hO d_M_takesE_229 rfl ?_
                  refine r_aload hO d_M_takesE_230 rfl ?_
                  refine r_cV0v hO hE (c_M_go_r hM hP4 (by omega) (Or.inr (Or.inr hk3))) mf_M_go lk_M_219 hM.2.1 rfl (by decide) rfl (Nat.le_of_ble_eq_true rfl) d_M_takesE_231 (Nat.zero_le _) (Nat.zero_le _) ?_
                  rintro I5 ⟨j1, j2, j3⟩
                  try simp (disch := omega) only [cd_set_eq, cd_set_ne, cd_set_set]
                  refine r_goto hO d_M_takesE_234 ?_
                  exact hJ I5 _ j1 ((hf3.tr hf4).tr j2) (by omega) (fun j hj => by rw [j3, h104, h103]; exact hu j (by omega))
          · exact absurd rfl c_40
    · intro t D S0 p u c hs0 h3 hD hlt0 hJ I1 x4 hP hf hp hu
      obtain ⟨sg, hsg⟩ : ∃ sg, sg = px_ssg B t := ⟨_, rfl⟩
      have hsb := px_ssg_b B t
      have hk3' := px_ssg_k hs0
      rw [← hsg] at hs0 h3 hD hlt0 hJ hsb
      have hcn : (D ++ S0).count 10 = (sg :: S0).count 10 := by
        rw [List.count_append, px_bin_n hD, List.count_cons_of_ne (by omega), Nat.zero_add]
      show cd_J w X 0 0 S I1 28 [some (.ref m), some (.int (nI (p))), some (.int (nI ((D ++ S0).count 10))), some (.int (nI 0)), x4] []
      rw [hcn]
      obtain ⟨a1, a2, ⟨a3, a3b⟩, a4, a5, a6, a7, a8, a9, a10, a11, a12⟩ := id hP
      have hkd := a5.2.2.2.2.1
      have hT1 := a2.1
      have htL := a5.1
      have hnL := a5.2.1
      have hk3 : t.2.1 = 3 := hk3'
      have hv : I1 m 10 = nI (B t.1) := a4.2.2.2.1 (Or.inr hk3)
      have hlt := a5.2.2.1 (by omega)
      have hvb := (a2.2 t.1 (by omega)).2
      have hk0 : ¬ t.2.1 = 0 := by omega
      have h41 : ¬ B t.1 = 41 := by
        intro q
        unfold px_ssg at hsg
        rw [if_pos hk3, q] at hsg
        have : px_sgn 41 = 0 := by decide
        omega
      have hrk := px_rk_6 sg
      have hup := hu p (Nat.le_refl _)
      have tail : cd_J w X 0 0 S I1 268 [some (.ref m), some (.int (nI (p))), some (.int (nI ((sg :: S0).count 10))), some (.int (nI 0)), some (.int (px_sc sg))] [] := by
        refine r_aload hO d_M_takesE_268 rfl ?_
        refine r_getR hO f_M_38 rfl hM.2.1 (mo_r10 hM) d_M_takesE_269 ?_
        refine r_iload hO d_M_takesE_272 rfl ?_
        refine r_iload hO d_M_takesE_273 rfl ?_
        refine r_cS1fi hO hE (px_imp (c_M_rank (px_sc sg)) (fun r S2 I2 q => by rw [px_rkI_e sg (by omega) (by omega)] at q; exact q)) mf_M_rank lk_M_225 (by decide) rfl (Nat.le_of_ble_eq_true rfl) d_M_takesE_275 (Nat.zero_le _) (Nat.zero_le _) ?_
        try simp (disch := omega) only [cd_set_eq, cd_set_ne, cd_set_set]
        refine r_k hO d_M_takesE_278 ?_
        refine r_jn2 (pcJ := 305) (fun v => v = px_b (decide (px_rk sg = 3 ∨ 3 < px_rk sg ∧ u p = true))) (fun v_279 hv_279 => ?_) (fun hj_279 => ?_)
        · subst hv_279
          refine r_zast hO (mo_s10 hM) (mo_l10 hM) (by omega) (by decide) d_M_takesE_305 ?_
          try simp (disch := omega) only [cd_set_eq, cd_set_ne, cd_set_set]
          refine r_gen (fun I2 hI2 => ?_)
          have hP2 : px_RP I2 m B L ky t c (D ++ S0) t.1 := by rw [hI2]; exact hP.row _
          have hf2 : px_fm I I2 m := by rw [hI2]; exact hf.setr (Or.inr (Or.inr rfl))
          have hu2 : ∀ j, j ≤ p → I2 (m + 10) j = px_b (px_sb u p (decide (px_rk sg = 3 ∨ 3 < px_rk sg ∧ u p = true)) j) := by
            intro j hj
            rw [hI2, cd_set_eq]
            unfold upd px_sb
            by_cases e : j = p
            · rw [if_pos e, if_pos e]; exact px_nar _
            · rw [if_neg e, if_neg e]; exact hu j hj
          clear hI2
          refine r_aload hO d_M_takesE_306 rfl ?_
          refine r_iload hO d_M_takesE_307 rfl ?_
          refine r_cS1fi hO hE (px_imp (c_M_rank (px_sc sg)) (fun r S2 I2 q => by rw [px_rkI_e sg (by omega) (by omega)] at q; exact q)) mf_M_rank lk_M_225 (by decide) rfl (Nat.le_of_ble_eq_true rfl) d_M_takesE_309 (Nat.zero_le _) (Nat.zero_le _) ?_
          try simp (disch := omega) only [cd_set_eq, cd_set_ne, cd_set_set]
          refine r_cV1v hO hE (c_M_settle_r hM (D := D) (S0 := S0) hP2 (by omega) (by omega) (fun y hy => ⟨(hD y hy).1, Nat.le_trans (hD y hy).2.1 (by decide), (hD y hy).2.2⟩) (fun y S1 e => (hlt0 y S1 e).imp id (fun q => ⟨q.1, Nat.le_trans q.2.1 (by decide), q.2.2⟩))) mf_M_settle lk_M_237 hM.2.1 rfl (by decide) rfl (Nat.le_of_ble_eq_true rfl) d_M_takesE_312 (Nat.zero_le _) (Nat.zero_le _) ?_
          rintro I3 ⟨hP3, hf3, h103⟩
          have b9 : I3 m 19 = nI S0.length := hP3.2.2.2.2.2.2.2.2.1
          have hlb : S0.length ≤ t.1 := by have := hP3.2.2.2.2.2.2.2.2.2.2.2; omega
          try simp (disch := omega) only [cd_set_eq, cd_set_ne, cd_set_set]
          refine r_aload hO d_M_takesE_315 rfl ?_
          refine r_getR hO f_M_35 rfl hM.2.1 (mo_r9 hM) d_M_takesE_316 ?_
          try simp (disch := omega) only [cd_set_eq, cd_set_ne, cd_set_set]
          refine r_aload hO d_M_takesE_319 rfl ?_
          refine r_getI hO f_M_222 rfl hM.2.1 d_M_takesE_320 ?_
          try simp (disch := omega) only [cd_set_eq, cd_set_ne, cd_set_set]
          refine r_tops (show _ = nI S0.length from b9) ?_
          refine r_iload hO d_M_takesE_323 rfl ?_
          refine r_iast hO (mo_s9 hM) (mo_l9 hM) (by omega) (by decide) d_M_takesE_325 ?_
          try simp (disch := omega) only [cd_set_eq, cd_set_ne, cd_set_set]
          refine r_aload hO d_M_takesE_326 rfl ?_
          refine r_dup hO d_M_takesE_327 rfl ?_
          refine r_getI hO f_M_222 rfl hM.2.1 d_M_takesE_328 ?_
          try simp (disch := omega) only [cd_set_eq, cd_set_ne, cd_set_set]
          refine r_tops (show _ = nI S0.length from b9) ?_
          refine r_k hO d_M_takesE_331 ?_
          refine r_iaddN hO d_M_takesE_332 ?_
          refine r_putI hO f_M_222 rfl hM.2.1 hM.1 d_M_takesE_333 ?_
          try simp (disch := omega) only [cd_set_eq, cd_set_ne, cd_set_set]
          refine r_gen (fun I4 hI4 => ?_)
          have hP4 : px_RP I4 m B L ky t (c ++ D.map px_sc) (sg :: S0) (t.1 + 1) := by rw [hI4]; exact hP3.push (by omega) rfl
          have hf4 : px_fm I I4 m := by rw [hI4]; exact ((hf2.tr hf3).setr (Or.inr (Or.inl rfl))).setm (fun k hk => by rw [cd_set_ne _ _ (by omega)]; exact px_un _ _ (by omega))
          have h104 : I4 (m + 10) = I2 (m + 10) := by rw [hI4, cd_set_ne _ _ (by omega), cd_set_ne _ _ (by omega)]; exact h103
          clear hI4
          refine r_k hO d_M_takesE_336 ?_
          refine r_sI3 hO d_M_takesE_337 rfl ?_
          refine r_aload hO d_M_takesE_338 rfl ?_
          refine r_cV0v hO hE (c_M_go_r hM hP4 (by omega) (Or.inr (Or.inr hk3))) mf_M_go lk_M_219 hM.2.1 rfl (by decide) rfl (Nat.le_of_ble_eq_true rfl) d_M_takesE_339 (Nat.zero_le _) (Nat.zero_le _) ?_
          rintro I5 ⟨j1, j2, j3⟩
          try simp (disch := omega) only [cd_set_eq, cd_set_ne, cd_set_set]
          refine r_goto hO d_M_takesE_342 ?_
          exact hJ I5 _ j1 (hf4.tr j2) hp (fun j hj => by rw [j3, h104]; exact hu2 j hj)
        · refine r_icmp_eq hO d_M_takesE_279 (fun c_279 => ?_) (fun c_279 => ?_)
          · rw [nI_eq (by omega) (by omega)] at c_279
            refine r_k hO d_M_takesE_300 ?_
            refine r_goto hO d_M_takesE_301 ?_
            exact hj_279 _ (show nI 1 = px_b (decide (px_rk sg = 3 ∨ 3 < px_rk sg ∧ u p = true)) from by rw [decide_eq_true (Or.inl c_279)]; rfl)
          · rw [nI_eq (by omega) (by omega)] at c_279
            refine r_iload hO d_M_takesE_282 rfl ?_
            refine r_cS1fi hO hE (px_imp (c_M_rank (px_sc sg)) (fun r S2 I2 q => by rw [px_rkI_e sg (by omega) (by omega)] at q; exact q)) mf_M_rank lk_M_225 (by decide) rfl (Nat.le_of_ble_eq_true rfl) d_M_takesE_284 (Nat.zero_le _) (Nat.zero_le _) ?_
            try simp (disch := omega) only [cd_set_eq, cd_set_ne, cd_set_set]
            refine r_k hO d_M_takesE_287 ?_
            refine r_icmp_le hO d_M_takesE_288 (fun c_288 => ?_) (fun c_288 => ?_)
            · rw [nI_leI (by omega) (by omega)] at c_288
              refine r_k hO d_M_takesE_304 ?_
              exact hj_279 _ (show nI 0 = px_b (decide (px_rk sg = 3 ∨ 3 < px_rk sg ∧ u p = true)) from by rw [decide_eq_false (fun q => by rcases q with q | q; exact c_279 q; omega)]; rfl)
            · rw [nI_leI (by omega) (by omega)] at c_288
              refine r_aload hO d_M_takesE_291 rfl ?_
              refine r_getR hO f_M_38 rfl hM.2.1 (mo_r10 hM) d_M_takesE_292 ?_
              try simp (disch := omega) only [cd_set_eq, cd_set_ne, cd_set_set]
              refine r_iload hO d_M_takesE_295 rfl ?_
              refine r_zald hO (mo_s10 hM) (by omega) (by decide) d_M_takesE_296 ?_
              try simp (disch := omega) only [cd_set_eq, cd_set_ne, cd_set_set]
              rw [hup]
              refine r_if_eq hO d_M_takesE_297 (fun c_297 => ?_) (fun c_297 => ?_)
              · refine r_k hO d_M_takesE_304 ?_
                exact hj_279 _ (show nI 0 = px_b (decide (px_rk sg = 3 ∨ 3 < px_rk sg ∧ u p = true)) from by rw [decide_eq_false (fun q => by rcases q with q | q; exact c_279 q; exact px_b0.mp c_297 q.2)]; rfl)
              · refine r_k hO d_M_takesE_300 ?_
                refine r_goto hO d_M_takesE_301 ?_
                exact hj_279 _ (show nI 1 = px_b (decide (px_rk sg = 3 ∨ 3 < px_rk sg ∧ u p = true)) from by rw [decide_eq_true (Or.inr ⟨by omega, Decidable.not_not.mp (fun q => c_297 (px_b0.mpr q))⟩)]; rfl)
      refine r_iload hO d_M_takesE_28 rfl ?_
      refine r_if_ne hO d_M_takesE_29 (fun c_29 => ?_) (fun c_29 => ?_)
      · exact absurd rfl c_29
      · refine r_aload hO d_M_takesE_32 rfl ?_
        refine r_getI hO f_M_204 rfl hM.2.1 d_M_takesE_33 ?_
        refine r_tops (show _ = nI t.2.1 from a4.2.1) ?_
        refine r_if_eq hO d_M_takesE_36 (fun c_36 => ?_) (fun c_36 => ?_)
        · exact absurd c_36 (nI_ne0 (by omega) (by omega))
        · refine r_iload hO d_M_takesE_39 rfl ?_
          refine r_if_eq hO d_M_takesE_40 (fun c_40 => ?_) (fun c_40 => ?_)
          · refine r_aload hO d_M_takesE_180 rfl ?_
            refine r_getI hO f_M_204 rfl hM.2.1 d_M_takesE_181 ?_
            refine r_tops (show _ = nI t.2.1 from a4.2.1) ?_
            refine r_k hO d_M_takesE_184 ?_
            refine r_icmp_ne hO d_M_takesE_185 (fun c_185 => ?_) (fun c_185 => ?_)
            · exact absurd hk3 (fun q => c_185 (by rw [q]))
            · refine r_aload hO d_M_takesE_188 rfl ?_
              refine r_getI hO f_M_210 rfl hM.2.1 d_M_takesE_189 ?_
              refine r_tops (show _ = nI (B t.1) from hv) ?_
              refine r_k hO d_M_takesE_192 ?_
              refine r_icmp_ne hO d_M_takesE_194 (fun c_194 => ?_) (fun c_194 => ?_)
              · refine r_aload hO d_M_takesE_237 rfl ?_
                refine r_cV0fi hO hE (c_M_signHere hM (B := B) (t := t) a4.2.1 hkd (fun _ => ⟨hv, hvb⟩)) mf_M_signHere lk_M_247 hM.2.1 rfl (by decide) rfl (Nat.le_of_ble_eq_true rfl) d_M_takesE_238 (Nat.zero_le _) (Nat.zero_le _) ?_
                rw [← hsg]
                refine r_sI4 hO d_M_takesE_241 rfl ?_
                refine r_iload hO d_M_takesE_243 rfl ?_
                refine r_if_eq hO d_M_takesE_245 (fun c_245 => ?_) (fun c_245 => ?_)
                · exact absurd c_245 (px_sc0 sg (by omega) hs0)
                · refine r_iload hO d_M_takesE_248 rfl ?_
                  refine r_cS1fi hO hE (px_imp (c_M_rank (px_sc sg)) (fun r S2 I2 q => by rw [px_rkI_e sg (by omega) (by omega)] at q; exact q)) mf_M_rank lk_M_225 (by decide) rfl (Nat.le_of_ble_eq_true rfl) d_M_takesE_250 (Nat.zero_le _) (Nat.zero_le _) ?_
                  refine r_k hO d_M_takesE_253 ?_
                  refine r_icmp_ne hO d_M_takesE_254 (fun c_254 => ?_) (fun c_254 => ?_)
                  · rw [nI_eq (by omega) (by omega)] at c_254
                    exact tail
                  · rw [nI_eq (by omega) (by omega)] at c_254
                    refine r_aload hO d_M_takesE_257 rfl ?_
                    refine r_getR hO f_M_38 rfl hM.2.1 (mo_r10 hM) d_M_takesE_258 ?_
                    refine r_iload hO d_M_takesE_261 rfl ?_
                    refine r_zald hO (mo_s10 hM) (by omega) (by decide) d_M_takesE_262 ?_
                    rw [hup]
                    refine r_if_eq hO d_M_takesE_263 (fun c_263 => ?_) (fun c_263 => ?_)
                    · exact tail
                    · exact absurd (px_b0.mpr (by rw [h3 c_254]; decide)) c_263
              · exact absurd ((nI_eq (by omega) (by omega)).mp c_194) h41
          · exact absurd rfl c_40
    · intro t St p u c hk0 h41 hss hF I1 x4 hP hf hp hu
      show cd_J w X 0 0 S I1 28 [some (.ref m), some (.int (nI (p))), some (.int (nI (St.count 10))), some (.int (nI 0)), x4] []
      obtain ⟨a1, a2, ⟨a3, a3b⟩, a4, a5, a6, a7, a8, a9, a10, a11, a12⟩ := id hP
      have hkd := a5.2.2.2.2.1
      have hT1 := a2.1
      have htL := a5.1
      have hnL := a5.2.1
      have hv3 : t.2.1 = 3 → I1 m 10 = nI (B t.1) ∧ B t.1 < 256 := fun q => ⟨a4.2.2.2.1 (Or.inr q), (a2.2 t.1 (by have := a5.2.2.1 (by omega); omega)).2⟩
      obtain ⟨sg, hsg⟩ : ∃ sg, sg = px_ssg B t := ⟨_, rfl⟩
      have hsb := px_ssg_b B t
      rw [← hsg] at hss hsb
      have hup := hu p (Nat.le_refl _)
      have tail : cd_J w X 0 0 S I1 237 [some (.ref m), some (.int (nI (p))), some (.int (nI (St.count 10))), some (.int (nI 0)), x4] [] := by
        by_cases hs0 : sg = 0
        · subst hs0
          refine r_aload hO d_M_takesE_237 rfl ?_
          refine r_cV0fi hO hE (c_M_signHere hM (B := B) (t := t) a4.2.1 hkd hv3) mf_M_signHere lk_M_247 hM.2.1 rfl (by decide) rfl (Nat.le_of_ble_eq_true rfl) d_M_takesE_238 (Nat.zero_le _) (Nat.zero_le _) ?_
          rw [← hsg]
          refine r_sI4 hO d_M_takesE_241 rfl ?_
          refine r_iload hO d_M_takesE_243 rfl ?_
          refine r_if_eq hO d_M_takesE_245 (fun c_245 => ?_) (fun c_245 => ?_)
          · refine r_k hO d_M_takesE_266 ?_
            refine r_zret hO hE (by first | exact Or.inl rfl | exact Or.inr rfl) (Nat.zero_le _) (Nat.zero_le _) d_M_takesE_267 ?_
            exact ⟨_, rfl, rfl, by rw [cd_bI, if_neg hF.2]; rfl, hf, by rw [a4.1, hF.1], fun q => absurd q hF.2⟩
          · exact absurd (by decide) c_245
        · obtain ⟨h3, hut⟩ : px_rk sg = 3 ∧ u p = true := hss.resolve_left hs0
          refine r_aload hO d_M_takesE_237 rfl ?_
          refine r_cV0fi hO hE (c_M_signHere hM (B := B) (t := t) a4.2.1 hkd hv3) mf_M_signHere lk_M_247 hM.2.1 rfl (by decide) rfl (Nat.le_of_ble_eq_true rfl) d_M_takesE_238 (Nat.zero_le _) (Nat.zero_le _) ?_
          rw [← hsg]
          refine r_sI4 hO d_M_takesE_241 rfl ?_
          refine r_iload hO d_M_takesE_243 rfl ?_
          refine r_if_eq hO d_M_takesE_245 (fun c_245 => ?_) (fun c_245 => ?_)
          · exact absurd c_245 (px_sc0 sg (by omega) (by omega))
          · refine r_iload hO d_M_takesE_248 rfl ?_
            refine r_cS1fi hO hE (px_imp (c_M_rank (px_sc sg)) (fun r S2 I2 q => by rw [px_rkI_e sg (by omega) (by omega)] at q; exact q)) mf_M_rank lk_M_225 (by decide) rfl (Nat.le_of_ble_eq_true rfl) d_M_takesE_250 (Nat.zero_le _) (Nat.zero_le _) ?_
            refine r_k hO d_M_takesE_253 ?_
            refine r_icmp_ne hO d_M_takesE_254 (fun c_254 => ?_) (fun c_254 => ?_)
            · exact absurd (by rw [h3]) c_254
            · refine r_aload hO d_M_takesE_257 rfl ?_
              refine r_getR hO f_M_38 rfl hM.2.1 (mo_r10 hM) d_M_takesE_258 ?_
              refine r_iload hO d_M_takesE_261 rfl ?_
              refine r_zald hO (mo_s10 hM) (by omega) (by decide) d_M_takesE_262 ?_
              rw [hup]
              refine r_if_eq hO d_M_takesE_263 (fun c_263 => ?_) (fun c_263 => ?_)
              · exact absurd hut (px_b0.mp c_263)
              · refine r_k hO d_M_takesE_266 ?_
                refine r_zret hO hE (by first | exact Or.inl rfl | exact Or.inr rfl) (Nat.zero_le _) (Nat.zero_le _) d_M_takesE_267 ?_
                exact ⟨_, rfl, rfl, by rw [cd_bI, if_neg hF.2]; rfl, hf, by rw [a4.1, hF.1], fun q => absurd q hF.2⟩
      refine r_iload hO d_M_takesE_28 rfl ?_
      refine r_if_ne hO d_M_takesE_29 (fun c_29 => ?_) (fun c_29 => ?_)
      · exact absurd rfl c_29
      · refine r_aload hO d_M_takesE_32 rfl ?_
        refine r_getI hO f_M_204 rfl hM.2.1 d_M_takesE_33 ?_
        refine r_tops (show _ = nI t.2.1 from a4.2.1) ?_
        refine r_if_eq hO d_M_takesE_36 (fun c_36 => ?_) (fun c_36 => ?_)
        · exact absurd c_36 (nI_ne0 (by omega) (by omega))
        · refine r_iload hO d_M_takesE_39 rfl ?_
          refine r_if_eq hO d_M_takesE_40 (fun c_40 => ?_) (fun c_40 => ?_)
          · refine r_aload hO d_M_takesE_180 rfl ?_
            refine r_getI hO f_M_204 rfl hM.2.1 d_M_takesE_181 ?_
            refine r_tops (show _ = nI t.2.1 from a4.2.1) ?_
            refine r_k hO d_M_takesE_184 ?_
            refine r_icmp_ne hO d_M_takesE_185 (fun c_185 => ?_) (fun c_185 => ?_)
            · rw [nI_eq (by omega) (by omega)] at c_185
              exact tail
            · rw [nI_eq (by omega) (by omega)] at c_185
              obtain ⟨hv, hvb⟩ := hv3 c_185
              refine r_aload hO d_M_takesE_188 rfl ?_
              refine r_getI hO f_M_210 rfl hM.2.1 d_M_takesE_189 ?_
              refine r_tops (show _ = nI (B t.1) from hv) ?_
              refine r_k hO d_M_takesE_192 ?_
              refine r_icmp_ne hO d_M_takesE_194 (fun c_194 => ?_) (fun c_194 => ?_)
              · rw [nI_eq (by omega) (by omega)] at c_194
                exact tail
              · rw [nI_eq (by omega) (by omega)] at c_194
                refine r_iload hO d_M_takesE_197 rfl ?_
                refine r_if_le hO d_M_takesE_198 (fun c_198 => ?_) (fun c_198 => ?_)
                · exact tail
                · have hp0 : 0 < p := Nat.pos_of_ne_zero (fun q => c_198 (by rw [q]; decide))
                  exact absurd ⟨⟨c_185, c_194⟩, hp0⟩ h41
          · exact absurd rfl c_40
    · intro t St p u c hk0 hp0 hF I1 x4 hP hf hp hu
      show cd_J w X 0 0 S I1 28 [some (.ref m), some (.int (nI (p))), some (.int (nI (St.count 10))), some (.int (nI 0)), x4] []
      obtain ⟨a1, a2, ⟨a3, a3b⟩, a4, a5, a6, a7, a8, a9, a10, a11, a12⟩ := id hP
      have hkd := a5.2.2.2.2.1
      have hT1 := a2.1
      have htL := a5.1
      have hnL := a5.2.1
      obtain ⟨D, S0, hDS, hD, hS⟩ := px_split St a11
      rw [hDS] at hP
      refine r_iload hO d_M_takesE_28 rfl ?_
      refine r_if_ne hO d_M_takesE_29 (fun c_29 => ?_) (fun c_29 => ?_)
      · exact absurd rfl c_29
      · refine r_aload hO d_M_takesE_32 rfl ?_
        refine r_getI hO f_M_204 rfl hM.2.1 d_M_takesE_33 ?_
        refine r_tops (show _ = nI t.2.1 from a4.2.1) ?_
        refine r_if_eq hO d_M_takesE_36 (fun c_36 => ?_) (fun c_36 => ?_)
        · refine r_aload hO d_M_takesE_345 rfl ?_
          refine r_k hO d_M_takesE_346 ?_
          refine r_cV1v hO hE (c_M_settle_r hM hP (by omega) (by decide) hD hS) mf_M_settle lk_M_237 hM.2.1 rfl (by decide) rfl (Nat.le_of_ble_eq_true rfl) d_M_takesE_347 (Nat.zero_le _) (Nat.zero_le _) ?_
          rintro I2 ⟨hP2, hf2, h102⟩
          refine r_iload hO d_M_takesE_350 rfl ?_
          refine r_if_ne hO d_M_takesE_351 (fun c_351 => ?_) (fun c_351 => ?_)
          · refine r_k hO d_M_takesE_358 ?_
            refine r_zret hO hE (by first | exact Or.inl rfl | exact Or.inr rfl) (Nat.zero_le _) (Nat.zero_le _) d_M_takesE_359 ?_
            exact ⟨_, rfl, rfl, by rw [cd_bI, if_neg hF.2]; rfl, hf.tr hf2, by rw [hP2.2.2.2.1.1, hF.1], fun q => absurd q hF.2⟩
          · exact absurd c_351 (nI_ne0 (by omega) (by omega))
        · exact absurd (by rw [hk0]; rfl) c_36
  have hT1 := a2.1
  have htL := a5.1
  obtain ⟨hL1, hL2⟩ := (px_run hR 800 0 0 0 t0 a5 (by unfold px_need; rw [if_pos (by decide)]; omega)).1 (by decide) 0 [] (fun _ => false) [] (fun _ => rfl) (fun _ _ q => by cases q) (fun _ _ q => by cases q) rfl (fun _ => rfl)
  rw [← hr] at hL1 hL2
  have start : ∀ (I1 : cd_Mem) (x4 : Option Value), px_RP I1 m B L ky t0 [] [] t0.1 → px_fm I I1 m → (0 : Nat) ≤ 8 → (∀ j, j ≤ 0 → I1 (m + 10) j = px_b false) → cd_J w X 0 0 S I1 28 [some (.ref m), some (.int (nI (0))), some (.int (nI (0))), some (.int (nI 1)), x4] [] := by
    by_cases hr1 : r.1 = true
    · refine hL2 hr1 (fun D u' c' d1 d2 d3 d4 d5 => ?_)
      by_cases hk0 : r.2.1.2.1 = 0
      · intro I1 x4 hP hf hp hu
        rw [List.append_nil] at hP ⊢
        have hc : c' ++ D.map px_sc = r.2.2 := by simpa using d2
        show cd_J w X 0 0 S I1 28 [some (.ref m), some (.int (nI (0))), some (.int (nI (D.count 10))), some (.int (nI 0)), x4] []
        obtain ⟨a1, a2, ⟨a3, a3b⟩, a4, a5, a6, a7, a8, a9, a10, a11, a12⟩ := id hP
        refine r_iload hO d_M_takesE_28 rfl ?_
        refine r_if_ne hO d_M_takesE_29 (fun c_29 => ?_) (fun c_29 => ?_)
        · exact absurd rfl c_29
        · refine r_aload hO d_M_takesE_32 rfl ?_
          refine r_getI hO f_M_204 rfl hM.2.1 d_M_takesE_33 ?_
          refine r_tops (show _ = nI r.2.1.2.1 from a4.2.1) ?_
          refine r_if_eq hO d_M_takesE_36 (fun c_36 => ?_) (fun c_36 => ?_)
          · refine r_aload hO d_M_takesE_345 rfl ?_
            refine r_k hO d_M_takesE_346 ?_
            refine r_cV1v hO hE (c_M_settle_r hM (D := D) (S0 := []) (by rw [List.append_nil]; exact hP) (Nat.le_trans hP.2.2.2.2.1.1 hT1) (by decide) (fun y hy => ⟨(d1 y hy).1, Nat.le_trans (d1 y hy).2.1 (by decide), Nat.zero_le _⟩) (fun _ _ q => by cases q)) mf_M_settle lk_M_237 hM.2.1 rfl (by decide) rfl (Nat.le_of_ble_eq_true rfl) d_M_takesE_347 (Nat.zero_le _) (Nat.zero_le _) ?_
            rintro I2 ⟨hP2, hf2, h102⟩
            rw [hc] at hP2
            obtain ⟨b1, b2, b3, b4, b5, b6, b7, b8, -⟩ := id hP2
            refine r_iload hO d_M_takesE_350 rfl ?_
            refine r_if_ne hO d_M_takesE_351 (fun c_351 => ?_) (fun c_351 => ?_)
            · exact absurd rfl c_351
            · refine r_k hO d_M_takesE_354 ?_
              refine r_goto hO d_M_takesE_355 ?_
              refine r_zret hO hE (by first | exact Or.inl rfl | exact Or.inr rfl) (Nat.zero_le _) (Nat.zero_le _) d_M_takesE_359 ?_
              exact ⟨_, rfl, rfl, by rw [cd_bI, if_pos ⟨hr1, hk0⟩]; rfl, hf.tr hf2, b4.1, fun _ => ⟨b6, b7, b8⟩⟩
          · exact absurd (by rw [hk0]; rfl) c_36
      · obtain ⟨-, -, -, -, -, -, hstop, -⟩ := hR
        refine hstop _ _ 0 _ _ hk0 (fun q => absurd q.2 (by decide)) ?_ ⟨rfl, fun q => hk0 q.2⟩
        rcases Nat.eq_zero_or_pos (px_ssg B r.2.1) with q | q
        · exact Or.inl q
        · exact Or.inr (d5 q (px_rk_p _))
    · exact hL1 (by simpa using hr1) ⟨rfl, fun q => hr1 q.1⟩
  refine r_k hO d_M_takesE_0 ?_
  refine r_sI1 hO d_M_takesE_1 rfl ?_
  refine r_k hO d_M_takesE_2 ?_
  refine r_sI2 hO d_M_takesE_3 rfl ?_
  refine r_k hO d_M_takesE_4 ?_
  refine r_sI3 hO d_M_takesE_5 rfl ?_
  refine r_aload hO d_M_takesE_6 rfl ?_
  refine r_k hO d_M_takesE_7 ?_
  refine r_putI hO f_M_228 rfl hM.2.1 hM.1 d_M_takesE_8 ?_
  refine r_aload hO d_M_takesE_11 rfl ?_
  refine r_k hO d_M_takesE_12 ?_
  refine r_putI hO f_M_234 rfl hM.2.1 hM.1 d_M_takesE_13 ?_
  try simp (disch := omega) only [cd_set_eq, cd_set_ne, cd_set_set]
  refine r_aload hO d_M_takesE_16 rfl ?_
  refine r_k hO d_M_takesE_17 ?_
  refine r_putI hO f_M_222 rfl hM.2.1 hM.1 d_M_takesE_18 ?_
  try simp (disch := omega) only [cd_set_eq, cd_set_ne, cd_set_set]
  refine r_aload hO d_M_takesE_21 rfl ?_
  refine r_getR hO f_M_38 rfl hM.2.1 (mo_r10 hM) d_M_takesE_22 ?_
  try simp (disch := omega) only [cd_set_eq, cd_set_ne, cd_set_set]
  refine r_k hO d_M_takesE_25 ?_
  refine r_k hO d_M_takesE_26 ?_
  refine r_zast hO (mo_s10 hM) (mo_l10 hM) (by omega) (by decide) d_M_takesE_27 ?_
  try simp (disch := omega) only [cd_set_eq, cd_set_ne, cd_set_set]
  refine start _ _ ?_ ?_ (by decide) ?_
  · refine px_RP.row ?_ _
    unfold px_RP px_TF
    rw [cd_set_ne _ _ (show m + 5 ≠ m by omega), cd_set_ne _ _ (show m + 8 ≠ m by omega), cd_set_ne _ _ (show m + 9 ≠ m by omega), cd_set_eq]
    exact ⟨a1, a2, a3, a4, a5, rfl, fun k hk => absurd hk (Nat.not_lt_zero _), rfl, rfl, trivial, fun _ q => (by cases q), Nat.zero_le _⟩
  · exact (px_fm.set (fun k hk => by simp only [upd, show ¬ k = 19 by omega, show ¬ k = 17 by omega, show ¬ k = 16 by omega, if_false])).setr (Or.inr (Or.inr rfl))
  · intro j hj
    rw [cd_set_eq, show j = 0 by omega, px_ue]
    decide
