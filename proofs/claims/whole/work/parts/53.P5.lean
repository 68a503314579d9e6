theorem px_imp {l : Launch} {w : cd_WT} {m : cd_MT} {d mc ms : Nat} {av : List Value} {S : cd_Sp} {I : cd_Mem} {post post' : cd_Pt} (h : cd_C l w m d mc ms av S I post) (hi : ∀ r S' I', post r S' I' → post' r S' I') : cd_C l w m d mc ms av S I post' := by
  intro p e ha hc hk s mm args below hf happ hP hK
  obtain ⟨n, o, h1, h2, h3, h4⟩ := h p e ha hc hk s mm args below hf happ hP hK
  obtain ⟨⟨r, S', I', a1, a2, a3⟩, h5⟩ := h4
  exact ⟨n, o, h1, h2, h3, ⟨r, S', I', a1, hi r S' I' a2, a3⟩, h5⟩
def px_rkI (s : Int32) : Int32 := if s = (-1) then nI 1 else if s = (-2) then nI 2 else if (-5) ≤ s then nI 3 else if (-7) ≤ s then nI 4 else if (-9) ≤ s then nI 5 else nI 6
theorem px_rkI_e : ∀ x, x < 12 → 1 ≤ x → px_rkI (px_sc x) = nI (px_rk x) := by decide +kernel
def px_sgI (x : Int32) : Int32 := if x = nI 38 then (-2) else if x = nI 42 then (-8) else if x = nI 43 then (-6) else if x = nI 45 then (-7) else if x = nI 47 then (-9) else if x = nI 60 then (-3) else if x = nI 61 then (-4) else if x = nI 62 then (-5) else if x = nI 124 then (-1) else nI 0
theorem px_sgI_e : ∀ b, b < 256 → px_sgI (nI b) = px_sc (px_sgn b) := by decide +kernel
def px_nvI (k x : Int32) : Int32 := if k = nI 0 then (if x = nI 104 then nI 0 else if x = nI 109 then nI 1 else if x = nI 119 then nI 2 else (-1)) else if k = nI 1 then (if x = nI 114 then nI 0 else if x = nI 112 then nI 1 else (-1)) else (if x = nI 104 then nI 0 else if x = nI 119 then nI 1 else (-1))
def px_nv (ky b : Nat) : Int32 := if px_npl ky b < 9 then nI (px_npl ky b) else (-1)
theorem px_nvI_e : ∀ ky, ky < 3 → ∀ b, b < 256 → px_nvI (nI ky) (nI b) = px_nv ky b := by decide +kernel
theorem px_sc11 : ∀ x, x < 11 → 1 ≤ x → ¬ px_sc x = (-11) := by decide +kernel
theorem px_sc10 : ∀ x, x < 12 → 1 ≤ x → (px_sc x = (-10) ↔ x = 10) := by decide +kernel
theorem px_rk_6 (x : Nat) : px_rk x ≤ 6 := by
  unfold px_rk
  repeat' split
  all_goals decide
/-- the row of waiting signs holds a stack (top first) -/
def px_wl (W : Nat → Int32) : List Nat → Prop
  | [] => True
  | x :: S => W S.length = px_sc x ∧ px_wl W S
theorem px_wl_cg {W W' : Nat → Int32} : ∀ {S : List Nat}, px_wl W S → (∀ k, k < S.length → W' k = W k) → px_wl W' S
  | [], _, _ => trivial
  | x :: S, h, e => ⟨(e _ (Nat.lt_succ_self _)).trans h.1, px_wl_cg h.2 (fun k hk => e k (Nat.lt_succ_of_lt hk))⟩
theorem px_wl_r {W : Nat → Int32} : ∀ {D S : List Nat}, px_wl W (D ++ S) → px_wl W S
  | [], _, h => h
  | _ :: D, _, h => px_wl_r (D := D) h.2
/-- a row of codes holds a list -/
def px_cl (C : Nat → Int32) (c : List Int32) : Prop := ∀ k, k < c.length → C k = c.getD k 0
theorem px_cl_app {C : Nat → Int32} {c : List Int32} (h : px_cl C c) (x : Int32) : px_cl (upd C c.length x) (c ++ [x]) := by
  intro k hk
  rw [List.length_append] at hk
  have hk2 : k < c.length + 1 := hk
  unfold upd
  by_cases e : k = c.length
  · rw [if_pos e, e]
    simp
  · rw [if_neg e, h k (by omega)]
    simp only [List.getD_eq_getElem?_getD]
    rw [List.getElem?_append_left (by omega)]
/-- how many leaves -/
def px_lv : List Int32 → Nat
  | [] => 0
  | x :: l => (if x < 0 then 0 else 1) + px_lv l
theorem px_lv_app : ∀ a b : List Int32, px_lv (a ++ b) = px_lv a + px_lv b
  | [], b => (Nat.zero_add _).symm
  | x :: l, b => by
    show (if x < 0 then 0 else 1) + px_lv (l ++ b) = (if x < 0 then 0 else 1) + px_lv l + px_lv b
    rw [px_lv_app l b, Nat.add_assoc]
theorem px_lv_b : ∀ a : List Int32, px_lv a ≤ a.length
  | [] => Nat.le_refl _
  | x :: l => by
    have := px_lv_b l
    show (if x < 0 then 0 else 1) + px_lv l ≤ l.length + 1
    split <;> omega
theorem px_lv_s : ∀ D : List Nat, (∀ x ∈ D, 1 ≤ x ∧ x ≤ 10) → px_lv (D.map px_sc) = 0
  | [], _ => rfl
  | x :: D, h => by
    obtain ⟨h1, h2⟩ := h x List.mem_cons_self
    have hx : px_sc x < 0 := by
      rcases (show x = 1 ∨ x = 2 ∨ x = 3 ∨ x = 4 ∨ x = 5 ∨ x = 6 ∨ x = 7 ∨ x = 8 ∨ x = 9 ∨ x = 10 by omega) with rfl | rfl | rfl | rfl | rfl | rfl | rfl | rfl | rfl | rfl <;> decide
    show (if px_sc x < 0 then 0 else 1) + px_lv (D.map px_sc) = 0
    rw [if_pos hx, px_lv_s D (fun y hy => h y (List.mem_cons_of_mem _ hy))]
/-- a token, as the reference's own row tells it -/
def px_TF (Q : Nat → Int32) (B : Nat → Nat) (t : px_Tok) : Prop := Q 8 = nI t.1 ∧ Q 9 = nI t.2.1 ∧ Q 7 = nI t.2.2 ∧ (t.2.1 = 1 ∨ t.2.1 = 3 → Q 10 = nI (B t.1)) ∧ (t.2.1 = 2 → Q 10 = nI (px_nm B t.1 (t.2.2 - t.1))) ∧ (t.2.1 = 1 ∨ t.2.1 = 2 → Q 11 = nI t.2.2) ∧ (t.2.1 = 3 → ∀ q, t.2.2 ≤ q → q ≤ 96 → Q 11 ≠ nI q)
/-- the reference while it reads -/
def px_RP (I : cd_Mem) (m : Nat) (B : Nat → Nat) (L ky : Nat) (t : px_Tok) (c : List Int32) (st : List Nat) (n : Nat) : Prop := I m 6 = nI L ∧ px_TP (I (m + 5)) B L ∧ (I m 12 = nI ky ∧ ky ≤ 2) ∧ px_TF (I m) B t ∧ px_TO B L t ∧ I m 16 = nI c.length ∧ px_cl (I (m + 8)) c ∧ I m 17 = nI (px_lv c) ∧ I m 19 = nI st.length ∧ px_wl (I (m + 9)) st ∧ (∀ x ∈ st, 1 ≤ x ∧ x ≤ 11) ∧ c.length + st.length ≤ n
/-- what the reading leaves as it was -/
def px_fm (I I' : cd_Mem) (m : Nat) : Prop := cd_off I I' [m, m + 8, m + 9, m + 10] ∧ ∀ k, k < 7 ∨ 12 ≤ k ∧ k < 16 ∨ k = 18 ∨ 20 ≤ k → I' m k = I m k
theorem px_fm.rf (I : cd_Mem) (m : Nat) : px_fm I I m := ⟨cd_off.rf _ _, fun _ _ => rfl⟩
theorem px_fm.tr {I I1 I2 : cd_Mem} {m : Nat} (a : px_fm I I1 m) (b : px_fm I1 I2 m) : px_fm I I2 m := ⟨a.1.tr b.1, fun k hk => (b.2 k hk).trans (a.2 k hk)⟩
theorem px_fm.set {I : cd_Mem} {m : Nat} {Q : Nat → Int32} (h : ∀ k, k < 7 ∨ 12 ≤ k ∧ k < 16 ∨ k = 18 ∨ 20 ≤ k → Q k = I m k) : px_fm I (cd_set I m Q) m := ⟨cd_off.set _ _ (by simp), fun k hk => by rw [cd_set_eq]; exact h k hk⟩
theorem px_fm.setr {I I' : cd_Mem} {m a : Nat} {Q : Nat → Int32} (h : px_fm I I' m) (ha : a = m + 8 ∨ a = m + 9 ∨ a = m + 10) : px_fm I (cd_set I' a Q) m := ⟨h.1.tr (cd_off.set _ _ (by rcases ha with rfl | rfl | rfl <;> simp)), fun k hk => by rw [cd_set_ne _ _ (by omega)]; exact h.2 k hk⟩
theorem px_fm.setm {I I' : cd_Mem} {m : Nat} {Q : Nat → Int32} (h : px_fm I I' m) (hq : ∀ k, k < 7 ∨ 12 ≤ k ∧ k < 16 ∨ k = 18 ∨ 20 ≤ k → Q k = I' m k) : px_fm I (cd_set I' m Q) m := h.tr (px_fm.set hq)
theorem px_GO_TF {R0 Q : Nat → Int32} {B : Nat → Nat} {t : px_Tok} (h : px_GO R0 Q B t) : px_TF Q B t := ⟨h.2.1, h.2.2.1, h.2.2.2.1, h.2.2.2.2.1, h.2.2.2.2.2.1, h.2.2.2.2.2.2.1, h.2.2.2.2.2.2.2⟩
theorem px_RP.go {I : cd_Mem} {m : Nat} {B : Nat → Nat} {L ky : Nat} {t : px_Tok} {c : List Int32} {st : List Nat} {n : Nat} (h : px_RP I m B L ky t c st n) (hn : n ≤ t.2.2) {Q : Nat → Int32} (hQ : px_GO (I m) Q B (px_adv B L t)) : px_RP (cd_set I m Q) m B L ky (px_adv B L t) c st (px_adv B L t).1 := by
  obtain ⟨a1, a2, a3, a4, a5, a6, a7, a8, a9, a10, a11, a12⟩ := h
  have hk := hQ.1
  have ha := px_adv_ok a5
  refine ⟨?_, ?_, ?_, ?_, ha.1, ?_, ?_, ?_, ?_, ?_, a11, ?_⟩
  · rw [cd_set_eq, hk 6 (by decide) (by decide) (by decide) (by decide) (by decide)]; exact a1
  · rw [cd_set_ne _ _ (by omega)]; exact a2
  · rw [cd_set_eq, hk 12 (by decide) (by decide) (by decide) (by decide) (by decide)]; exact a3
  · rw [cd_set_eq]; exact px_GO_TF hQ
  · rw [cd_set_eq, hk 16 (by decide) (by decide) (by decide) (by decide) (by decide)]; exact a6
  · rw [cd_set_ne _ _ (by omega)]; exact a7
  · rw [cd_set_eq, hk 17 (by decide) (by decide) (by decide) (by decide) (by decide)]; exact a8
  · rw [cd_set_eq, hk 19 (by decide) (by decide) (by decide) (by decide) (by decide)]; exact a9
  · rw [cd_set_ne _ _ (by omega)]; exact a10
  · have := ha.2
    omega
theorem c_M_go_r {l : Launch} {w : cd_WT} {S : cd_Sp} {I : cd_Mem} {m : Nat} (hM : cd_MO w S m) {B : Nat → Nat} {L ky : Nat} {t : px_Tok} {c : List Int32} {st : List Nat} {n : Nat} (h : px_RP I m B L ky t c st n) (hn : n ≤ t.2.2) (hk : t.2.1 = 1 ∨ t.2.1 = 2 ∨ t.2.1 = 3) : cd_C l w m_M_go 1 0 0 [.ref m] S I (cd_Pv S (fun I' => px_RP I' m B L ky (px_adv B L t) c st (px_adv B L t).1 ∧ px_fm I I' m ∧ I' (m + 10) = I (m + 10))) := by
  obtain ⟨a1, a2, a3, a4, a5, -⟩ := id h
  refine px_imp (c_M_go hM a1 a2 a4.2.2.1 a5.2.1 (t.2.1 = 1 ∨ t.2.1 = 2) ⟨a4.2.2.2.2.2.1, fun q => a4.2.2.2.2.2.2 (by omega)⟩) ?_
  rintro r S' I' ⟨b1, b2, Q, rfl, b4⟩
  refine ⟨b1, b2, h.go hn b4, px_fm.set (fun k hk => b4.1 k (by omega) (by omega) (by omega) (by omega) (by omega)), cd_set_ne _ _ (by omega)⟩
def px_ct (W : Nat → Int32) : Nat → Nat
  | 0 => 0
  | k + 1 => px_ct W k + (if W k = (-10) then 1 else 0)
theorem px_ct_b (W : Nat → Int32) : ∀ k, px_ct W k ≤ k
  | 0 => Nat.le_refl _
  | k + 1 => by
    have := px_ct_b W k
    show px_ct W k + (if W k = (-10) then 1 else 0) ≤ k + 1
    split <;> omega
theorem px_ct_e {W : Nat → Int32} : ∀ {S : List Nat}, px_wl W S → (∀ x ∈ S, 1 ≤ x ∧ x ≤ 11) → px_ct W S.length = S.count 10
  | [], _, _ => rfl
  | x :: S, h, hs => by
    obtain ⟨h1, h2⟩ := hs x List.mem_cons_self
    show px_ct W S.length + (if W S.length = (-10) then 1 else 0) = _
    rw [px_ct_e h.2 (fun y hy => hs y (List.mem_cons_of_mem _ hy)), h.1]
    by_cases e : x = 10
    · subst e
      rw [List.count_cons_self, if_pos ((px_sc10 10 (by decide) (by decide)).mpr rfl)]
    · rw [List.count_cons_of_ne e, if_neg (fun q => e ((px_sc10 x (by omega) h1).mp q))]
      rfl
theorem d_M_rank_0 : cd_D_iload b_M_rank 0 0 1 := Or.inr ⟨0, ⟨by decide +kernel, rfl⟩, rfl⟩
theorem d_M_rank_1 : cd_Dk b_M_rank 1 (-1) 2 := Or.inl ⟨-1, ⟨by decide +kernel, rfl⟩, by decide +kernel⟩
theorem d_M_rank_2 : cd_D_icmp_ne b_M_rank 2 9 5 := ⟨7, by decide +kernel, by decide, rfl⟩
theorem d_M_rank_5 : cd_Dk b_M_rank 5 (nI 1) 6 := Or.inl ⟨1, ⟨by decide +kernel, rfl⟩, by decide +kernel⟩
theorem d_M_rank_6 : cd_D_goto b_M_rank 6 51 := ⟨45, by decide +kernel, by decide⟩
theorem d_M_rank_9 : cd_D_iload b_M_rank 9 0 10 := Or.inr ⟨0, ⟨by decide +kernel, rfl⟩, rfl⟩
theorem d_M_rank_10 : cd_Dk b_M_rank 10 (-2) 12 := Or.inr (Or.inl ⟨-2, ⟨by decide +kernel, rfl⟩, by decide +kernel⟩)
theorem d_M_rank_12 : cd_D_icmp_ne b_M_rank 12 19 15 := ⟨7, by decide +kernel, by decide, rfl⟩
theorem d_M_rank_15 : cd_Dk b_M_rank 15 (nI 2) 16 := Or.inl ⟨2, ⟨by decide +kernel, rfl⟩, by decide +kernel⟩
theorem d_M_rank_16 : cd_D_goto b_M_rank 16 51 := ⟨35, by decide +kernel, by decide⟩
theorem d_M_rank_19 : cd_D_iload b_M_rank 19 0 20 := Or.inr ⟨0, ⟨by decide +kernel, rfl⟩, rfl⟩
theorem d_M_rank_20 : cd_Dk b_M_rank 20 (-5) 22 := Or.inr (Or.inl ⟨-5, ⟨by decide +kernel, rfl⟩, by decide +kernel⟩)
theorem d_M_rank_22 : cd_D_icmp_lt b_M_rank 22 29 25 := ⟨7, by decide +kernel, by decide, rfl⟩
theorem d_M_rank_25 : cd_Dk b_M_rank 25 (nI 3) 26 := Or.inl ⟨3, ⟨by decide +kernel, rfl⟩, by decide +kernel⟩
theorem d_M_rank_26 : cd_D_goto b_M_rank 26 51 := ⟨25, by decide +kernel, by decide⟩
theorem d_M_rank_29 : cd_D_iload b_M_rank 29 0 30 := Or.inr ⟨0, ⟨by decide +kernel, rfl⟩, rfl⟩
theorem d_M_rank_30 : cd_Dk b_M_rank 30 (-7) 32 := Or.inr (Or.inl ⟨-7, ⟨by decide +kernel, rfl⟩, by decide +kernel⟩)
theorem d_M_rank_32 : cd_D_icmp_lt b_M_rank 32 39 35 := ⟨7, by decide +kernel, by decide, rfl⟩
theorem d_M_rank_35 : cd_Dk b_M_rank 35 (nI 4) 36 := Or.inl ⟨4, ⟨by decide +kernel, rfl⟩, by decide +kernel⟩
theorem d_M_rank_36 : cd_D_goto b_M_rank 36 51 := ⟨15, by decide +kernel, by decide⟩
theorem d_M_rank_39 : cd_D_iload b_M_rank 39 0 40 := Or.inr ⟨0, ⟨by decide +kernel, rfl⟩, rfl⟩
theorem d_M_rank_40 : cd_Dk b_M_rank 40 (-9) 42 := Or.inr (Or.inl ⟨-9, ⟨by decide +kernel, rfl⟩, by decide +kernel⟩)
theorem d_M_rank_42 : cd_D_icmp_lt b_M_rank 42 49 45 := ⟨7, by decide +kernel, by decide, rfl⟩
theorem d_M_rank_45 : cd_Dk b_M_rank 45 (nI 5) 46 := Or.inl ⟨5, ⟨by decide +kernel, rfl⟩, by decide +kernel⟩
theorem d_M_rank_46 : cd_D_goto b_M_rank 46 51 := ⟨5, by decide +kernel, by decide⟩
theorem d_M_rank_49 : cd_Dk b_M_rank 49 (nI 6) 51 := Or.inr (Or.inl ⟨6, ⟨by decide +kernel, rfl⟩, by decide +kernel⟩)
theorem d_M_rank_51 : cd_D 1 b_M_rank 51 .ireturn 52 := ⟨by decide +kernel, rfl⟩
theorem c_M_rank {l : Launch} {w : cd_WT} {S : cd_Sp} {I : cd_Mem} (s : Int32) : cd_C l w m_M_rank 0 0 0 [.int s] S I (cd_Fi S (px_rkI s) I) := by
  refine cd_intro (by decide) (by simp [Value.category]) (Nat.le_of_ble_eq_true rfl) ?_
  intro X hO hE
  show cd_J w X 0 0 S I 0 [some (.int s)] []
  refine r_iload hO d_M_rank_0 rfl ?_
  refine r_k hO d_M_rank_1 ?_
  refine r_icmp_ne hO d_M_rank_2 (fun c_2 => ?_) (fun c_2 => ?_)
  · refine r_iload hO d_M_rank_9 rfl ?_
    refine r_k hO d_M_rank_10 ?_
    refine r_icmp_ne hO d_M_rank_12 (fun c_12 => ?_) (fun c_12 => ?_)
    · refine r_iload hO d_M_rank_19 rfl ?_
      refine r_k hO d_M_rank_20 ?_
      refine r_icmp_lt hO d_M_rank_22 (fun c_22 => ?_) (fun c_22 => ?_)
      · refine r_iload hO d_M_rank_29 rfl ?_
        refine r_k hO d_M_rank_30 ?_
        refine r_icmp_lt hO d_M_rank_32 (fun c_32 => ?_) (fun c_32 => ?_)
        · refine r_iload hO d_M_rank_39 rfl ?_
          refine r_k hO d_M_rank_40 ?_
          refine r_icmp_lt hO d_M_rank_42 (fun c_42 => ?_) (fun c_42 => ?_)
          · refine r_k hO d_M_rank_49 ?_
            refine r_iret hO hE (Nat.zero_le _) (Nat.zero_le _) d_M_rank_51 ?_
            exact ⟨by unfold px_rkI; rw [if_neg c_2, if_neg c_12, if_neg (Int32.not_le.mpr c_22), if_neg (Int32.not_le.mpr c_32), if_neg (Int32.not_le.mpr c_42)], rfl, rfl⟩
          · refine r_k hO d_M_rank_45 ?_
            refine r_goto hO d_M_rank_46 ?_
            refine r_iret hO hE (Nat.zero_le _) (Nat.zero_le _) d_M_rank_51 ?_
            exact ⟨by unfold px_rkI; rw [if_neg c_2, if_neg c_12, if_neg (Int32.not_le.mpr c_22), if_neg (Int32.not_le.mpr c_32), if_pos (Int32.not_lt.mp c_42)], rfl, rfl⟩
        · refine r_k hO d_M_rank_35 ?_
          refine r_goto hO d_M_rank_36 ?_
          refine r_iret hO hE (Nat.zero_le _) (Nat.zero_le _) d_M_rank_51 ?_
          exact ⟨by unfold px_rkI; rw [if_neg c_2, if_neg c_12, if_neg (Int32.not_le.mpr c_22), if_pos (Int32.not_lt.mp c_32)], rfl, rfl⟩
      · refine r_k hO d_M_rank_25 ?_
        refine r_goto hO d_M_rank_26 ?_
        refine r_iret hO hE (Nat.zero_le _) (Nat.zero_le _) d_M_rank_51 ?_
        exact ⟨by unfold px_rkI; rw [if_neg c_2, if_neg c_12, if_pos (Int32.not_lt.mp c_22)], rfl, rfl⟩
    · refine r_k hO d_M_rank_15 ?_
      refine r_goto hO d_M_rank_16 ?_
      refine r_iret hO hE (Nat.zero_le _) (Nat.zero_le _) d_M_rank_51 ?_
      exact ⟨by unfold px_rkI; rw [if_neg c_2, if_pos c_12], rfl, rfl⟩
  · refine r_k hO d_M_rank_5 ?_
    refine r_goto hO d_M_rank_6 ?_
    refine r_iret hO hE (Nat.zero_le _) (Nat.zero_le _) d_M_rank_51 ?_
    exact ⟨by unfold px_rkI; rw [if_pos c_2], rfl, rfl⟩
theorem d_M_nameOf_0 : cd_D_aload b_M_nameOf 0 0 1 := Or.inr ⟨0, ⟨by decide +kernel, rfl⟩, rfl⟩
theorem d_M_nameOf_1 : cd_D 3 b_M_nameOf 1 (.getfield 216) 4 := ⟨by decide +kernel, rfl⟩
theorem d_M_nameOf_4 : decode b_M_nameOf 4 = .ok (.lookupswitch (82) #[(0, 28), (1, 60)], 28) := by decide +kernel
theorem d_M_nameOf_32 : cd_D_iload b_M_nameOf 32 1 33 := Or.inr ⟨1, ⟨by decide +kernel, rfl⟩, rfl⟩
theorem d_M_nameOf_33 : cd_Dk b_M_nameOf 33 (nI 104) 35 := Or.inr (Or.inl ⟨104, ⟨by decide +kernel, rfl⟩, by decide +kernel⟩)
theorem d_M_nameOf_35 : cd_D_icmp_ne b_M_nameOf 35 42 38 := ⟨7, by decide +kernel, by decide, rfl⟩
theorem d_M_nameOf_38 : cd_Dk b_M_nameOf 38 (nI 0) 39 := Or.inl ⟨0, ⟨by decide +kernel, rfl⟩, by decide +kernel⟩
theorem d_M_nameOf_39 : cd_D_goto b_M_nameOf 39 63 := ⟨24, by decide +kernel, by decide⟩
theorem d_M_nameOf_42 : cd_D_iload b_M_nameOf 42 1 43 := Or.inr ⟨1, ⟨by decide +kernel, rfl⟩, rfl⟩
theorem d_M_nameOf_43 : cd_Dk b_M_nameOf 43 (nI 109) 45 := Or.inr (Or.inl ⟨109, ⟨by decide +kernel, rfl⟩, by decide +kernel⟩)
theorem d_M_nameOf_45 : cd_D_icmp_ne b_M_nameOf 45 52 48 := ⟨7, by decide +kernel, by decide, rfl⟩
theorem d_M_nameOf_48 : cd_Dk b_M_nameOf 48 (nI 1) 49 := Or.inl ⟨1, ⟨by decide +kernel, rfl⟩, by decide +kernel⟩
theorem d_M_nameOf_49 : cd_D_goto b_M_nameOf 49 63 := ⟨14, by decide +kernel, by decide⟩
theorem d_M_nameOf_52 : cd_D_iload b_M_nameOf 52 1 53 := Or.inr ⟨1, ⟨by decide +kernel, rfl⟩, rfl⟩
theorem d_M_nameOf_53 : cd_Dk b_M_nameOf 53 (nI 119) 55 := Or.inr (Or.inl ⟨119, ⟨by decide +kernel, rfl⟩, by decide +kernel⟩)
theorem d_M_nameOf_55 : cd_D_icmp_ne b_M_nameOf 55 62 58 := ⟨7, by decide +kernel, by decide, rfl⟩
theorem d_M_nameOf_58 : cd_Dk b_M_nameOf 58 (nI 2) 59 := Or.inl ⟨2, ⟨by decide +kernel, rfl⟩, by decide +kernel⟩
theorem d_M_nameOf_59 : cd_D_goto b_M_nameOf 59 63 := ⟨4, by decide +kernel, by decide⟩
theorem d_M_nameOf_62 : cd_Dk b_M_nameOf 62 (-1) 63 := Or.inl ⟨-1, ⟨by decide +kernel, rfl⟩, by decide +kernel⟩
theorem d_M_nameOf_63 : cd_D 1 b_M_nameOf 63 .ireturn 64 := ⟨by decide +kernel, rfl⟩
theorem d_M_nameOf_64 : cd_D_iload b_M_nameOf 64 1 65 := Or.inr ⟨1, ⟨by decide +kernel, rfl⟩, rfl⟩
theorem d_M_nameOf_65 : cd_Dk b_M_nameOf 65 (nI 114) 67 := Or.inr (Or.inl ⟨114, ⟨by decide +kernel, rfl⟩, by decide +kernel⟩)
theorem d_M_nameOf_67 : cd_D_icmp_ne b_M_nameOf 67 74 70 := ⟨7, by decide +kernel, by decide, rfl⟩
theorem d_M_nameOf_70 : cd_Dk b_M_nameOf 70 (nI 0) 71 := Or.inl ⟨0, ⟨by decide +kernel, rfl⟩, by decide +kernel⟩
theorem d_M_nameOf_71 : cd_D_goto b_M_nameOf 71 85 := ⟨14, by decide +kernel, by decide⟩
theorem d_M_nameOf_74 : cd_D_iload b_M_nameOf 74 1 75 := Or.inr ⟨1, ⟨by decide +kernel, rfl⟩, rfl⟩
theorem d_M_nameOf_75 : cd_Dk b_M_nameOf 75 (nI 112) 77 := Or.inr (Or.inl ⟨112, ⟨by decide +kernel, rfl⟩, by decide +kernel⟩)
theorem d_M_nameOf_77 : cd_D_icmp_ne b_M_nameOf 77 84 80 := ⟨7, by decide +kernel, by decide, rfl⟩
theorem d_M_nameOf_80 : cd_Dk b_M_nameOf 80 (nI 1) 81 := Or.inl ⟨1, ⟨by decide +kernel, rfl⟩, by decide +kernel⟩
theorem d_M_nameOf_81 : cd_D_goto b_M_nameOf 81 85 := ⟨4, by decide +kernel, by decide⟩
theorem d_M_nameOf_84 : cd_Dk b_M_nameOf 84 (-1) 85 := Or.inl ⟨-1, ⟨by decide +kernel, rfl⟩, by decide +kernel⟩
theorem d_M_nameOf_85 : cd_D 1 b_M_nameOf 85 .ireturn 86 := ⟨by decide +kernel, rfl⟩
theorem d_M_nameOf_86 : cd_D_iload b_M_nameOf 86 1 87 := Or.inr ⟨1, ⟨by decide +kernel, rfl⟩, rfl⟩
theorem d_M_nameOf_87 : cd_Dk b_M_nameOf 87 (nI 104) 89 := Or.inr (Or.inl ⟨104, ⟨by decide +kernel, rfl⟩, by decide +kernel⟩)
theorem d_M_nameOf_89 : cd_D_icmp_ne b_M_nameOf 89 96 92 := ⟨7, by decide +kernel, by decide, rfl⟩
theorem d_M_nameOf_92 : cd_Dk b_M_nameOf 92 (nI 0) 93 := Or.inl ⟨0, ⟨by decide +kernel, rfl⟩, by decide +kernel⟩
theorem d_M_nameOf_93 : cd_D_goto b_M_nameOf 93 107 := ⟨14, by decide +kernel, by decide⟩
theorem d_M_nameOf_96 : cd_D_iload b_M_nameOf 96 1 97 := Or.inr ⟨1, ⟨by decide +kernel, rfl⟩, rfl⟩
theorem d_M_nameOf_97 : cd_Dk b_M_nameOf 97 (nI 119) 99 := Or.inr (Or.inl ⟨119, ⟨by decide +kernel, rfl⟩, by decide +kernel⟩)
theorem d_M_nameOf_99 : cd_D_icmp_ne b_M_nameOf 99 106 102 := ⟨7, by decide +kernel, by decide, rfl⟩
theorem d_M_nameOf_102 : cd_Dk b_M_nameOf 102 (nI 1) 103 := Or.inl ⟨1, ⟨by decide +kernel, rfl⟩, by decide +kernel⟩
theorem d_M_nameOf_103 : cd_D_goto b_M_nameOf 103 107 := ⟨4, by decide +kernel, by decide⟩
theorem d_M_nameOf_106 : cd_Dk b_M_nameOf 106 (-1) 107 := Or.inl ⟨-1, ⟨by decide +kernel, rfl⟩, by decide +kernel⟩
theorem d_M_nameOf_107 : cd_D 1 b_M_nameOf 107 .ireturn 108 := ⟨by decide +kernel, rfl⟩
theorem c_M_nameOf {l : Launch} {w : cd_WT} {S : cd_Sp} {I : cd_Mem} {m : Nat} (hM : cd_MO w S m) {ky : Nat} (hk : I m 12 = nI ky) (x : Int32) : cd_C l w m_M_nameOf 0 0 0 [.ref m, .int x] S I (cd_Fi S (px_nvI (nI ky) x) I) := by
  refine cd_intro (by decide) (by simp [Value.category]) (Nat.le_of_ble_eq_true rfl) ?_
  intro X hO hE
  show cd_J w X 0 0 S I 0 [some (.ref m), some (.int x)] []
  refine r_aload hO d_M_nameOf_0 rfl ?_
  refine r_getI hO f_M_216 rfl hM.2.1 d_M_nameOf_1 ?_
  refine r_tops (show _ = nI ky from hk) ?_
  by_cases c_4_0 : nI ky = nI 0
  · refine r_lookE hO d_M_nameOf_4 (by decide) c_4_0 (off := 28) (by decide) (tgt := 32) (by decide) ?_
    refine r_iload hO d_M_nameOf_32 rfl ?_
    refine r_k hO d_M_nameOf_33 ?_
    refine r_icmp_ne hO d_M_nameOf_35 (fun c_35 => ?_) (fun c_35 => ?_)
    · refine r_iload hO d_M_nameOf_42 rfl ?_
      refine r_k hO d_M_nameOf_43 ?_
      refine r_icmp_ne hO d_M_nameOf_45 (fun c_45 => ?_) (fun c_45 => ?_)
      · refine r_iload hO d_M_nameOf_52 rfl ?_
        refine r_k hO d_M_nameOf_53 ?_
        refine r_icmp_ne hO d_M_nameOf_55 (fun c_55 => ?_) (fun c_55 => ?_)
        · refine r_k hO d_M_nameOf_62 ?_
          refine r_iret hO hE (Nat.zero_le _) (Nat.zero_le _) d_M_nameOf_63 ?_
          exact ⟨by unfold px_nvI; rw [if_pos c_4_0, if_neg c_35, if_neg c_45, if_neg c_55], rfl, rfl⟩
        · refine r_k hO d_M_nameOf_58 ?_
          refine r_goto hO d_M_nameOf_59 ?_
          refine r_iret hO hE (Nat.zero_le _) (Nat.zero_le _) d_M_nameOf_63 ?_
          exact ⟨by unfold px_nvI; rw [if_pos c_4_0, if_neg c_35, if_neg c_45, if_pos c_55], rfl, rfl⟩
      · refine r_k hO d_M_nameOf_48 ?_
        refine r_goto hO d_M_nameOf_49 ?_
        refine r_iret hO hE (Nat.zero_le _) (Nat.zero_le _) d_M_nameOf_63 ?_
        exact ⟨by unfold px_nvI; rw [if_pos c_4_0, if_neg c_35, if_pos c_45], rfl, rfl⟩
    · refine r_k hO d_M_nameOf_38 ?_
      refine r_goto hO d_M_nameOf_39 ?_
      refine r_iret hO hE (Nat.zero_le _) (Nat.zero_le _) d_M_nameOf_63 ?_
      exact ⟨by unfold px_nvI; rw [if_pos c_4_0, if_pos c_35], rfl, rfl⟩
  by_cases c_4_1 : nI ky = nI 1
  · refine r_lookE hO d_M_nameOf_4 (by decide) c_4_1 (off := 60) (by decide) (tgt := 64) (by decide) ?_
    refine r_iload hO d_M_nameOf_64 rfl ?_
    refine r_k hO d_M_nameOf_65 ?_
    refine r_icmp_ne hO d_M_nameOf_67 (fun c_67 => ?_) (fun c_67 => ?_)
    · refine r_iload hO d_M_nameOf_74 rfl ?_
      refine r_k hO d_M_nameOf_75 ?_
      refine r_icmp_ne hO d_M_nameOf_77 (fun c_77 => ?_) (fun c_77 => ?_)
      · refine r_k hO d_M_nameOf_84 ?_
        refine r_iret hO hE (Nat.zero_le _) (Nat.zero_le _) d_M_nameOf_85 ?_
        exact ⟨by unfold px_nvI; rw [if_neg c_4_0, if_pos c_4_1, if_neg c_67, if_neg c_77], rfl, rfl⟩
      · refine r_k hO d_M_nameOf_80 ?_
        refine r_goto hO d_M_nameOf_81 ?_
        refine r_iret hO hE (Nat.zero_le _) (Nat.zero_le _) d_M_nameOf_85 ?_
        exact ⟨by unfold px_nvI; rw [if_neg c_4_0, if_pos c_4_1, if_neg c_67, if_pos c_77], rfl, rfl⟩
    · refine r_k hO d_M_nameOf_70 ?_
      refine r_goto hO d_M_nameOf_71 ?_
      refine r_iret hO hE (Nat.zero_le _) (Nat.zero_le _) d_M_nameOf_85 ?_
      exact ⟨by unfold px_nvI; rw [if_neg c_4_0, if_pos c_4_1, if_pos c_67], rfl, rfl⟩
  refine r_lookN hO d_M_nameOf_4 (by decide) (off := 82) (by rw [lv_osw c_4_0 (by decide), lv_osw c_4_1 (by decide)]; rfl) (tgt := 86) (by decide) ?_
  refine r_iload hO d_M_nameOf_86 rfl ?_
  refine r_k hO d_M_nameOf_87 ?_
  refine r_icmp_ne hO d_M_nameOf_89 (fun c_89 => ?_) (fun c_89 => ?_)
  · refine r_iload hO d_M_nameOf_96 rfl ?_
    refine r_k hO d_M_nameOf_97 ?_
    refine r_icmp_ne hO d_M_nameOf_99 (fun c_99 => ?_) (fun c_99 => ?_)
    · refine r_k hO d_M_nameOf_106 ?_
      refine r_iret hO hE (Nat.zero_le _) (Nat.zero_le _) d_M_nameOf_107 ?_
      exact ⟨by unfold px_nvI; rw [if_neg c_4_0, if_neg c_4_1, if_neg c_89, if_neg c_99], rfl, rfl⟩
    · refine r_k hO d_M_nameOf_102 ?_
      refine r_goto hO d_M_nameOf_103 ?_
      refine r_iret hO hE (Nat.zero_le _) (Nat.zero_le _) d_M_nameOf_107 ?_
      exact ⟨by unfold px_nvI; rw [if_neg c_4_0, if_neg c_4_1, if_neg c_89, if_pos c_99], rfl, rfl⟩
  · refine r_k hO d_M_nameOf_92 ?_
    refine r_goto hO d_M_nameOf_93 ?_
    refine r_iret hO hE (Nat.zero_le _) (Nat.zero_le _) d_M_nameOf_107 ?_
    exact ⟨by unfold px_nvI; rw [if_neg c_4_0, if_neg c_4_1, if_pos c_89], rfl, rfl⟩
theorem d_M_signHere_0 : cd_D_aload b_M_signHere 0 0 1 := Or.inr ⟨0, ⟨by decide +kernel, rfl⟩, rfl⟩
theorem d_M_signHere_1 : cd_D 3 b_M_signHere 1 (.getfield 204) 4 := ⟨by decide +kernel, rfl⟩
theorem d_M_signHere_4 : cd_Dk b_M_signHere 4 (nI 3) 5 := Or.inl ⟨3, ⟨by decide +kernel, rfl⟩, by decide +kernel⟩
theorem d_M_signHere_5 : cd_D_icmp_eq b_M_signHere 5 10 8 := ⟨5, by decide +kernel, by decide, rfl⟩
theorem d_M_signHere_8 : cd_Dk b_M_signHere 8 (nI 0) 9 := Or.inl ⟨0, ⟨by decide +kernel, rfl⟩, by decide +kernel⟩
theorem d_M_signHere_9 : cd_D 1 b_M_signHere 9 .ireturn 10 := ⟨by decide +kernel, rfl⟩
theorem d_M_signHere_10 : cd_D_aload b_M_signHere 10 0 11 := Or.inr ⟨0, ⟨by decide +kernel, rfl⟩, rfl⟩
theorem d_M_signHere_11 : cd_D 3 b_M_signHere 11 (.getfield 210) 14 := ⟨by decide +kernel, rfl⟩
theorem d_M_signHere_14 : decode b_M_signHere 14 = .ok (.lookupswitch (108) #[(38, 84), (42, 102), (43, 96), (45, 99), (47, 105), (60, 87), (61, 90), (62, 93), (124, 82)], 82) := by decide +kernel
theorem d_M_signHere_96 : cd_Dk b_M_signHere 96 (-1) 97 := Or.inl ⟨-1, ⟨by decide +kernel, rfl⟩, by decide +kernel⟩
theorem d_M_signHere_97 : cd_D 1 b_M_signHere 97 .ireturn 98 := ⟨by decide +kernel, rfl⟩
theorem d_M_signHere_98 : cd_Dk b_M_signHere 98 (-2) 100 := Or.inr (Or.inl ⟨-2, ⟨by decide +kernel, rfl⟩, by decide +kernel⟩)
theorem d_M_signHere_100 : cd_D 1 b_M_signHere 100 .ireturn 101 := ⟨by decide +kernel, rfl⟩
theorem d_M_signHere_101 : cd_Dk b_M_signHere 101 (-3) 103 := Or.inr (Or.inl ⟨-3, ⟨by decide +kernel, rfl⟩, by decide +kernel⟩)
theorem d_M_signHere_103 : cd_D 1 b_M_signHere 103 .ireturn 104 := ⟨by decide +kernel, rfl⟩
theorem d_M_signHere_104 : cd_Dk b_M_signHere 104 (-4) 106 := Or.inr (Or.inl ⟨-4, ⟨by decide +kernel, rfl⟩, by decide +kernel⟩)
theorem d_M_signHere_106 : cd_D 1 b_M_signHere 106 .ireturn 107 := ⟨by decide +kernel, rfl⟩
theorem d_M_signHere_107 : cd_Dk b_M_signHere 107 (-5) 109 := Or.inr (Or.inl ⟨-5, ⟨by decide +kernel, rfl⟩, by decide +kernel⟩)
theorem d_M_signHere_109 : cd_D 1 b_M_signHere 109 .ireturn 110 := ⟨by decide +kernel, rfl⟩
theorem d_M_signHere_110 : cd_Dk b_M_signHere 110 (-6) 112 := Or.inr (Or.inl ⟨-6, ⟨by decide +kernel, rfl⟩, by decide +kernel⟩)
theorem d_M_signHere_112 : cd_D 1 b_M_signHere 112 .ireturn 113 := ⟨by decide +kernel, rfl⟩
theorem d_M_signHere_113 : cd_Dk b_M_signHere 113 (-7) 115 := Or.inr (Or.inl ⟨-7, ⟨by decide +kernel, rfl⟩, by decide +kernel⟩)
theorem d_M_signHere_115 : cd_D 1 b_M_signHere 115 .ireturn 116 := ⟨by decide +kernel, rfl⟩
theorem d_M_signHere_116 : cd_Dk b_M_signHere 116 (-8) 118 := Or.inr (Or.inl ⟨-8, ⟨by decide +kernel, rfl⟩, by decide +kernel⟩)
theorem d_M_signHere_118 : cd_D 1 b_M_signHere 118 .ireturn 119 := ⟨by decide +kernel, rfl⟩
theorem d_M_signHere_119 : cd_Dk b_M_signHere 119 (-9) 121 := Or.inr (Or.inl ⟨-9, ⟨by decide +kernel, rfl⟩, by decide +kernel⟩)
theorem d_M_signHere_121 : cd_D 1 b_M_signHere 121 .ireturn 122 := ⟨by decide +kernel, rfl⟩
theorem d_M_signHere_122 : cd_Dk b_M_signHere 122 (nI 0) 123 := Or.inl ⟨0, ⟨by decide +kernel, rfl⟩, by decide +kernel⟩
theorem d_M_signHere_123 : cd_D 1 b_M_signHere 123 .ireturn 124 := ⟨by decide +kernel, rfl⟩
theorem c_M_signHere {l : Launch} {w : cd_WT} {S : cd_Sp} {I : cd_Mem} {m : Nat} (hM : cd_MO w S m) {B : Nat → Nat} {t : px_Tok} (h9 : I m 9 = nI t.2.1) (h4 : t.2.1 ≤ 4) (h10 : t.2.1 = 3 → I m 10 = nI (B t.1) ∧ B t.1 < 256) : cd_C l w m_M_signHere 0 0 0 [.ref m] S I (cd_Fi S (px_sc (px_ssg B t)) I) := by
  refine cd_intro (by decide) (by simp [Value.category]) (Nat.le_of_ble_eq_true rfl) ?_
  intro X hO hE
  show cd_J w X 0 0 S I 0 [some (.ref m)] []
  refine r_aload hO d_M_signHere_0 rfl ?_
  refine r_getI hO f_M_204 rfl hM.2.1 d_M_signHere_1 ?_
  refine r_tops h9 ?_
  refine r_k hO d_M_signHere_4 ?_
  refine r_icmp_eq hO d_M_signHere_5 (fun c_5 => ?_) (fun c_5 => ?_)
  · have hk3 : t.2.1 = 3 := (nI_eq (by omega) (by omega)).mp c_5
    obtain ⟨hv, hb⟩ := h10 hk3
    refine r_aload hO d_M_signHere_10 rfl ?_
    refine r_getI hO f_M_210 rfl hM.2.1 d_M_signHere_11 ?_
    refine r_tops hv ?_
    by_cases c_14_38 : nI (B t.1) = nI 38
    · refine r_lookE hO d_M_signHere_14 (by decide) c_14_38 (off := 84) (by decide) (tgt := 98) (by decide) ?_
      refine r_k hO d_M_signHere_98 ?_
      refine r_iret hO hE (Nat.zero_le _) (Nat.zero_le _) d_M_signHere_100 ?_
      exact ⟨by unfold px_ssg; rw [if_pos hk3, ← px_sgI_e _ hb]; unfold px_sgI; rw [if_pos c_14_38], rfl, rfl⟩
    by_cases c_14_42 : nI (B t.1) = nI 42
    · refine r_lookE hO d_M_signHere_14 (by decide) c_14_42 (off := 102) (by decide) (tgt := 116) (by decide) ?_
      refine r_k hO d_M_signHere_116 ?_
      refine r_iret hO hE (Nat.zero_le _) (Nat.zero_le _) d_M_signHere_118 ?_
      exact ⟨by unfold px_ssg; rw [if_pos hk3, ← px_sgI_e _ hb]; unfold px_sgI; rw [if_neg c_14_38, if_pos c_14_42], rfl, rfl⟩
    by_cases c_14_43 : nI (B t.1) = nI 43
    · refine r_lookE hO d_M_signHere_14 (by decide) c_14_43 (off := 96) (by decide) (tgt := 110) (by decide) ?_
      refine r_k hO d_M_signHere_110 ?_
      refine r_iret hO hE (Nat.zero_le _) (Nat.zero_le _) d_M_signHere_112 ?_
      exact ⟨by unfold px_ssg; rw [if_pos hk3, ← px_sgI_e _ hb]; unfold px_sgI; rw [if_neg c_14_38, if_neg c_14_42, if_pos c_14_43], rfl, rfl⟩
    by_cases c_14_45 : nI (B t.1) = nI 45
    · refine r_lookE hO d_M_signHere_14 (by decide) c_14_45 (off := 99) (by decide) (tgt := 113) (by decide) ?_
      refine r_k hO d_M_signHere_113 ?_
      refine r_iret hO hE (Nat.zero_le _) (Nat.zero_le _) d_M_signHere_115 ?_
      exact ⟨by unfold px_ssg; rw [if_pos hk3, ← px_sgI_e _ hb]; unfold px_sgI; rw [if_neg c_14_38, if_neg c_14_42, if_neg c_14_43, if_pos c_14_45], rfl, rfl⟩
    by_cases c_14_47 : nI (B t.1) = nI 47
    · refine r_lookE hO d_M_signHere_14 (by decide) c_14_47 (off := 105) (by decide) (tgt := 119) (by decide) ?_
      refine r_k hO d_M_signHere_119 ?_
      refine r_iret hO hE (Nat.zero_le _) (Nat.zero_le _) d_M_signHere_121 ?_
      exact ⟨by unfold px_ssg; rw [if_pos hk3, ← px_sgI_e _ hb]; unfold px_sgI; rw [if_neg c_14_38, if_neg c_14_42, if_neg c_14_43, if_neg c_14_45, if_pos c_14_47], rfl, rfl⟩
    by_cases c_14_60 : nI (B t.1) = nI 60
    · refine r_lookE hO d_M_signHere_14 (by decide) c_14_60 (off := 87) (by decide) (tgt := 101) (by decide) ?_
      refine r_k hO d_M_signHere_101 ?_
      refine r_iret hO hE (Nat.zero_le _) (Nat.zero_le _) d_M_signHere_103 ?_
      exact ⟨by unfold px_ssg; rw [if_pos hk3, ← px_sgI_e _ hb]; unfold px_sgI; rw [if_neg c_14_38, if_neg c_14_42, if_neg c_14_43, if_neg c_14_45, if_neg c_14_47, if_pos c_14_60], rfl, rfl⟩
    by_cases c_14_61 : nI (B t.1) = nI 61
    · refine r_lookE hO d_M_signHere_14 (by decide) c_14_61 (off := 90) (by decide) (tgt := 104) (by decide) ?_
      refine r_k hO d_M_signHere_104 ?_
      refine r_iret hO hE (Nat.zero_le _) (Nat.zero_le _) d_M_signHere_106 ?_
      exact ⟨by unfold px_ssg; rw [if_pos hk3, ← px_sgI_e _ hb]; unfold px_sgI; rw [if_neg c_14_38, if_neg c_14_42, if_neg c_14_43, if_neg c_14_45, if_neg c_14_47, if_neg c_14_60, if_pos c_14_61], rfl, rfl⟩
    by_cases c_14_62 : nI (B t.1) = nI 62
    · refine r_lookE hO d_M_signHere_14 (by decide) c_14_62 (off := 93) (by decide) (tgt := 107) (by decide) ?_
      refine r_k hO d_M_signHere_107 ?_
      refine r_iret hO hE (Nat.zero_le _) (Nat.zero_le _) d_M_signHere_109 ?_
      exact ⟨by unfold px_ssg; rw [if_pos hk3, ← px_sgI_e _ hb]; unfold px_sgI; rw [if_neg c_14_38, if_neg c_14_42, if_neg c_14_43, if_neg c_14_45, if_neg c_14_47, if_neg c_14_60, if_neg c_14_61, if_pos c_14_62], rfl, rfl⟩
    by_cases c_14_124 : nI (B t.1) = nI 124
    · refine r_lookE hO d_M_signHere_14 (by decide) c_14_124 (off := 82) (by decide) (tgt := 96) (by decide) ?_
      refine r_k hO d_M_signHere_96 ?_
      refine r_iret hO hE (Nat.zero_le _) (Nat.zero_le _) d_M_signHere_97 ?_
      exact ⟨by unfold px_ssg; rw [if_pos hk3, ← px_sgI_e _ hb]; unfold px_sgI; rw [if_neg c_14_38, if_neg c_14_42, if_neg c_14_43, if_neg c_14_45, if_neg c_14_47, if_neg c_14_60, if_neg c_14_61, if_neg c_14_62, if_pos c_14_124], rfl, rfl⟩
    refine r_lookN hO d_M_signHere_14 (by decide) (off := 108) (by rw [lv_osw c_14_38 (by decide), lv_osw c_14_42 (by decide), lv_osw c_14_43 (by decide), lv_osw c_14_45 (by decide), lv_osw c_14_47 (by decide), lv_osw c_14_60 (by decide), lv_osw c_14_61 (by decide), lv_osw c_14_62 (by decide), lv_osw c_14_124 (by decide)]; rfl) (tgt := 122) (by decide) ?_
    refine r_k hO d_M_signHere_122 ?_
    refine r_iret hO hE (Nat.zero_le _) (Nat.zero_le _) d_M_signHere_123 ?_
    exact ⟨by unfold px_ssg; rw [if_pos hk3, ← px_sgI_e _ hb]; unfold px_sgI; rw [if_neg c_14_38, if_neg c_14_42, if_neg c_14_43, if_neg c_14_45, if_neg c_14_47, if_neg c_14_60, if_neg c_14_61, if_neg c_14_62, if_neg c_14_124], rfl, rfl⟩
  · have hk3 : ¬ t.2.1 = 3 := fun q => c_5 (by rw [q])
    refine r_k hO d_M_signHere_8 ?_
    refine r_iret hO hE (Nat.zero_le _) (Nat.zero_le _) d_M_signHere_9 ?_
    exact ⟨by unfold px_ssg; rw [if_neg hk3]; rfl, rfl, rfl⟩
theorem d_M_notsOpen_0 : cd_Dk b_M_notsOpen 0 (nI 0) 1 := Or.inl ⟨0, ⟨by decide +kernel, rfl⟩, by decide +kernel⟩
theorem d_M_notsOpen_1 : cd_D_istore b_M_notsOpen 1 1 2 := Or.inr ⟨1, ⟨by decide +kernel, rfl⟩, rfl⟩
theorem d_M_notsOpen_2 : cd_Dk b_M_notsOpen 2 (nI 0) 3 := Or.inl ⟨0, ⟨by decide +kernel, rfl⟩, by decide +kernel⟩
theorem d_M_notsOpen_3 : cd_D_istore b_M_notsOpen 3 2 4 := Or.inr ⟨2, ⟨by decide +kernel, rfl⟩, rfl⟩
theorem d_M_notsOpen_4 : cd_D_iload b_M_notsOpen 4 2 5 := Or.inr ⟨2, ⟨by decide +kernel, rfl⟩, rfl⟩
theorem d_M_notsOpen_5 : cd_D_aload b_M_notsOpen 5 0 6 := Or.inr ⟨0, ⟨by decide +kernel, rfl⟩, rfl⟩
theorem d_M_notsOpen_6 : cd_D 3 b_M_notsOpen 6 (.getfield 222) 9 := ⟨by decide +kernel, rfl⟩
theorem d_M_notsOpen_9 : cd_D_icmp_ge b_M_notsOpen 9 37 12 := ⟨28, by decide +kernel, by decide, rfl⟩
theorem d_M_notsOpen_12 : cd_D_iload b_M_notsOpen 12 1 13 := Or.inr ⟨1, ⟨by decide +kernel, rfl⟩, rfl⟩
theorem d_M_notsOpen_13 : cd_D_aload b_M_notsOpen 13 0 14 := Or.inr ⟨0, ⟨by decide +kernel, rfl⟩, rfl⟩
theorem d_M_notsOpen_14 : cd_D 3 b_M_notsOpen 14 (.getfield 35) 17 := ⟨by decide +kernel, rfl⟩
theorem d_M_notsOpen_17 : cd_D_iload b_M_notsOpen 17 2 18 := Or.inr ⟨2, ⟨by decide +kernel, rfl⟩, rfl⟩
theorem d_M_notsOpen_18 : cd_D 1 b_M_notsOpen 18 .iaload 19 := ⟨by decide +kernel, rfl⟩
theorem d_M_notsOpen_19 : cd_Dk b_M_notsOpen 19 (-10) 21 := Or.inr (Or.inl ⟨-10, ⟨by decide +kernel, rfl⟩, by decide +kernel⟩)
theorem d_M_notsOpen_21 : cd_D_icmp_ne b_M_notsOpen 21 28 24 := ⟨7, by decide +kernel, by decide, rfl⟩
theorem d_M_notsOpen_24 : cd_Dk b_M_notsOpen 24 (nI 1) 25 := Or.inl ⟨1, ⟨by decide +kernel, rfl⟩, by decide +kernel⟩
theorem d_M_notsOpen_25 : cd_D_goto b_M_notsOpen 25 29 := ⟨4, by decide +kernel, by decide⟩
theorem d_M_notsOpen_28 : cd_Dk b_M_notsOpen 28 (nI 0) 29 := Or.inl ⟨0, ⟨by decide +kernel, rfl⟩, by decide +kernel⟩
theorem d_M_notsOpen_29 : cd_D 1 b_M_notsOpen 29 .iadd 30 := ⟨by decide +kernel, rfl⟩
theorem d_M_notsOpen_30 : cd_D_istore b_M_notsOpen 30 1 31 := Or.inr ⟨1, ⟨by decide +kernel, rfl⟩, rfl⟩
theorem d_M_notsOpen_31 : cd_D 3 b_M_notsOpen 31 (.iinc 2 (1)) 34 := ⟨by decide +kernel, rfl⟩
theorem d_M_notsOpen_34 : cd_D_goto b_M_notsOpen 34 4 := ⟨-30, by decide +kernel, by decide⟩
theorem d_M_notsOpen_37 : cd_D_iload b_M_notsOpen 37 1 38 := Or.inr ⟨1, ⟨by decide +kernel, rfl⟩, rfl⟩
theorem d_M_notsOpen_38 : cd_D 1 b_M_notsOpen 38 .ireturn 39 := ⟨by decide +kernel, rfl⟩
theorem c_M_notsOpen {l : Launch} {w : cd_WT} {S : cd_Sp} {I : cd_Mem} {m : Nat} (hM : cd_MO w S m) {n : Nat} (hn : I m 19 = nI n) (hn9 : n ≤ 96) : cd_C l w m_M_notsOpen 0 0 0 [.ref m] S I (cd_Fi S (nI (px_ct (I (m + 9)) n)) I) := by
  refine cd_intro (by decide) (by simp [Value.category]) (Nat.le_of_ble_eq_true rfl) ?_
  intro X hO hE
  show cd_J w X 0 0 S I 0 [some (.ref m), none, none] []
  have loop : ∀ r k, k + r = n → cd_J w X 0 0 S I 4 [some (.ref m), some (.int (nI (px_ct (I (m + 9)) k))), some (.int (nI k))] [] := by
    intro r
    induction r with
    | zero =>
      intro k hk
      have hkn : k = n := by omega
      subst hkn
      refine r_iload hO d_M_notsOpen_4 rfl ?_
      refine r_aload hO d_M_notsOpen_5 rfl ?_
      refine r_getI hO f_M_222 rfl hM.2.1 d_M_notsOpen_6 ?_
      refine r_tops (show _ = nI k from hn) ?_
      refine r_icmp_ge hO d_M_notsOpen_9 (fun c_9 => ?_) (fun c_9 => ?_)
      · refine r_iload hO d_M_notsOpen_37 rfl ?_
        refine r_iret hO hE (Nat.zero_le _) (Nat.zero_le _) d_M_notsOpen_38 ?_
        exact ⟨rfl, rfl, rfl⟩
      · exact absurd (nI_le (Nat.le_refl _) (by omega)) c_9
    | succ r ih =>
      intro k hk
      refine r_iload hO d_M_notsOpen_4 rfl ?_
      refine r_aload hO d_M_notsOpen_5 rfl ?_
      refine r_getI hO f_M_222 rfl hM.2.1 d_M_notsOpen_6 ?_
      refine r_tops (show _ = nI n from hn) ?_
      refine r_icmp_ge hO d_M_notsOpen_9 (fun c_9 => ?_) (fun c_9 => ?_)
      · exact absurd c_9 (nI_ge (by omega) (by omega))
      · refine r_iload hO d_M_notsOpen_12 rfl ?_
        refine r_aload hO d_M_notsOpen_13 rfl ?_
        refine r_getR hO f_M_35 rfl hM.2.1 (mo_r9 hM) d_M_notsOpen_14 ?_
        refine r_iload hO d_M_notsOpen_17 rfl ?_
        refine r_iald hO (mo_s9 hM) (by omega) (by decide) d_M_notsOpen_18 ?_
        refine r_k hO d_M_notsOpen_19 ?_
        refine r_icmp_ne hO d_M_notsOpen_21 (fun c_21 => ?_) (fun c_21 => ?_)
        · refine r_k hO d_M_notsOpen_28 ?_
          refine r_iaddN hO d_M_notsOpen_29 ?_
          refine r_sI1 hO d_M_notsOpen_30 rfl ?_
          refine r_incN2 hO d_M_notsOpen_31 rfl ?_
          refine r_goto hO d_M_notsOpen_34 ?_
          have e : px_ct (I (m + 9)) (k + 1) = px_ct (I (m + 9)) k + 0 := by show _ + (if _ then 1 else 0) = _; rw [if_neg c_21]
          have := ih (k + 1) (by omega)
          rw [e] at this
          exact this
        · refine r_k hO d_M_notsOpen_24 ?_
          refine r_goto hO d_M_notsOpen_25 ?_
          refine r_iaddN hO d_M_notsOpen_29 ?_
          refine r_sI1 hO d_M_notsOpen_30 rfl ?_
          refine r_incN2 hO d_M_notsOpen_31 rfl ?_
          refine r_goto hO d_M_notsOpen_34 ?_
          have e : px_ct (I (m + 9)) (k + 1) = px_ct (I (m + 9)) k + 1 := by show _ + (if _ then 1 else 0) = _; rw [if_pos c_21]
          have := ih (k + 1) (by omega)
          rw [e] at this
          exact this
  refine r_k hO d_M_notsOpen_0 ?_
  refine r_sI1 hO d_M_notsOpen_1 rfl ?_
  refine r_k hO d_M_notsOpen_2 ?_
  refine r_sI2 hO d_M_notsOpen_3 rfl ?_
  exact loop n 0 (by omega)
theorem d_M_settle_0 : cd_D_aload b_M_settle 0 0 1 := Or.inr ⟨0, ⟨by decide +kernel, rfl⟩, rfl⟩
theorem d_M_settle_1 : cd_D 3 b_M_settle 1 (.getfield 222) 4 := ⟨by decide +kernel, rfl⟩
theorem d_M_settle_4 : cd_D_if_le b_M_settle 4 82 7 := ⟨78, by decide +kernel, by decide, rfl⟩
theorem d_M_settle_7 : cd_D_aload b_M_settle 7 0 8 := Or.inr ⟨0, ⟨by decide +kernel, rfl⟩, rfl⟩
theorem d_M_settle_8 : cd_D 3 b_M_settle 8 (.getfield 35) 11 := ⟨by decide +kernel, rfl⟩
theorem d_M_settle_11 : cd_D_aload b_M_settle 11 0 12 := Or.inr ⟨0, ⟨by decide +kernel, rfl⟩, rfl⟩
theorem d_M_settle_12 : cd_D 3 b_M_settle 12 (.getfield 222) 15 := ⟨by decide +kernel, rfl⟩
theorem d_M_settle_15 : cd_Dk b_M_settle 15 (nI 1) 16 := Or.inl ⟨1, ⟨by decide +kernel, rfl⟩, by decide +kernel⟩
theorem d_M_settle_16 : cd_D 1 b_M_settle 16 .isub 17 := ⟨by decide +kernel, rfl⟩
theorem d_M_settle_17 : cd_D 1 b_M_settle 17 .iaload 18 := ⟨by decide +kernel, rfl⟩
theorem d_M_settle_18 : cd_Dk b_M_settle 18 (-11) 20 := Or.inr (Or.inl ⟨-11, ⟨by decide +kernel, rfl⟩, by decide +kernel⟩)
theorem d_M_settle_20 : cd_D_icmp_eq b_M_settle 20 82 23 := ⟨62, by decide +kernel, by decide, rfl⟩
theorem d_M_settle_23 : cd_D_aload b_M_settle 23 0 24 := Or.inr ⟨0, ⟨by decide +kernel, rfl⟩, rfl⟩
theorem d_M_settle_24 : cd_D 3 b_M_settle 24 (.getfield 35) 27 := ⟨by decide +kernel, rfl⟩
theorem d_M_settle_27 : cd_D_aload b_M_settle 27 0 28 := Or.inr ⟨0, ⟨by decide +kernel, rfl⟩, rfl⟩
theorem d_M_settle_28 : cd_D 3 b_M_settle 28 (.getfield 222) 31 := ⟨by decide +kernel, rfl⟩
theorem d_M_settle_31 : cd_Dk b_M_settle 31 (nI 1) 32 := Or.inl ⟨1, ⟨by decide +kernel, rfl⟩, by decide +kernel⟩
theorem d_M_settle_32 : cd_D 1 b_M_settle 32 .isub 33 := ⟨by decide +kernel, rfl⟩
theorem d_M_settle_33 : cd_D 1 b_M_settle 33 .iaload 34 := ⟨by decide +kernel, rfl⟩
theorem d_M_settle_34 : cd_D 3 b_M_settle 34 (.invokestatic 225) 37 := ⟨by decide +kernel, rfl⟩
theorem d_M_settle_37 : cd_D_iload b_M_settle 37 1 38 := Or.inr ⟨1, ⟨by decide +kernel, rfl⟩, rfl⟩
theorem d_M_settle_38 : cd_D_icmp_lt b_M_settle 38 82 41 := ⟨44, by decide +kernel, by decide, rfl⟩
theorem d_M_settle_41 : cd_D_aload b_M_settle 41 0 42 := Or.inr ⟨0, ⟨by decide +kernel, rfl⟩, rfl⟩
theorem d_M_settle_42 : cd_D 1 b_M_settle 42 .dup 43 := ⟨by decide +kernel, rfl⟩
theorem d_M_settle_43 : cd_D 3 b_M_settle 43 (.getfield 222) 46 := ⟨by decide +kernel, rfl⟩
theorem d_M_settle_46 : cd_Dk b_M_settle 46 (nI 1) 47 := Or.inl ⟨1, ⟨by decide +kernel, rfl⟩, by decide +kernel⟩
theorem d_M_settle_47 : cd_D 1 b_M_settle 47 .isub 48 := ⟨by decide +kernel, rfl⟩
theorem d_M_settle_48 : cd_D 3 b_M_settle 48 (.putfield 222) 51 := ⟨by decide +kernel, rfl⟩
theorem d_M_settle_51 : cd_D_aload b_M_settle 51 0 52 := Or.inr ⟨0, ⟨by decide +kernel, rfl⟩, rfl⟩
theorem d_M_settle_52 : cd_D 3 b_M_settle 52 (.getfield 32) 55 := ⟨by decide +kernel, rfl⟩
theorem d_M_settle_55 : cd_D_aload b_M_settle 55 0 56 := Or.inr ⟨0, ⟨by decide +kernel, rfl⟩, rfl⟩
theorem d_M_settle_56 : cd_D 3 b_M_settle 56 (.getfield 228) 59 := ⟨by decide +kernel, rfl⟩
theorem d_M_settle_59 : cd_D_aload b_M_settle 59 0 60 := Or.inr ⟨0, ⟨by decide +kernel, rfl⟩, rfl⟩
theorem d_M_settle_60 : cd_D 3 b_M_settle 60 (.getfield 35) 63 := ⟨by decide +kernel, rfl⟩
theorem d_M_settle_63 : cd_D_aload b_M_settle 63 0 64 := Or.inr ⟨0, ⟨by decide +kernel, rfl⟩, rfl⟩
theorem d_M_settle_64 : cd_D 3 b_M_settle 64 (.getfield 222) 67 := ⟨by decide +kernel, rfl⟩
theorem d_M_settle_67 : cd_D 1 b_M_settle 67 .iaload 68 := ⟨by decide +kernel, rfl⟩
theorem d_M_settle_68 : cd_D 1 b_M_settle 68 .iastore 69 := ⟨by decide +kernel, rfl⟩
theorem d_M_settle_69 : cd_D_aload b_M_settle 69 0 70 := Or.inr ⟨0, ⟨by decide +kernel, rfl⟩, rfl⟩
theorem d_M_settle_70 : cd_D 1 b_M_settle 70 .dup 71 := ⟨by decide +kernel, rfl⟩
theorem d_M_settle_71 : cd_D 3 b_M_settle 71 (.getfield 228) 74 := ⟨by decide +kernel, rfl⟩
theorem d_M_settle_74 : cd_Dk b_M_settle 74 (nI 1) 75 := Or.inl ⟨1, ⟨by decide +kernel, rfl⟩, by decide +kernel⟩
theorem d_M_settle_75 : cd_D 1 b_M_settle 75 .iadd 76 := ⟨by decide +kernel, rfl⟩
theorem d_M_settle_76 : cd_D 3 b_M_settle 76 (.putfield 228) 79 := ⟨by decide +kernel, rfl⟩
theorem d_M_settle_79 : cd_D_goto b_M_settle 79 0 := ⟨-79, by decide +kernel, by decide⟩
theorem d_M_settle_82 : cd_D 1 b_M_settle 82 .return_ 83 := ⟨by decide +kernel, rfl⟩
theorem c_M_settle {l : Launch} {w : cd_WT} {S : cd_Sp} {I : cd_Mem} {m : Nat} (hM : cd_MO w S m) {D0 S0 : List Nat} {c0 : List Int32} {r : Nat} (hr : r ≤ 6) (hW : px_wl (I (m + 9)) (D0 ++ S0)) (hD : ∀ x ∈ D0, 1 ≤ x ∧ x ≤ 10 ∧ r ≤ px_rk x) (hS : ∀ x S1, S0 = x :: S1 → x = 11 ∨ (1 ≤ x ∧ x ≤ 10 ∧ px_rk x < r)) (hl : c0.length + D0.length ≤ 96) (hh : D0.length + S0.length ≤ 96) (hC : px_cl (I (m + 8)) c0) (h16 : I m 16 = nI c0.length) (h19 : I m 19 = nI (D0.length + S0.length)) : cd_C l w m_M_settle 1 0 0 [.ref m, .int (nI r)] S I (cd_Pv S (fun I' => ∃ Q Cc, I' = cd_set (cd_set I (m + 8) Cc) m Q ∧ (∀ k, k ≠ 16 → k ≠ 19 → Q k = I m k) ∧ Q 19 = nI S0.length ∧ Q 16 = nI (c0.length + D0.length) ∧ px_cl Cc (c0 ++ D0.map px_sc))) := by
  refine cd_intro (by decide) (by simp [Value.category]) (Nat.le_of_ble_eq_true rfl) ?_
  intro X hO hE
  show cd_J w X 0 0 S I 0 [some (.ref m), some (.int (nI r))] []
  have loop : ∀ (D : List Nat) (c : List Int32) (Cc Q : Nat → Int32), px_wl (I (m + 9)) (D ++ S0) → (∀ x ∈ D, 1 ≤ x ∧ x ≤ 10 ∧ r ≤ px_rk x) → c.length + D.length ≤ 96 → D.length + S0.length ≤ 96 → px_cl Cc c → (∀ k, k ≠ 16 → k ≠ 19 → Q k = I m k) → Q 16 = nI c.length → Q 19 = nI (D.length + S0.length) → c ++ D.map px_sc = c0 ++ D0.map px_sc → cd_J w X 0 0 S (cd_set (cd_set I (m + 8) Cc) m Q) 0 [some (.ref m), some (.int (nI r))] [] := by
    intro D
    induction D with
    | nil =>
      intro c Cc Q hW hD hl hh hC hk h16 h19 he
      have he2 : c = c0 ++ D0.map px_sc := by simpa using he
      have fin : ∀ v : Unit, cd_Pv S (fun I' => ∃ Q Cc, I' = cd_set (cd_set I (m + 8) Cc) m Q ∧ (∀ k, k ≠ 16 → k ≠ 19 → Q k = I m k) ∧ Q 19 = nI S0.length ∧ Q 16 = nI (c0.length + D0.length) ∧ px_cl Cc (c0 ++ D0.map px_sc)) none S (cd_set (cd_set I (m + 8) Cc) m Q) := fun _ => ⟨rfl, rfl, Q, Cc, rfl, hk, h19.trans (by simp), h16.trans (by rw [he2]; simp), he2 ▸ hC⟩
      cases hS0 : S0 with
      | nil =>
        rw [hS0] at h19
        refine r_aload hO d_M_settle_0 rfl ?_
        refine r_getI hO f_M_222 rfl hM.2.1 d_M_settle_1 ?_
        try simp (disch := omega) only [cd_set_eq, cd_set_ne, cd_set_set]
        refine r_tops (show _ = nI 0 from h19) ?_
        refine r_if_le hO d_M_settle_4 (fun c_4 => ?_) (fun c_4 => ?_)
        · refine r_vret hO hE (Nat.zero_le _) (Nat.zero_le _) d_M_settle_82 ?_
          exact hS0 ▸ fin ()
        · exact absurd (by decide) c_4
      | cons x S1 =>
        rw [hS0] at h19 hW hh
        have hx := hW.1
        have hx19 : Q 19 = nI (S1.length + 1) := by rw [h19]; simp
        have hrx := px_rk_6 x
        have hh2 : S1.length + 1 ≤ 96 := by simpa using hh
        rcases hS x S1 hS0 with rfl | ⟨hx1, hx2, hx3⟩
        · refine r_aload hO d_M_settle_0 rfl ?_
          refine r_getI hO f_M_222 rfl hM.2.1 d_M_settle_1 ?_
          try simp (disch := omega) only [cd_set_eq, cd_set_ne, cd_set_set]
          refine r_tops (show _ = nI (S1.length + 1) from hx19) ?_
          refine r_if_le hO d_M_settle_4 (fun c_4 => ?_) (fun c_4 => ?_)
          · exact absurd c_4 (nI_nle (by omega) (by omega))
          · refine r_aload hO d_M_settle_7 rfl ?_
            refine r_getR hO f_M_35 rfl hM.2.1 (mo_r9 hM) d_M_settle_8 ?_
            try simp (disch := omega) only [cd_set_eq, cd_set_ne, cd_set_set]
            refine r_aload hO d_M_settle_11 rfl ?_
            refine r_getI hO f_M_222 rfl hM.2.1 d_M_settle_12 ?_
            try simp (disch := omega) only [cd_set_eq, cd_set_ne, cd_set_set]
            refine r_tops (show _ = nI (S1.length + 1) from hx19) ?_
            refine r_k hO d_M_settle_15 ?_
            refine r_isubN hO d_M_settle_16 (by omega) ?_
            refine r_iald hO (mo_s9 hM) (by omega) (by decide) d_M_settle_17 ?_
            try simp (disch := omega) only [cd_set_eq, cd_set_ne, cd_set_set]
            refine r_tops (show _ = px_sc 11 from hx) ?_
            refine r_k hO d_M_settle_18 ?_
            refine r_icmp_eq hO d_M_settle_20 (fun c_20 => ?_) (fun c_20 => ?_)
            · refine r_vret hO hE (Nat.zero_le _) (Nat.zero_le _) d_M_settle_82 ?_
              exact hS0 ▸ fin ()
            · exact absurd (by decide) c_20
        · refine r_aload hO d_M_settle_0 rfl ?_
          refine r_getI hO f_M_222 rfl hM.2.1 d_M_settle_1 ?_
          try simp (disch := omega) only [cd_set_eq, cd_set_ne, cd_set_set]
          refine r_tops (show _ = nI (S1.length + 1) from hx19) ?_
          refine r_if_le hO d_M_settle_4 (fun c_4 => ?_) (fun c_4 => ?_)
          · exact absurd c_4 (nI_nle (by omega) (by omega))
          · refine r_aload hO d_M_settle_7 rfl ?_
            refine r_getR hO f_M_35 rfl hM.2.1 (mo_r9 hM) d_M_settle_8 ?_
            try simp (disch := omega) only [cd_set_eq, cd_set_ne, cd_set_set]
            refine r_aload hO d_M_settle_11 rfl ?_
            refine r_getI hO f_M_222 rfl hM.2.1 d_M_settle_12 ?_
            try simp (disch := omega) only [cd_set_eq, cd_set_ne, cd_set_set]
            refine r_tops (show _ = nI (S1.length + 1) from hx19) ?_
            refine r_k hO d_M_settle_15 ?_
            refine r_isubN hO d_M_settle_16 (by omega) ?_
            refine r_iald hO (mo_s9 hM) (by omega) (by decide) d_M_settle_17 ?_
            try simp (disch := omega) only [cd_set_eq, cd_set_ne, cd_set_set]
            refine r_tops (show _ = px_sc x from hx) ?_
            refine r_k hO d_M_settle_18 ?_
            refine r_icmp_eq hO d_M_settle_20 (fun c_20 => ?_) (fun c_20 => ?_)
            · exact absurd c_20 (px_sc11 x (by omega) hx1)
            · refine r_aload hO d_M_settle_23 rfl ?_
              refine r_getR hO f_M_35 rfl hM.2.1 (mo_r9 hM) d_M_settle_24 ?_
              try simp (disch := omega) only [cd_set_eq, cd_set_ne, cd_set_set]
              refine r_aload hO d_M_settle_27 rfl ?_
              refine r_getI hO f_M_222 rfl hM.2.1 d_M_settle_28 ?_
              try simp (disch := omega) only [cd_set_eq, cd_set_ne, cd_set_set]
              refine r_tops (show _ = nI (S1.length + 1) from hx19) ?_
              refine r_k hO d_M_settle_31 ?_
              refine r_isubN hO d_M_settle_32 (by omega) ?_
              refine r_iald hO (mo_s9 hM) (by omega) (by decide) d_M_settle_33 ?_
              try simp (disch := omega) only [cd_set_eq, cd_set_ne, cd_set_set]
              refine r_tops (show _ = px_sc x from hx) ?_
              refine r_cS1fi hO hE (px_imp (c_M_rank (px_sc x)) (fun r S2 I2 q => by rw [px_rkI_e x (by omega) (by omega)] at q; exact q)) mf_M_rank lk_M_225 (by decide) rfl (Nat.le_of_ble_eq_true rfl) d_M_settle_34 (Nat.zero_le _) (Nat.zero_le _) ?_
              try simp (disch := omega) only [cd_set_eq, cd_set_ne, cd_set_set]
              refine r_iload hO d_M_settle_37 rfl ?_
              refine r_icmp_lt hO d_M_settle_38 (fun c_38 => ?_) (fun c_38 => ?_)
              · refine r_vret hO hE (Nat.zero_le _) (Nat.zero_le _) d_M_settle_82 ?_
                exact hS0 ▸ fin ()
              · exact absurd (nI_lt hx3 (by omega)) c_38
    | cons x D ih =>
      intro c Cc Q hW hD hl hh hC hk h16 h19 he
      obtain ⟨hx1, hx2, hx3⟩ := hD x List.mem_cons_self
      have hx : I (m + 9) (D.length + S0.length) = px_sc x := by have h0 : I (m + 9) (D ++ S0).length = px_sc x := hW.1; rw [List.length_append] at h0; exact h0
      have hrx := px_rk_6 x
      have hl2 : c.length + (D.length + 1) ≤ 96 := by simpa using hl
      have hh2 : D.length + 1 + S0.length ≤ 96 := by simpa using hh
      have hx19 : Q 19 = nI (D.length + S0.length + 1) := by rw [h19]; congr 1; simp; omega
      refine r_aload hO d_M_settle_0 rfl ?_
      refine r_getI hO f_M_222 rfl hM.2.1 d_M_settle_1 ?_
      try simp (disch := omega) only [cd_set_eq, cd_set_ne, cd_set_set]
      refine r_tops (show _ = nI (D.length + S0.length + 1) from hx19) ?_
      refine r_if_le hO d_M_settle_4 (fun c_4 => ?_) (fun c_4 => ?_)
      · exact absurd c_4 (nI_nle (by omega) (by omega))
      · refine r_aload hO d_M_settle_7 rfl ?_
        refine r_getR hO f_M_35 rfl hM.2.1 (mo_r9 hM) d_M_settle_8 ?_
        try simp (disch := omega) only [cd_set_eq, cd_set_ne, cd_set_set]
        refine r_aload hO d_M_settle_11 rfl ?_
        refine r_getI hO f_M_222 rfl hM.2.1 d_M_settle_12 ?_
        try simp (disch := omega) only [cd_set_eq, cd_set_ne, cd_set_set]
        refine r_tops (show _ = nI (D.length + S0.length + 1) from hx19) ?_
        refine r_k hO d_M_settle_15 ?_
        refine r_isubN hO d_M_settle_16 (by omega) ?_
        refine r_iald hO (mo_s9 hM) (by omega) (by decide) d_M_settle_17 ?_
        try simp (disch := omega) only [cd_set_eq, cd_set_ne, cd_set_set]
        refine r_tops (show _ = px_sc x from hx) ?_
        refine r_k hO d_M_settle_18 ?_
        refine r_icmp_eq hO d_M_settle_20 (fun c_20 => ?_) (fun c_20 => ?_)
        · exact absurd c_20 (px_sc11 x (by omega) hx1)
        · refine r_aload hO d_M_settle_23 rfl ?_
          refine r_getR hO f_M_35 rfl hM.2.1 (mo_r9 hM) d_M_settle_24 ?_
          try simp (disch := omega) only [cd_set_eq, cd_set_ne, cd_set_set]
          refine r_aload hO d_M_settle_27 rfl ?_
          refine r_getI hO f_M_222 rfl hM.2.1 d_M_settle_28 ?_
          try simp (disch := omega) only [cd_set_eq, cd_set_ne, cd_set_set]
          refine r_tops (show _ = nI (D.length + S0.length + 1) from hx19) ?_
          refine r_k hO d_M_settle_31 ?_
          refine r_isubN hO d_M_settle_32 (by omega) ?_
          refine r_iald hO (mo_s9 hM) (by omega) (by decide) d_M_settle_33 ?_
          try simp (disch := omega) only [cd_set_eq, cd_set_ne, cd_set_set]
          refine r_tops (show _ = px_sc x from hx) ?_
          refine r_cS1fi hO hE (px_imp (c_M_rank (px_sc x)) (fun r S2 I2 q => by rw [px_rkI_e x (by omega) (by omega)] at q; exact q)) mf_M_rank lk_M_225 (by decide) rfl (Nat.le_of_ble_eq_true rfl) d_M_settle_34 (Nat.zero_le _) (Nat.zero_le _) ?_
          try simp (disch := omega) only [cd_set_eq, cd_set_ne, cd_set_set]
          refine r_iload hO d_M_settle_37 rfl ?_
          refine r_icmp_lt hO d_M_settle_38 (fun c_38 => ?_) (fun c_38 => ?_)
          · exact absurd c_38 (nI_nlt hx3 (by omega))
          · refine r_aload hO d_M_settle_41 rfl ?_
            refine r_dup hO d_M_settle_42 rfl ?_
            refine r_getI hO f_M_222 rfl hM.2.1 d_M_settle_43 ?_
            try simp (disch := omega) only [cd_set_eq, cd_set_ne, cd_set_set]
            refine r_tops (show _ = nI (D.length + S0.length + 1) from hx19) ?_
            refine r_k hO d_M_settle_46 ?_
            refine r_isubN hO d_M_settle_47 (by omega) ?_
            refine r_putI hO f_M_222 rfl hM.2.1 hM.1 d_M_settle_48 ?_
            try simp (disch := omega) only [cd_set_eq, cd_set_ne, cd_set_set]
            refine r_aload hO d_M_settle_51 rfl ?_
            refine r_getR hO f_M_32 rfl hM.2.1 (mo_r8 hM) d_M_settle_52 ?_
            try simp (disch := omega) only [cd_set_eq, cd_set_ne, cd_set_set]
            refine r_aload hO d_M_settle_55 rfl ?_
            refine r_getI hO f_M_228 rfl hM.2.1 d_M_settle_56 ?_
            try simp (disch := omega) only [cd_set_eq, cd_set_ne, cd_set_set]
            refine r_tops (show _ = nI c.length from h16) ?_
            refine r_aload hO d_M_settle_59 rfl ?_
            refine r_getR hO f_M_35 rfl hM.2.1 (mo_r9 hM) d_M_settle_60 ?_
            try simp (disch := omega) only [cd_set_eq, cd_set_ne, cd_set_set]
            refine r_aload hO d_M_settle_63 rfl ?_
            refine r_getI hO f_M_222 rfl hM.2.1 d_M_settle_64 ?_
            try simp (disch := omega) only [cd_set_eq, cd_set_ne, cd_set_set]
            refine r_tops (show _ = nI (D.length + S0.length) from rfl) ?_
            refine r_iald hO (mo_s9 hM) (by omega) (by decide) d_M_settle_67 ?_
            try simp (disch := omega) only [cd_set_eq, cd_set_ne, cd_set_set]
            rw [hx]
            refine r_iast hO (mo_s8 hM) (mo_l8 hM) (by omega) (by decide) d_M_settle_68 ?_
            try simp (disch := omega) only [cd_set_eq, cd_set_ne, cd_set_set]
            refine r_aload hO d_M_settle_69 rfl ?_
            refine r_dup hO d_M_settle_70 rfl ?_
            refine r_getI hO f_M_228 rfl hM.2.1 d_M_settle_71 ?_
            try simp (disch := omega) only [cd_set_eq, cd_set_ne, cd_set_set]
            refine r_tops (show _ = nI c.length from h16) ?_
            refine r_k hO d_M_settle_74 ?_
            refine r_iaddN hO d_M_settle_75 ?_
            refine r_putI hO f_M_228 rfl hM.2.1 hM.1 d_M_settle_76 ?_
            try simp (disch := omega) only [cd_set_eq, cd_set_ne, cd_set_set]
            refine r_goto hO d_M_settle_79 ?_
            have e8 : ∀ (A : cd_Mem) (q1 q2 : Nat → Int32), cd_set (cd_set A m q1) (m + 8) q2 = cd_set (cd_set A (m + 8) q2) m q1 := fun A q1 q2 => by
              funext b
              unfold cd_set
              by_cases b1 : b = m
              · rw [if_neg (show ¬ b = m + 8 by omega), if_pos b1, if_pos b1]
              · rw [if_neg b1, if_neg b1]
            simp only [e8, cd_set_set, cd_set_eq]
            have hcl := px_cl_app hC (px_sc x)
            refine ih (c ++ [px_sc x]) _ _ hW.2 (fun y hy => hD y (List.mem_cons_of_mem _ hy)) (by rw [List.length_append]; show c.length + 1 + D.length ≤ 96; omega) (by omega) hcl (fun k k1 k2 => ?_) ?_ ?_ (by rw [← he]; simp)
            · simp only [upd, k1, k2, if_false]; exact hk k k1 k2
            · rw [List.length_append]; rfl
            · rfl
  refine r_mem (I' := cd_set (cd_set I (m + 8) (I (m + 8))) m (I m)) (by rw [cd_set_self, cd_set_self]) ?_
  exact loop D0 c0 _ _ hW hD hl hh hC (fun _ _ _ => rfl) h16 h19 rfl
