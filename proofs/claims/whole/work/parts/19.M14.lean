theorem cd_dep_cg {nt : Int32} {c c' : Nat → Int32} : ∀ {n : Nat}, (∀ k, k < n → c k = c' k) → cd_dep nt c n = cd_dep nt c' n
  | 0, _ => rfl
  | n + 1, h => by
    unfold cd_dep
    rw [h n (by omega), cd_dep_cg (n := n) (fun k hk => h k (by omega))]
theorem cd_wf_cg {nt : Int32} {c c' : Nat → Int32} {n nb : Nat} (h : ∀ k, k < n → c k = c' k) (hw : cd_wf nt c n nb) : cd_wf nt c' n nb := fun k hk => by
  have := hw k hk
  rw [cd_dep_cg (n := k) (fun j hj => h j (by omega)), h k hk] at this
  exact this
theorem cd_V_cg {N N' : Nat → Int32} {mm tc : Nat} (hV : cd_V N mm tc) (h : ∀ j, j < 1448 → N' j = N j) : cd_V N' mm tc := by
  obtain ⟨a1, a2, a3, a4, a5⟩ := hV
  refine ⟨by rw [h 1 (by decide)]; exact a1, a2, by rw [h 15 (by decide)]; exact a3, a4, fun t ht => ?_⟩
  obtain ⟨ky, n, b1, b2, b3, b4, b5, b6⟩ := a5 t ht
  have e : ∀ k, k < n → N (104 + 96 * t + k) = N' (104 + 96 * t + k) := fun k hk => (h _ (by omega)).symm
  exact ⟨ky, n, by rw [h _ (by omega)]; exact b1, b2, b3, b4, cd_wf_cg e b5, by rw [← cd_dep_cg e]; exact b6⟩
def cd_cr (te N : Nat → Int32) (mm tc wt : Nat) : Nat → Nat
  | 0 => 0
  | k + 1 => if cd_cr te N mm tc wt k = 2 * k then (cd_cr te N mm tc wt k + (if cd_cr te N mm tc wt k < wt ∧ te (cd_cr te N mm tc wt k) = cd_hb (cd_hs N mm tc (k + 1)) mm then 1 else 0)) + (if cd_cr te N mm tc wt k + (if cd_cr te N mm tc wt k < wt ∧ te (cd_cr te N mm tc wt k) = cd_hb (cd_hs N mm tc (k + 1)) mm then 1 else 0) = 2 * k + 1 ∧ cd_cr te N mm tc wt k + (if cd_cr te N mm tc wt k < wt ∧ te (cd_cr te N mm tc wt k) = cd_hb (cd_hs N mm tc (k + 1)) mm then 1 else 0) < wt ∧ te (cd_cr te N mm tc wt k + (if cd_cr te N mm tc wt k < wt ∧ te (cd_cr te N mm tc wt k) = cd_hb (cd_hs N mm tc (k + 1)) mm then 1 else 0)) = cd_hs N mm tc (k + 1) 10 then 1 else 0) else cd_cr te N mm tc wt k
theorem cd_if01 (c : Prop) [Decidable c] : (if c then 1 else 0) ≤ 1 := by split <;> omega
theorem cd_cr_le (te N : Nat → Int32) (mm tc wt : Nat) : ∀ k, cd_cr te N mm tc wt k ≤ 2 * k
  | 0 => Nat.le_refl _
  | k + 1 => by
    have ih := cd_cr_le te N mm tc wt k
    unfold cd_cr
    split
    · refine Nat.le_trans (Nat.add_le_add (Nat.add_le_add ih (cd_if01 _)) (cd_if01 _)) (by omega)
    · omega
theorem cd_cr_st {te N : Nat → Int32} {mm tc wt k : Nat} (h : ¬ cd_cr te N mm tc wt k = 2 * k) : ∀ r, cd_cr te N mm tc wt (k + r) = cd_cr te N mm tc wt k
  | 0 => rfl
  | r + 1 => by
    have ih := cd_cr_st h r
    have hl := cd_cr_le te N mm tc wt k
    show (if cd_cr te N mm tc wt (k + r) = 2 * (k + r) then _ else cd_cr te N mm tc wt (k + r)) = _
    rw [ih, if_neg (by omega)]
def sp_check (te G : Nat → Int32) (mm tc hg wt : Nat) (img n : Int32) : Int32 := if nI 1 ≤ n ∧ n ≤ nI 30 then (if img = 0 then cd_NO else if cd_cr te G mm tc wt (min (9999 - hg) (cd_tn n)) = wt ∧ cd_cr te G mm tc wt (min (9999 - hg) (cd_tn n)) = 2 * min (9999 - hg) (cd_tn n) then nI 0 else nI (1 + cd_cr te G mm tc wt (min (9999 - hg) (cd_tn n)))) else cd_BAD
def sp_count (N : Nat → Int32) (wt tp q : Int32) : Int32 := if nI 1 ≤ q ∧ q ≤ nI 5 then N (2 + cd_tn q - 1) else if q = nI 0 then N 1 else if q = nI 6 then N 8 else if q = nI 7 then N 9 else if q = nI 8 then N 15 else if q = nI 9 then wt else if q = nI 10 then tp else if q = nI 11 then N 0 else cd_BAD
theorem d_M_tell_0 : cd_D_aload b_M_tell 0 0 1 := Or.inr ⟨0, ⟨by decide +kernel, rfl⟩, rfl⟩
theorem d_M_tell_1 : cd_D 3 b_M_tell 1 (.getfield 267) 4 := ⟨by decide +kernel, rfl⟩
theorem d_M_tell_4 : cd_Dk b_M_tell 4 (nI 60) 6 := Or.inr (Or.inl ⟨60, ⟨by decide +kernel, rfl⟩, by decide +kernel⟩)
theorem d_M_tell_6 : cd_D_icmp_ne b_M_tell 6 12 9 := ⟨6, by decide +kernel, by decide, rfl⟩
theorem d_M_tell_9 : cd_D 2 b_M_tell 9 (.ldc 88) 11 := ⟨by decide +kernel, rfl⟩
theorem d_M_tell_11 : cd_D 1 b_M_tell 11 .ireturn 12 := ⟨by decide +kernel, rfl⟩
theorem d_M_tell_12 : cd_D_aload b_M_tell 12 0 13 := Or.inr ⟨0, ⟨by decide +kernel, rfl⟩, rfl⟩
theorem d_M_tell_13 : cd_D 3 b_M_tell 13 (.getfield 72) 16 := ⟨by decide +kernel, rfl⟩
theorem d_M_tell_16 : cd_D_aload b_M_tell 16 0 17 := Or.inr ⟨0, ⟨by decide +kernel, rfl⟩, rfl⟩
theorem d_M_tell_17 : cd_D 3 b_M_tell 17 (.getfield 267) 20 := ⟨by decide +kernel, rfl⟩
theorem d_M_tell_20 : cd_D_iload b_M_tell 20 1 21 := Or.inr ⟨1, ⟨by decide +kernel, rfl⟩, rfl⟩
theorem d_M_tell_21 : cd_D 1 b_M_tell 21 .iastore 22 := ⟨by decide +kernel, rfl⟩
theorem d_M_tell_22 : cd_D_aload b_M_tell 22 0 23 := Or.inr ⟨0, ⟨by decide +kernel, rfl⟩, rfl⟩
theorem d_M_tell_23 : cd_D 1 b_M_tell 23 .dup 24 := ⟨by decide +kernel, rfl⟩
theorem d_M_tell_24 : cd_D 3 b_M_tell 24 (.getfield 267) 27 := ⟨by decide +kernel, rfl⟩
theorem d_M_tell_27 : cd_Dk b_M_tell 27 (nI 1) 28 := Or.inl ⟨1, ⟨by decide +kernel, rfl⟩, by decide +kernel⟩
theorem d_M_tell_28 : cd_D 1 b_M_tell 28 .iadd 29 := ⟨by decide +kernel, rfl⟩
theorem d_M_tell_29 : cd_D 3 b_M_tell 29 (.putfield 267) 32 := ⟨by decide +kernel, rfl⟩
theorem d_M_tell_32 : cd_D_aload b_M_tell 32 0 33 := Or.inr ⟨0, ⟨by decide +kernel, rfl⟩, rfl⟩
theorem d_M_tell_33 : cd_D 3 b_M_tell 33 (.getfield 267) 36 := ⟨by decide +kernel, rfl⟩
theorem d_M_tell_36 : cd_D 1 b_M_tell 36 .ireturn 37 := ⟨by decide +kernel, rfl⟩
theorem c_M_tell {l : Launch} {w : cd_WT} {S : cd_Sp} {I : cd_Mem} {m : Nat} (hM : cd_MO w S m) (wt : Nat) (hw : I m 32 = nI wt) (hw6 : wt ≤ 60) (v : Int32) : cd_C l w m_M_tell 0 0 0 [.ref m, .int v] S I (cd_Fi S (if wt = 60 then cd_FULL else nI (wt + 1)) (if wt = 60 then I else cd_set (cd_set I (m + 21) (upd (I (m + 21)) wt v)) m (upd (I m) 32 (nI (wt + 1))))) := by
  refine cd_intro (by decide) (by simp [Value.category]) (Nat.le_of_ble_eq_true rfl) ?_
  intro X hO hE
  show cd_J w X 0 0 S I 0 [some (.ref m), some (.int v)] []
  refine r_aload hO d_M_tell_0 rfl ?_
  refine r_getI hO f_M_267 rfl hM.2.1 d_M_tell_1 ?_
  refine r_tops hw ?_
  refine r_k hO d_M_tell_4 ?_
  refine r_icmp_ne hO d_M_tell_6 (fun c_6 => ?_) (fun c_6 => ?_)
  · have h60 : ¬ wt = 60 := fun q => c_6 (by rw [q])
    refine r_aload hO d_M_tell_12 rfl ?_
    refine r_getR hO f_M_72 rfl hM.2.1 (mo_r21 hM) d_M_tell_13 ?_
    refine r_aload hO d_M_tell_16 rfl ?_
    refine r_getI hO f_M_267 rfl hM.2.1 d_M_tell_17 ?_
    refine r_tops hw ?_
    refine r_iload hO d_M_tell_20 rfl ?_
    refine r_iast hO (mo_s21 hM) (mo_l21 hM) (by omega) (by decide) d_M_tell_21 ?_
    refine r_aload hO d_M_tell_22 rfl ?_
    refine r_dup hO d_M_tell_23 rfl ?_
    refine r_getI hO f_M_267 rfl hM.2.1 d_M_tell_24 ?_
    try simp (disch := omega) only [cd_set_eq, cd_set_ne, cd_set_set]
    refine r_tops hw ?_
    refine r_k hO d_M_tell_27 ?_
    refine r_iaddN hO d_M_tell_28 ?_
    refine r_putI hO f_M_267 rfl hM.2.1 hM.1 d_M_tell_29 ?_
    try simp (disch := omega) only [cd_set_eq, cd_set_ne, cd_set_set]
    refine r_aload hO d_M_tell_32 rfl ?_
    refine r_getI hO f_M_267 rfl hM.2.1 d_M_tell_33 ?_
    try simp (disch := omega) only [cd_set_eq, cd_set_ne, cd_set_set]
    refine r_tops (show _ = nI (wt + 1) from rfl) ?_
    refine r_iret hO hE (Nat.zero_le _) (Nat.zero_le _) d_M_tell_36 ?_
    exact ⟨by rw [if_neg h60], rfl, by rw [if_neg h60]⟩
  · have h60 : wt = 60 := (nI_eq (by omega) (by decide)).mp c_6
    refine r_ldc hO k_M_88 d_M_tell_9 ?_
    refine r_iret hO hE (Nat.zero_le _) (Nat.zero_le _) d_M_tell_11 ?_
    exact ⟨by rw [if_pos h60], rfl, by rw [if_pos h60]⟩
theorem d_M_keep_0 : cd_D_aload b_M_keep 0 0 1 := Or.inr ⟨0, ⟨by decide +kernel, rfl⟩, rfl⟩
theorem d_M_keep_1 : cd_D 3 b_M_keep 1 (.getfield 9) 4 := ⟨by decide +kernel, rfl⟩
theorem d_M_keep_4 : cd_D_aload b_M_keep 4 0 5 := Or.inr ⟨0, ⟨by decide +kernel, rfl⟩, rfl⟩
theorem d_M_keep_5 : cd_D 3 b_M_keep 5 (.getfield 13) 8 := ⟨by decide +kernel, rfl⟩
theorem d_M_keep_8 : cd_D 3 b_M_keep 8 (.invokestatic 274) 11 := ⟨by decide +kernel, rfl⟩
theorem d_M_keep_11 : cd_D_aload b_M_keep 11 0 12 := Or.inr ⟨0, ⟨by decide +kernel, rfl⟩, rfl⟩
theorem d_M_keep_12 : cd_Dk b_M_keep 12 (nI 1) 13 := Or.inl ⟨1, ⟨by decide +kernel, rfl⟩, by decide +kernel⟩
theorem d_M_keep_13 : cd_D 3 b_M_keep 13 (.putfield 270) 16 := ⟨by decide +kernel, rfl⟩
theorem d_M_keep_16 : cd_D_aload b_M_keep 16 0 17 := Or.inr ⟨0, ⟨by decide +kernel, rfl⟩, rfl⟩
theorem d_M_keep_17 : cd_D 3 b_M_keep 17 (.getfield 9) 20 := ⟨by decide +kernel, rfl⟩
theorem d_M_keep_20 : cd_Dk b_M_keep 20 (nI 1) 21 := Or.inl ⟨1, ⟨by decide +kernel, rfl⟩, by decide +kernel⟩
theorem d_M_keep_21 : cd_D 1 b_M_keep 21 .iaload 22 := ⟨by decide +kernel, rfl⟩
theorem d_M_keep_22 : cd_D 1 b_M_keep 22 .ireturn 23 := ⟨by decide +kernel, rfl⟩
theorem c_M_keep {l : Launch} {w : cd_WT} {S : cd_Sp} {I : cd_Mem} {m : Nat} (hM : cd_MO w S m)  : cd_C l w m_M_keep 1 0 0 [.ref m] S I (cd_Fi S (I (m + 1) 1) (cd_set (cd_set I (m + 2) (cd_cp 1448 (I (m + 1)) (I (m + 2)))) m (upd (I m) 3 (nI 1)))) := by
  refine cd_intro (by decide) (by simp [Value.category]) (Nat.le_of_ble_eq_true rfl) ?_
  intro X hO hE
  show cd_J w X 0 0 S I 0 [some (.ref m)] []
  refine r_aload hO d_M_keep_0 rfl ?_
  refine r_getR hO f_M_9 rfl hM.2.1 (mo_r1 hM) d_M_keep_1 ?_
  refine r_aload hO d_M_keep_4 rfl ?_
  refine r_getR hO f_M_13 rfl hM.2.1 (mo_r2 hM) d_M_keep_5 ?_
  refine r_cS2fv hO hE (c_M_copyAll (a := m + 1) (b := m + 2) (mo_s1 hM) (mo_s2 hM) (mo_l2 hM) (by omega)) mf_M_copyAll lk_M_274 (by decide) rfl (Nat.le_of_ble_eq_true rfl) d_M_keep_8 (Nat.zero_le _) (Nat.zero_le _) ?_
  try simp (disch := omega) only [cd_set_eq, cd_set_ne, cd_set_set]
  refine r_aload hO d_M_keep_11 rfl ?_
  refine r_k hO d_M_keep_12 ?_
  refine r_putZ hO f_M_270 rfl hM.2.1 hM.1 _ (Or.inr rfl) d_M_keep_13 ?_
  try simp (disch := omega) only [cd_set_eq, cd_set_ne, cd_set_set]
  refine r_aload hO d_M_keep_16 rfl ?_
  refine r_getR hO f_M_9 rfl hM.2.1 (mo_r1 hM) d_M_keep_17 ?_
  try simp (disch := omega) only [cd_set_eq, cd_set_ne, cd_set_set]
  refine r_k hO d_M_keep_20 ?_
  refine r_iald hO (mo_s1 hM) (by omega) (by decide) d_M_keep_21 ?_
  try simp (disch := omega) only [cd_set_eq, cd_set_ne, cd_set_set]
  refine r_iret hO hE (Nat.zero_le _) (Nat.zero_le _) d_M_keep_22 ?_
  exact ⟨rfl, rfl, rfl⟩
theorem d_M_back_0 : cd_D_aload b_M_back 0 0 1 := Or.inr ⟨0, ⟨by decide +kernel, rfl⟩, rfl⟩
theorem d_M_back_1 : cd_D 3 b_M_back 1 (.getfield 270) 4 := ⟨by decide +kernel, rfl⟩
theorem d_M_back_4 : cd_D_if_ne b_M_back 4 11 7 := ⟨7, by decide +kernel, by decide, rfl⟩
theorem d_M_back_7 : cd_D 3 b_M_back 7 (.ldc_w 266) 10 := ⟨by decide +kernel, rfl⟩
theorem d_M_back_10 : cd_D 1 b_M_back 10 .ireturn 11 := ⟨by decide +kernel, rfl⟩
theorem d_M_back_11 : cd_D_aload b_M_back 11 0 12 := Or.inr ⟨0, ⟨by decide +kernel, rfl⟩, rfl⟩
theorem d_M_back_12 : cd_D 3 b_M_back 12 (.getfield 13) 15 := ⟨by decide +kernel, rfl⟩
theorem d_M_back_15 : cd_D_aload b_M_back 15 0 16 := Or.inr ⟨0, ⟨by decide +kernel, rfl⟩, rfl⟩
theorem d_M_back_16 : cd_D 3 b_M_back 16 (.getfield 9) 19 := ⟨by decide +kernel, rfl⟩
theorem d_M_back_19 : cd_D 3 b_M_back 19 (.invokestatic 274) 22 := ⟨by decide +kernel, rfl⟩
theorem d_M_back_22 : cd_D_aload b_M_back 22 0 23 := Or.inr ⟨0, ⟨by decide +kernel, rfl⟩, rfl⟩
theorem d_M_back_23 : cd_D 3 b_M_back 23 (.getfield 9) 26 := ⟨by decide +kernel, rfl⟩
theorem d_M_back_26 : cd_Dk b_M_back 26 (nI 1) 27 := Or.inl ⟨1, ⟨by decide +kernel, rfl⟩, by decide +kernel⟩
theorem d_M_back_27 : cd_D 1 b_M_back 27 .iaload 28 := ⟨by decide +kernel, rfl⟩
theorem d_M_back_28 : cd_D 1 b_M_back 28 .ireturn 29 := ⟨by decide +kernel, rfl⟩
theorem c_M_back {l : Launch} {w : cd_WT} {S : cd_Sp} {I : cd_Mem} {m : Nat} (hM : cd_MO w S m)  : cd_C l w m_M_back 1 0 0 [.ref m] S I (cd_Fi S (if I m 3 = 0 then cd_NO else I (m + 2) 1) (if I m 3 = 0 then I else cd_set I (m + 1) (cd_cp 1448 (I (m + 2)) (I (m + 1))))) := by
  refine cd_intro (by decide) (by simp [Value.category]) (Nat.le_of_ble_eq_true rfl) ?_
  intro X hO hE
  show cd_J w X 0 0 S I 0 [some (.ref m)] []
  refine r_aload hO d_M_back_0 rfl ?_
  refine r_getI hO f_M_270 rfl hM.2.1 d_M_back_1 ?_
  refine r_if_ne hO d_M_back_4 (fun c_4 => ?_) (fun c_4 => ?_)
  · refine r_aload hO d_M_back_11 rfl ?_
    refine r_getR hO f_M_13 rfl hM.2.1 (mo_r2 hM) d_M_back_12 ?_
    refine r_aload hO d_M_back_15 rfl ?_
    refine r_getR hO f_M_9 rfl hM.2.1 (mo_r1 hM) d_M_back_16 ?_
    refine r_cS2fv hO hE (c_M_copyAll (a := m + 2) (b := m + 1) (mo_s2 hM) (mo_s1 hM) (mo_l1 hM) (by omega)) mf_M_copyAll lk_M_274 (by decide) rfl (Nat.le_of_ble_eq_true rfl) d_M_back_19 (Nat.zero_le _) (Nat.zero_le _) ?_
    try simp (disch := omega) only [cd_set_eq, cd_set_ne, cd_set_set]
    refine r_aload hO d_M_back_22 rfl ?_
    refine r_getR hO f_M_9 rfl hM.2.1 (mo_r1 hM) d_M_back_23 ?_
    try simp (disch := omega) only [cd_set_eq, cd_set_ne, cd_set_set]
    refine r_k hO d_M_back_26 ?_
    refine r_iald hO (mo_s1 hM) (by omega) (by decide) d_M_back_27 ?_
    try simp (disch := omega) only [cd_set_eq, cd_set_ne, cd_set_set]
    refine r_iret hO hE (Nat.zero_le _) (Nat.zero_le _) d_M_back_28 ?_
    exact ⟨by rw [if_neg c_4]; rfl, rfl, by rw [if_neg c_4]⟩
  · refine r_ldcw hO k_M_266 d_M_back_7 ?_
    refine r_iret hO hE (Nat.zero_le _) (Nat.zero_le _) d_M_back_10 ?_
    exact ⟨by rw [if_pos c_4], rfl, by rw [if_pos c_4]⟩
