/-- the reference object and its rows -/
def cd_mt : List (Nat × Nat × Nat × Nat) := [(0, 1, 2, 1448), (1, 2, 2, 1448), (2, 3, 2, 1448), (4, 4, 2, 76), (5, 5, 2, 96), (13, 6, 4, 12), (14, 7, 2, 4), (15, 8, 2, 96), (18, 9, 2, 96), (20, 10, 5, 10), (21, 11, 2, 96), (22, 12, 2, 4), (23, 13, 2, 4), (24, 14, 2, 4), (25, 15, 2, 96), (26, 16, 2, 5), (27, 17, 2, 5), (28, 18, 2, 5), (29, 19, 2, 120), (30, 20, 2, 24), (31, 21, 2, 60)]
def cd_MO (w : cd_WT) (S : cd_Sp) (m : Nat) : Prop := w.1 ≤ m ∧ S.2.1 m = (1, 7) ∧ ∀ q ∈ cd_mt, S.2.2 m q.1 = some (m + q.2.1) ∧ S.2.1 (m + q.2.1) = q.2.2
theorem mo_r1 {w : cd_WT} {S : cd_Sp} {m : Nat} (h : cd_MO w S m) : S.2.2 m 0 = some (m + 1) := (h.2.2 _ (List.mem_of_getElem? (i := 0) rfl)).1
theorem mo_s1 {w : cd_WT} {S : cd_Sp} {m : Nat} (h : cd_MO w S m) : S.2.1 (m + 1) = (2, 1448) := (h.2.2 _ (List.mem_of_getElem? (i := 0) rfl)).2
theorem mo_l1 {w : cd_WT} {S : cd_Sp} {m : Nat} (h : cd_MO w S m) : w.1 ≤ m + 1 := Nat.le_trans h.1 (Nat.le_add_right _ _)
theorem mo_r2 {w : cd_WT} {S : cd_Sp} {m : Nat} (h : cd_MO w S m) : S.2.2 m 1 = some (m + 2) := (h.2.2 _ (List.mem_of_getElem? (i := 1) rfl)).1
theorem mo_s2 {w : cd_WT} {S : cd_Sp} {m : Nat} (h : cd_MO w S m) : S.2.1 (m + 2) = (2, 1448) := (h.2.2 _ (List.mem_of_getElem? (i := 1) rfl)).2
theorem mo_l2 {w : cd_WT} {S : cd_Sp} {m : Nat} (h : cd_MO w S m) : w.1 ≤ m + 2 := Nat.le_trans h.1 (Nat.le_add_right _ _)
theorem mo_r3 {w : cd_WT} {S : cd_Sp} {m : Nat} (h : cd_MO w S m) : S.2.2 m 2 = some (m + 3) := (h.2.2 _ (List.mem_of_getElem? (i := 2) rfl)).1
theorem mo_s3 {w : cd_WT} {S : cd_Sp} {m : Nat} (h : cd_MO w S m) : S.2.1 (m + 3) = (2, 1448) := (h.2.2 _ (List.mem_of_getElem? (i := 2) rfl)).2
theorem mo_l3 {w : cd_WT} {S : cd_Sp} {m : Nat} (h : cd_MO w S m) : w.1 ≤ m + 3 := Nat.le_trans h.1 (Nat.le_add_right _ _)
theorem mo_r4 {w : cd_WT} {S : cd_Sp} {m : Nat} (h : cd_MO w S m) : S.2.2 m 4 = some (m + 4) := (h.2.2 _ (List.mem_of_getElem? (i := 3) rfl)).1
theorem mo_s4 {w : cd_WT} {S : cd_Sp} {m : Nat} (h : cd_MO w S m) : S.2.1 (m + 4) = (2, 76) := (h.2.2 _ (List.mem_of_getElem? (i := 3) rfl)).2
theorem mo_l4 {w : cd_WT} {S : cd_Sp} {m : Nat} (h : cd_MO w S m) : w.1 ≤ m + 4 := Nat.le_trans h.1 (Nat.le_add_right _ _)
theorem mo_r5 {w : cd_WT} {S : cd_Sp} {m : Nat} (h : cd_MO w S m) : S.2.2 m 5 = some (m + 5) := (h.2.2 _ (List.mem_of_getElem? (i := 4) rfl)).1
theorem mo_s5 {w : cd_WT} {S : cd_Sp} {m : Nat} (h : cd_MO w S m) : S.2.1 (m + 5) = (2, 96) := (h.2.2 _ (List.mem_of_getElem? (i := 4) rfl)).2
theorem mo_l5 {w : cd_WT} {S : cd_Sp} {m : Nat} (h : cd_MO w S m) : w.1 ≤ m + 5 := Nat.le_trans h.1 (Nat.le_add_right _ _)
theorem mo_r6 {w : cd_WT} {S : cd_Sp} {m : Nat} (h : cd_MO w S m) : S.2.2 m 13 = some (m + 6) := (h.2.2 _ (List.mem_of_getElem? (i := 5) rfl)).1
theorem mo_s6 {w : cd_WT} {S : cd_Sp} {m : Nat} (h : cd_MO w S m) : S.2.1 (m + 6) = (4, 12) := (h.2.2 _ (List.mem_of_getElem? (i := 5) rfl)).2
theorem mo_l6 {w : cd_WT} {S : cd_Sp} {m : Nat} (h : cd_MO w S m) : w.1 ≤ m + 6 := Nat.le_trans h.1 (Nat.le_add_right _ _)
theorem mo_r7 {w : cd_WT} {S : cd_Sp} {m : Nat} (h : cd_MO w S m) : S.2.2 m 14 = some (m + 7) := (h.2.2 _ (List.mem_of_getElem? (i := 6) rfl)).1
theorem mo_s7 {w : cd_WT} {S : cd_Sp} {m : Nat} (h : cd_MO w S m) : S.2.1 (m + 7) = (2, 4) := (h.2.2 _ (List.mem_of_getElem? (i := 6) rfl)).2
theorem mo_l7 {w : cd_WT} {S : cd_Sp} {m : Nat} (h : cd_MO w S m) : w.1 ≤ m + 7 := Nat.le_trans h.1 (Nat.le_add_right _ _)
theorem mo_r8 {w : cd_WT} {S : cd_Sp} {m : Nat} (h : cd_MO w S m) : S.2.2 m 15 = some (m + 8) := (h.2.2 _ (List.mem_of_getElem? (i := 7) rfl)).1
theorem mo_s8 {w : cd_WT} {S : cd_Sp} {m : Nat} (h : cd_MO w S m) : S.2.1 (m + 8) = (2, 96) := (h.2.2 _ (List.mem_of_getElem? (i := 7) rfl)).2
theorem mo_l8 {w : cd_WT} {S : cd_Sp} {m : Nat} (h : cd_MO w S m) : w.1 ≤ m + 8 := Nat.le_trans h.1 (Nat.le_add_right _ _)
theorem mo_r9 {w : cd_WT} {S : cd_Sp} {m : Nat} (h : cd_MO w S m) : S.2.2 m 18 = some (m + 9) := (h.2.2 _ (List.mem_of_getElem? (i := 8) rfl)).1
theorem mo_s9 {w : cd_WT} {S : cd_Sp} {m : Nat} (h : cd_MO w S m) : S.2.1 (m + 9) = (2, 96) := (h.2.2 _ (List.mem_of_getElem? (i := 8) rfl)).2
theorem mo_l9 {w : cd_WT} {S : cd_Sp} {m : Nat} (h : cd_MO w S m) : w.1 ≤ m + 9 := Nat.le_trans h.1 (Nat.le_add_right _ _)
theorem mo_r10 {w : cd_WT} {S : cd_Sp} {m : Nat} (h : cd_MO w S m) : S.2.2 m 20 = some (m + 10) := (h.2.2 _ (List.mem_of_getElem? (i := 9) rfl)).1
theorem mo_s10 {w : cd_WT} {S : cd_Sp} {m : Nat} (h : cd_MO w S m) : S.2.1 (m + 10) = (5, 10) := (h.2.2 _ (List.mem_of_getElem? (i := 9) rfl)).2
theorem mo_l10 {w : cd_WT} {S : cd_Sp} {m : Nat} (h : cd_MO w S m) : w.1 ≤ m + 10 := Nat.le_trans h.1 (Nat.le_add_right _ _)
theorem mo_r11 {w : cd_WT} {S : cd_Sp} {m : Nat} (h : cd_MO w S m) : S.2.2 m 21 = some (m + 11) := (h.2.2 _ (List.mem_of_getElem? (i := 10) rfl)).1
theorem mo_s11 {w : cd_WT} {S : cd_Sp} {m : Nat} (h : cd_MO w S m) : S.2.1 (m + 11) = (2, 96) := (h.2.2 _ (List.mem_of_getElem? (i := 10) rfl)).2
theorem mo_l11 {w : cd_WT} {S : cd_Sp} {m : Nat} (h : cd_MO w S m) : w.1 ≤ m + 11 := Nat.le_trans h.1 (Nat.le_add_right _ _)
theorem mo_r12 {w : cd_WT} {S : cd_Sp} {m : Nat} (h : cd_MO w S m) : S.2.2 m 22 = some (m + 12) := (h.2.2 _ (List.mem_of_getElem? (i := 11) rfl)).1
theorem mo_s12 {w : cd_WT} {S : cd_Sp} {m : Nat} (h : cd_MO w S m) : S.2.1 (m + 12) = (2, 4) := (h.2.2 _ (List.mem_of_getElem? (i := 11) rfl)).2
theorem mo_l12 {w : cd_WT} {S : cd_Sp} {m : Nat} (h : cd_MO w S m) : w.1 ≤ m + 12 := Nat.le_trans h.1 (Nat.le_add_right _ _)
theorem mo_r13 {w : cd_WT} {S : cd_Sp} {m : Nat} (h : cd_MO w S m) : S.2.2 m 23 = some (m + 13) := (h.2.2 _ (List.mem_of_getElem? (i := 12) rfl)).1
theorem mo_s13 {w : cd_WT} {S : cd_Sp} {m : Nat} (h : cd_MO w S m) : S.2.1 (m + 13) = (2, 4) := (h.2.2 _ (List.mem_of_getElem? (i := 12) rfl)).2
theorem mo_l13 {w : cd_WT} {S : cd_Sp} {m : Nat} (h : cd_MO w S m) : w.1 ≤ m + 13 := Nat.le_trans h.1 (Nat.le_add_right _ _)
theorem mo_r14 {w : cd_WT} {S : cd_Sp} {m : Nat} (h : cd_MO w S m) : S.2.2 m 24 = some (m + 14) := (h.2.2 _ (List.mem_of_getElem? (i := 13) rfl)).1
theorem mo_s14 {w : cd_WT} {S : cd_Sp} {m : Nat} (h : cd_MO w S m) : S.2.1 (m + 14) = (2, 4) := (h.2.2 _ (List.mem_of_getElem? (i := 13) rfl)).2
theorem mo_l14 {w : cd_WT} {S : cd_Sp} {m : Nat} (h : cd_MO w S m) : w.1 ≤ m + 14 := Nat.le_trans h.1 (Nat.le_add_right _ _)
theorem mo_r15 {w : cd_WT} {S : cd_Sp} {m : Nat} (h : cd_MO w S m) : S.2.2 m 25 = some (m + 15) := (h.2.2 _ (List.mem_of_getElem? (i := 14) rfl)).1
theorem mo_s15 {w : cd_WT} {S : cd_Sp} {m : Nat} (h : cd_MO w S m) : S.2.1 (m + 15) = (2, 96) := (h.2.2 _ (List.mem_of_getElem? (i := 14) rfl)).2
theorem mo_l15 {w : cd_WT} {S : cd_Sp} {m : Nat} (h : cd_MO w S m) : w.1 ≤ m + 15 := Nat.le_trans h.1 (Nat.le_add_right _ _)
theorem mo_r16 {w : cd_WT} {S : cd_Sp} {m : Nat} (h : cd_MO w S m) : S.2.2 m 26 = some (m + 16) := (h.2.2 _ (List.mem_of_getElem? (i := 15) rfl)).1
theorem mo_s16 {w : cd_WT} {S : cd_Sp} {m : Nat} (h : cd_MO w S m) : S.2.1 (m + 16) = (2, 5) := (h.2.2 _ (List.mem_of_getElem? (i := 15) rfl)).2
theorem mo_l16 {w : cd_WT} {S : cd_Sp} {m : Nat} (h : cd_MO w S m) : w.1 ≤ m + 16 := Nat.le_trans h.1 (Nat.le_add_right _ _)
theorem mo_r17 {w : cd_WT} {S : cd_Sp} {m : Nat} (h : cd_MO w S m) : S.2.2 m 27 = some (m + 17) := (h.2.2 _ (List.mem_of_getElem? (i := 16) rfl)).1
theorem mo_s17 {w : cd_WT} {S : cd_Sp} {m : Nat} (h : cd_MO w S m) : S.2.1 (m + 17) = (2, 5) := (h.2.2 _ (List.mem_of_getElem? (i := 16) rfl)).2
theorem mo_l17 {w : cd_WT} {S : cd_Sp} {m : Nat} (h : cd_MO w S m) : w.1 ≤ m + 17 := Nat.le_trans h.1 (Nat.le_add_right _ _)
theorem mo_r18 {w : cd_WT} {S : cd_Sp} {m : Nat} (h : cd_MO w S m) : S.2.2 m 28 = some (m + 18) := (h.2.2 _ (List.mem_of_getElem? (i := 17) rfl)).1
theorem mo_s18 {w : cd_WT} {S : cd_Sp} {m : Nat} (h : cd_MO w S m) : S.2.1 (m + 18) = (2, 5) := (h.2.2 _ (List.mem_of_getElem? (i := 17) rfl)).2
theorem mo_l18 {w : cd_WT} {S : cd_Sp} {m : Nat} (h : cd_MO w S m) : w.1 ≤ m + 18 := Nat.le_trans h.1 (Nat.le_add_right _ _)
theorem mo_r19 {w : cd_WT} {S : cd_Sp} {m : Nat} (h : cd_MO w S m) : S.2.2 m 29 = some (m + 19) := (h.2.2 _ (List.mem_of_getElem? (i := 18) rfl)).1
theorem mo_s19 {w : cd_WT} {S : cd_Sp} {m : Nat} (h : cd_MO w S m) : S.2.1 (m + 19) = (2, 120) := (h.2.2 _ (List.mem_of_getElem? (i := 18) rfl)).2
theorem mo_l19 {w : cd_WT} {S : cd_Sp} {m : Nat} (h : cd_MO w S m) : w.1 ≤ m + 19 := Nat.le_trans h.1 (Nat.le_add_right _ _)
theorem mo_r20 {w : cd_WT} {S : cd_Sp} {m : Nat} (h : cd_MO w S m) : S.2.2 m 30 = some (m + 20) := (h.2.2 _ (List.mem_of_getElem? (i := 19) rfl)).1
theorem mo_s20 {w : cd_WT} {S : cd_Sp} {m : Nat} (h : cd_MO w S m) : S.2.1 (m + 20) = (2, 24) := (h.2.2 _ (List.mem_of_getElem? (i := 19) rfl)).2
theorem mo_l20 {w : cd_WT} {S : cd_Sp} {m : Nat} (h : cd_MO w S m) : w.1 ≤ m + 20 := Nat.le_trans h.1 (Nat.le_add_right _ _)
theorem mo_r21 {w : cd_WT} {S : cd_Sp} {m : Nat} (h : cd_MO w S m) : S.2.2 m 31 = some (m + 21) := (h.2.2 _ (List.mem_of_getElem? (i := 20) rfl)).1
theorem mo_s21 {w : cd_WT} {S : cd_Sp} {m : Nat} (h : cd_MO w S m) : S.2.1 (m + 21) = (2, 60) := (h.2.2 _ (List.mem_of_getElem? (i := 20) rfl)).2
theorem mo_l21 {w : cd_WT} {S : cd_Sp} {m : Nat} (h : cd_MO w S m) : w.1 ≤ m + 21 := Nat.le_trans h.1 (Nat.le_add_right _ _)
def cd_wi (v lo hi : Int32) : Int32 := if v < lo then lo else if hi < v then hi else v
abbrev cd_isA (N : Nat → Int32) (a : Int32) : Prop := nI 0 ≤ a ∧ a ≤ N 1 - nI 1
def cd_comes (N : Nat → Int32) (mm : Nat) (k h b e : Int32) : Nat → Int32 := upd (upd (upd (upd (upd (upd N 1 (nI (mm + 1))) (16 + 5 * mm + 0) k) (16 + 5 * mm + 1) h) (16 + 5 * mm + 2) b) (16 + 5 * mm + 3) e) (16 + 5 * mm + 4) (nI 0)
def cd_lim (q : Int32) : Int32 := if q = nI 1 then nI 23 else if q = nI 2 then nI 99 else nI 100
abbrev cd_isOf (q v : Int32) : Prop := nI 0 ≤ v ∧ v ≤ cd_lim q
def cd_lea (k : Int32) : Int32 := if k = nI 1 then nI 3 else if k = nI 3 then nI 12 else if k = nI 4 then nI 16 else if k = nI 5 then nI 15 else nI 8
def cd_fog (k : Int32) : Int32 := if k = nI 1 then nI 6 else if k = nI 3 then nI 6 else if k = nI 4 then nI 1 else if k = nI 5 then nI 9 else nI 4
def cd_scr (k : Int32) : Int32 := if k = nI 1 then nI 0 else if k = nI 3 then nI 7 else if k = nI 4 then nI 3 else if k = nI 5 then nI 1 else nI 2
def cd_mea (N : Nat → Int32) (i : Nat) : Int32 := if N (16 + 5 * i + 0) = nI 1 then N (16 + 5 * i + 3) / nI 2 else if N (16 + 5 * i + 0) = nI 2 then (if N 8 = nI 1 ∧ N 7 = 0 then nI 10 else N (16 + 5 * i + 3)) else if N (16 + 5 * i + 0) = nI 3 then (if N 7 = nI 1 then nI 100 else N (16 + 5 * i + 3) / nI 2) else if N (16 + 5 * i + 0) = nI 4 then (if N 8 = nI 1 ∧ N 7 = 0 then nI 10 else N (16 + 5 * i + 3)) else if N (16 + 5 * i + 0) = nI 5 then nI 0 else N (16 + 5 * i + 3)
def cd_wor (k b : Int32) : Int32 := if k = nI 1 then b + nI 6 else if k = nI 2 then nI 99 - b else if k = nI 3 then nI 2 * (b + nI 6) else if k = nI 4 then nI 91 - b else if k = nI 5 then nI 3 else b
abbrev cd_und (k q : Int32) : Prop := q = 0 ∨ k = q ∨ (q = nI 1 ∧ k = nI 3) ∨ (q = nI 2 ∧ k = nI 4)
def cd_z (z : Int32) : Int32 := z * 1103515245 + nI 12345
def cd_dr (N : Nat → Int32) : Nat → Int32 := upd N 0 (cd_z (N 0))
def cd_dv (N : Nat → Int32) : Int32 := cd_ush (cd_z (N 0)) (nI 8)
def cd_go (N : Nat → Int32) : Nat → Int32 := if nI 1 - N 7 = nI 1 then upd (upd N 7 (nI 1 - N 7)) 12 (N 12 + nI 1) else upd (upd N 7 (nI 1 - N 7)) 13 (N 13 + nI 1)
def cd_gm (N : Nat → Int32) (i : Nat) : Int32 × (Nat → Int32) := if cd_mea (cd_dr N) i ≤ cd_rem (cd_dv N) (nI 100) then (nI 0, cd_dr N) else (nI 1, cd_go (cd_dr N))
def cd_le1 (N : Nat → Int32) (i : Nat) : Nat → Int32 := upd N (16 + 5 * i + 4) (N (16 + 5 * i + 4) + nI 1)
def cd_le (N : Nat → Int32) (i : Nat) : Nat → Int32 := upd (cd_le1 N i) (16 + 5 * i + 2) (cd_wi (cd_le1 N i (16 + 5 * i + 2) + cd_lea (cd_le1 N i (16 + 5 * i + 0))) (nI 0) (nI 99))
def cd_ri (N : Nat → Int32) (i : Nat) : Int32 × (Nat → Int32) := cd_gm (cd_le (upd N 10 (N 10 + nI 1)) i) i
theorem d_M_in_0 : cd_D_iload b_M_in 0 0 1 := Or.inr ⟨0, ⟨by decide +kernel, rfl⟩, rfl⟩
theorem d_M_in_1 : cd_D_iload b_M_in 1 1 2 := Or.inr ⟨1, ⟨by decide +kernel, rfl⟩, rfl⟩
theorem d_M_in_2 : cd_D_icmp_lt b_M_in 2 14 5 := ⟨12, by decide +kernel, by decide, rfl⟩
theorem d_M_in_5 : cd_D_iload b_M_in 5 0 6 := Or.inr ⟨0, ⟨by decide +kernel, rfl⟩, rfl⟩
theorem d_M_in_6 : cd_D_iload b_M_in 6 2 7 := Or.inr ⟨2, ⟨by decide +kernel, rfl⟩, rfl⟩
theorem d_M_in_7 : cd_D_icmp_gt b_M_in 7 14 10 := ⟨7, by decide +kernel, by decide, rfl⟩
theorem d_M_in_10 : cd_Dk b_M_in 10 (nI 1) 11 := Or.inl ⟨1, ⟨by decide +kernel, rfl⟩, by decide +kernel⟩
theorem d_M_in_11 : cd_D_goto b_M_in 11 15 := ⟨4, by decide +kernel, by decide⟩
theorem d_M_in_14 : cd_Dk b_M_in 14 (nI 0) 15 := Or.inl ⟨0, ⟨by decide +kernel, rfl⟩, by decide +kernel⟩
theorem d_M_in_15 : cd_D 1 b_M_in 15 .ireturn 16 := ⟨by decide +kernel, rfl⟩
theorem c_M_in {l : Launch} {w : cd_WT} {S : cd_Sp} {I : cd_Mem} (x y z : Int32) : cd_C l w m_M_in 0 0 0 [.int x, .int y, .int z] S I (cd_Fi S (cd_bI (y ≤ x ∧ x ≤ z)) I) := by
  refine cd_intro (by decide) (by simp [Value.category]) (Nat.le_of_ble_eq_true rfl) ?_
  intro X hO hE
  show cd_J w X 0 0 S I 0 [some (.int x), some (.int y), some (.int z)] []
  refine r_iload hO d_M_in_0 rfl ?_
  refine r_iload hO d_M_in_1 rfl ?_
  refine r_icmp_lt hO d_M_in_2 (fun c_2 => ?_) (fun c_2 => ?_)
  · refine r_k hO d_M_in_14 ?_
    refine r_zret hO hE (by first | exact Or.inl rfl | exact Or.inr rfl) (Nat.zero_le _) (Nat.zero_le _) d_M_in_15 ?_
    first | exact cd_ret1 (by simp only [Int32.lt_iff_toInt_lt, Int32.le_iff_toInt_le] at *; omega) | exact cd_ret0 (by simp only [Int32.lt_iff_toInt_lt, Int32.le_iff_toInt_le] at *; omega)
  · refine r_iload hO d_M_in_5 rfl ?_
    refine r_iload hO d_M_in_6 rfl ?_
    refine r_icmp_gt hO d_M_in_7 (fun c_7 => ?_) (fun c_7 => ?_)
    · refine r_k hO d_M_in_14 ?_
      refine r_zret hO hE (by first | exact Or.inl rfl | exact Or.inr rfl) (Nat.zero_le _) (Nat.zero_le _) d_M_in_15 ?_
      first | exact cd_ret1 (by simp only [Int32.lt_iff_toInt_lt, Int32.le_iff_toInt_le] at *; omega) | exact cd_ret0 (by simp only [Int32.lt_iff_toInt_lt, Int32.le_iff_toInt_le] at *; omega)
    · refine r_k hO d_M_in_10 ?_
      refine r_goto hO d_M_in_11 ?_
      refine r_zret hO hE (by first | exact Or.inl rfl | exact Or.inr rfl) (Nat.zero_le _) (Nat.zero_le _) d_M_in_15 ?_
      first | exact cd_ret1 (by simp only [Int32.lt_iff_toInt_lt, Int32.le_iff_toInt_le] at *; omega) | exact cd_ret0 (by simp only [Int32.lt_iff_toInt_lt, Int32.le_iff_toInt_le] at *; omega)
theorem d_M_within_0 : cd_D_iload b_M_within 0 0 1 := Or.inr ⟨0, ⟨by decide +kernel, rfl⟩, rfl⟩
theorem d_M_within_1 : cd_D_iload b_M_within 1 1 2 := Or.inr ⟨1, ⟨by decide +kernel, rfl⟩, rfl⟩
theorem d_M_within_2 : cd_D_icmp_ge b_M_within 2 9 5 := ⟨7, by decide +kernel, by decide, rfl⟩
theorem d_M_within_5 : cd_D_iload b_M_within 5 1 6 := Or.inr ⟨1, ⟨by decide +kernel, rfl⟩, rfl⟩
theorem d_M_within_6 : cd_D_goto b_M_within 6 19 := ⟨13, by decide +kernel, by decide⟩
theorem d_M_within_9 : cd_D_iload b_M_within 9 0 10 := Or.inr ⟨0, ⟨by decide +kernel, rfl⟩, rfl⟩
theorem d_M_within_10 : cd_D_iload b_M_within 10 2 11 := Or.inr ⟨2, ⟨by decide +kernel, rfl⟩, rfl⟩
theorem d_M_within_11 : cd_D_icmp_le b_M_within 11 18 14 := ⟨7, by decide +kernel, by decide, rfl⟩
theorem d_M_within_14 : cd_D_iload b_M_within 14 2 15 := Or.inr ⟨2, ⟨by decide +kernel, rfl⟩, rfl⟩
theorem d_M_within_15 : cd_D_goto b_M_within 15 19 := ⟨4, by decide +kernel, by decide⟩
theorem d_M_within_18 : cd_D_iload b_M_within 18 0 19 := Or.inr ⟨0, ⟨by decide +kernel, rfl⟩, rfl⟩
theorem d_M_within_19 : cd_D 1 b_M_within 19 .ireturn 20 := ⟨by decide +kernel, rfl⟩
theorem c_M_within {l : Launch} {w : cd_WT} {S : cd_Sp} {I : cd_Mem} (x y z : Int32) : cd_C l w m_M_within 0 0 0 [.int x, .int y, .int z] S I (cd_Fi S (cd_wi x y z) I) := by
  refine cd_intro (by decide) (by simp [Value.category]) (Nat.le_of_ble_eq_true rfl) ?_
  intro X hO hE
  show cd_J w X 0 0 S I 0 [some (.int x), some (.int y), some (.int z)] []
  refine r_iload hO d_M_within_0 rfl ?_
  refine r_iload hO d_M_within_1 rfl ?_
  refine r_icmp_ge hO d_M_within_2 (fun c_2 => ?_) (fun c_2 => ?_)
  · refine r_iload hO d_M_within_9 rfl ?_
    refine r_iload hO d_M_within_10 rfl ?_
    refine r_icmp_le hO d_M_within_11 (fun c_11 => ?_) (fun c_11 => ?_)
    · refine r_iload hO d_M_within_18 rfl ?_
      refine r_iret hO hE (Nat.zero_le _) (Nat.zero_le _) d_M_within_19 ?_
      exact ⟨by unfold cd_wi; (repeat' split) <;> first | rfl | contradiction | (exfalso; simp only [Int32.lt_iff_toInt_lt, Int32.le_iff_toInt_le] at *; omega), rfl, rfl⟩
    · refine r_iload hO d_M_within_14 rfl ?_
      refine r_goto hO d_M_within_15 ?_
      refine r_iret hO hE (Nat.zero_le _) (Nat.zero_le _) d_M_within_19 ?_
      exact ⟨by unfold cd_wi; (repeat' split) <;> first | rfl | contradiction | (exfalso; simp only [Int32.lt_iff_toInt_lt, Int32.le_iff_toInt_le] at *; omega), rfl, rfl⟩
  · refine r_iload hO d_M_within_5 rfl ?_
    refine r_goto hO d_M_within_6 ?_
    refine r_iret hO hE (Nat.zero_le _) (Nat.zero_le _) d_M_within_19 ?_
    exact ⟨by unfold cd_wi; (repeat' split) <;> first | rfl | contradiction | (exfalso; simp only [Int32.lt_iff_toInt_lt, Int32.le_iff_toInt_le] at *; omega), rfl, rfl⟩
theorem d_M_of_0 : cd_D_aload b_M_of 0 0 1 := Or.inr ⟨0, ⟨by decide +kernel, rfl⟩, rfl⟩
theorem d_M_of_1 : cd_D 3 b_M_of 1 (.getfield 9) 4 := ⟨by decide +kernel, rfl⟩
theorem d_M_of_4 : cd_Dk b_M_of 4 (nI 16) 6 := Or.inr (Or.inl ⟨16, ⟨by decide +kernel, rfl⟩, by decide +kernel⟩)
theorem d_M_of_6 : cd_Dk b_M_of 6 (nI 5) 7 := Or.inl ⟨5, ⟨by decide +kernel, rfl⟩, by decide +kernel⟩
theorem d_M_of_7 : cd_D_iload b_M_of 7 1 8 := Or.inr ⟨1, ⟨by decide +kernel, rfl⟩, rfl⟩
theorem d_M_of_8 : cd_D 1 b_M_of 8 .imul 9 := ⟨by decide +kernel, rfl⟩
theorem d_M_of_9 : cd_D 1 b_M_of 9 .iadd 10 := ⟨by decide +kernel, rfl⟩
theorem d_M_of_10 : cd_D_iload b_M_of 10 2 11 := Or.inr ⟨2, ⟨by decide +kernel, rfl⟩, rfl⟩
theorem d_M_of_11 : cd_D 1 b_M_of 11 .iadd 12 := ⟨by decide +kernel, rfl⟩
theorem d_M_of_12 : cd_D 1 b_M_of 12 .iaload 13 := ⟨by decide +kernel, rfl⟩
theorem d_M_of_13 : cd_D 1 b_M_of 13 .ireturn 14 := ⟨by decide +kernel, rfl⟩
theorem c_M_of {l : Launch} {w : cd_WT} {S : cd_Sp} {I : cd_Mem} {m : Nat} (hM : cd_MO w S m) (i q : Nat) (h : 16 + 5 * i + q < 1448) : cd_C l w m_M_of 0 0 0 [.ref m, .int (nI i), .int (nI q)] S I (cd_Fi S (I (m + 1) (16 + 5 * i + q)) I) := by
  refine cd_intro (by decide) (by simp [Value.category]) (Nat.le_of_ble_eq_true rfl) ?_
  intro X hO hE
  show cd_J w X 0 0 S I 0 [some (.ref m), some (.int (nI i)), some (.int (nI q))] []
  refine r_aload hO d_M_of_0 rfl ?_
  refine r_getR hO f_M_9 rfl hM.2.1 (mo_r1 hM) d_M_of_1 ?_
  refine r_k hO d_M_of_4 ?_
  refine r_k hO d_M_of_6 ?_
  refine r_iload hO d_M_of_7 rfl ?_
  refine r_imulN hO d_M_of_8 ?_
  refine r_iaddN hO d_M_of_9 ?_
  refine r_iload hO d_M_of_10 rfl ?_
  refine r_iaddN hO d_M_of_11 ?_
  refine r_iald hO (mo_s1 hM) (by omega) (by decide) d_M_of_12 ?_
  refine r_iret hO hE (Nat.zero_le _) (Nat.zero_le _) d_M_of_13 ?_
  exact ⟨rfl, rfl, rfl⟩
theorem d_M_put_0 : cd_D_aload b_M_put 0 0 1 := Or.inr ⟨0, ⟨by decide +kernel, rfl⟩, rfl⟩
theorem d_M_put_1 : cd_D 3 b_M_put 1 (.getfield 9) 4 := ⟨by decide +kernel, rfl⟩
theorem d_M_put_4 : cd_Dk b_M_put 4 (nI 16) 6 := Or.inr (Or.inl ⟨16, ⟨by decide +kernel, rfl⟩, by decide +kernel⟩)
theorem d_M_put_6 : cd_Dk b_M_put 6 (nI 5) 7 := Or.inl ⟨5, ⟨by decide +kernel, rfl⟩, by decide +kernel⟩
theorem d_M_put_7 : cd_D_iload b_M_put 7 1 8 := Or.inr ⟨1, ⟨by decide +kernel, rfl⟩, rfl⟩
theorem d_M_put_8 : cd_D 1 b_M_put 8 .imul 9 := ⟨by decide +kernel, rfl⟩
theorem d_M_put_9 : cd_D 1 b_M_put 9 .iadd 10 := ⟨by decide +kernel, rfl⟩
theorem d_M_put_10 : cd_D_iload b_M_put 10 2 11 := Or.inr ⟨2, ⟨by decide +kernel, rfl⟩, rfl⟩
theorem d_M_put_11 : cd_D 1 b_M_put 11 .iadd 12 := ⟨by decide +kernel, rfl⟩
theorem d_M_put_12 : cd_D_iload b_M_put 12 3 13 := Or.inr ⟨3, ⟨by decide +kernel, rfl⟩, rfl⟩
theorem d_M_put_13 : cd_D 1 b_M_put 13 .iastore 14 := ⟨by decide +kernel, rfl⟩
theorem d_M_put_14 : cd_D 1 b_M_put 14 .return_ 15 := ⟨by decide +kernel, rfl⟩
theorem c_M_put {l : Launch} {w : cd_WT} {S : cd_Sp} {I : cd_Mem} {m : Nat} (hM : cd_MO w S m) (i q : Nat) (v : Int32) (h : 16 + 5 * i + q < 1448) : cd_C l w m_M_put 0 0 0 [.ref m, .int (nI i), .int (nI q), .int v] S I (cd_Fv S (cd_set I (m + 1) (upd (I (m + 1)) (16 + 5 * i + q) v))) := by
  refine cd_intro (by decide) (by simp [Value.category]) (Nat.le_of_ble_eq_true rfl) ?_
  intro X hO hE
  show cd_J w X 0 0 S I 0 [some (.ref m), some (.int (nI i)), some (.int (nI q)), some (.int v)] []
  refine r_aload hO d_M_put_0 rfl ?_
  refine r_getR hO f_M_9 rfl hM.2.1 (mo_r1 hM) d_M_put_1 ?_
  refine r_k hO d_M_put_4 ?_
  refine r_k hO d_M_put_6 ?_
  refine r_iload hO d_M_put_7 rfl ?_
  refine r_imulN hO d_M_put_8 ?_
  refine r_iaddN hO d_M_put_9 ?_
  refine r_iload hO d_M_put_10 rfl ?_
  refine r_iaddN hO d_M_put_11 ?_
  refine r_iload hO d_M_put_12 rfl ?_
  refine r_iast hO (mo_s1 hM) (mo_l1 hM) (by omega) (by decide) d_M_put_13 ?_
  refine r_vret hO hE (Nat.zero_le _) (Nat.zero_le _) d_M_put_14 ?_
  exact ⟨rfl, rfl, rfl⟩
theorem d_M_becomes_0 : cd_D_aload b_M_becomes 0 0 1 := Or.inr ⟨0, ⟨by decide +kernel, rfl⟩, rfl⟩
theorem d_M_becomes_1 : cd_D 3 b_M_becomes 1 (.getfield 9) 4 := ⟨by decide +kernel, rfl⟩
theorem d_M_becomes_4 : cd_D_iload b_M_becomes 4 1 5 := Or.inr ⟨1, ⟨by decide +kernel, rfl⟩, rfl⟩
theorem d_M_becomes_5 : cd_D 1 b_M_becomes 5 .iaload 6 := ⟨by decide +kernel, rfl⟩
theorem d_M_becomes_6 : cd_D_istore b_M_becomes 6 3 7 := Or.inr ⟨3, ⟨by decide +kernel, rfl⟩, rfl⟩
theorem d_M_becomes_7 : cd_D_aload b_M_becomes 7 0 8 := Or.inr ⟨0, ⟨by decide +kernel, rfl⟩, rfl⟩
theorem d_M_becomes_8 : cd_D 3 b_M_becomes 8 (.getfield 9) 11 := ⟨by decide +kernel, rfl⟩
theorem d_M_becomes_11 : cd_D_iload b_M_becomes 11 1 12 := Or.inr ⟨1, ⟨by decide +kernel, rfl⟩, rfl⟩
theorem d_M_becomes_12 : cd_D_iload b_M_becomes 12 2 13 := Or.inr ⟨2, ⟨by decide +kernel, rfl⟩, rfl⟩
theorem d_M_becomes_13 : cd_D 1 b_M_becomes 13 .iastore 14 := ⟨by decide +kernel, rfl⟩
theorem d_M_becomes_14 : cd_D_iload b_M_becomes 14 3 15 := Or.inr ⟨3, ⟨by decide +kernel, rfl⟩, rfl⟩
theorem d_M_becomes_15 : cd_D 1 b_M_becomes 15 .ireturn 16 := ⟨by decide +kernel, rfl⟩
theorem c_M_becomes {l : Launch} {w : cd_WT} {S : cd_Sp} {I : cd_Mem} {m : Nat} (hM : cd_MO w S m) (j : Nat) (v : Int32) (h : j < 1448) : cd_C l w m_M_becomes 0 0 0 [.ref m, .int (nI j), .int v] S I (cd_Fi S (I (m + 1) j) (cd_set I (m + 1) (upd (I (m + 1)) j v))) := by
  refine cd_intro (by decide) (by simp [Value.category]) (Nat.le_of_ble_eq_true rfl) ?_
  intro X hO hE
  show cd_J w X 0 0 S I 0 [some (.ref m), some (.int (nI j)), some (.int v), none] []
  refine r_aload hO d_M_becomes_0 rfl ?_
  refine r_getR hO f_M_9 rfl hM.2.1 (mo_r1 hM) d_M_becomes_1 ?_
  refine r_iload hO d_M_becomes_4 rfl ?_
  refine r_iald hO (mo_s1 hM) (by omega) (by decide) d_M_becomes_5 ?_
  refine r_sI3 hO d_M_becomes_6 rfl ?_
  refine r_aload hO d_M_becomes_7 rfl ?_
  refine r_getR hO f_M_9 rfl hM.2.1 (mo_r1 hM) d_M_becomes_8 ?_
  refine r_iload hO d_M_becomes_11 rfl ?_
  refine r_iload hO d_M_becomes_12 rfl ?_
  refine r_iast hO (mo_s1 hM) (mo_l1 hM) (by omega) (by decide) d_M_becomes_13 ?_
  refine r_iload hO d_M_becomes_14 rfl ?_
  refine r_iret hO hE (Nat.zero_le _) (Nat.zero_le _) d_M_becomes_15 ?_
  exact ⟨rfl, rfl, rfl⟩
theorem d_M_isAsking_0 : cd_D_iload b_M_isAsking 0 1 1 := Or.inr ⟨1, ⟨by decide +kernel, rfl⟩, rfl⟩
theorem d_M_isAsking_1 : cd_Dk b_M_isAsking 1 (nI 0) 2 := Or.inl ⟨0, ⟨by decide +kernel, rfl⟩, by decide +kernel⟩
theorem d_M_isAsking_2 : cd_D_aload b_M_isAsking 2 0 3 := Or.inr ⟨0, ⟨by decide +kernel, rfl⟩, rfl⟩
theorem d_M_isAsking_3 : cd_D 3 b_M_isAsking 3 (.getfield 9) 6 := ⟨by decide +kernel, rfl⟩
theorem d_M_isAsking_6 : cd_Dk b_M_isAsking 6 (nI 1) 7 := Or.inl ⟨1, ⟨by decide +kernel, rfl⟩, by decide +kernel⟩
theorem d_M_isAsking_7 : cd_D 1 b_M_isAsking 7 .iaload 8 := ⟨by decide +kernel, rfl⟩
theorem d_M_isAsking_8 : cd_Dk b_M_isAsking 8 (nI 1) 9 := Or.inl ⟨1, ⟨by decide +kernel, rfl⟩, by decide +kernel⟩
theorem d_M_isAsking_9 : cd_D 1 b_M_isAsking 9 .isub 10 := ⟨by decide +kernel, rfl⟩
theorem d_M_isAsking_10 : cd_D 3 b_M_isAsking 10 (.invokestatic 75) 13 := ⟨by decide +kernel, rfl⟩
theorem d_M_isAsking_13 : cd_D 1 b_M_isAsking 13 .ireturn 14 := ⟨by decide +kernel, rfl⟩
theorem c_M_isAsking {l : Launch} {w : cd_WT} {S : cd_Sp} {I : cd_Mem} {m : Nat} (hM : cd_MO w S m) (a : Int32) : cd_C l w m_M_isAsking 1 0 0 [.ref m, .int a] S I (cd_Fi S (cd_bI (cd_isA (I (m + 1)) a)) I) := by
  refine cd_intro (by decide) (by simp [Value.category]) (Nat.le_of_ble_eq_true rfl) ?_
  intro X hO hE
  show cd_J w X 0 0 S I 0 [some (.ref m), some (.int a)] []
  refine r_iload hO d_M_isAsking_0 rfl ?_
  refine r_k hO d_M_isAsking_1 ?_
  refine r_aload hO d_M_isAsking_2 rfl ?_
  refine r_getR hO f_M_9 rfl hM.2.1 (mo_r1 hM) d_M_isAsking_3 ?_
  refine r_k hO d_M_isAsking_6 ?_
  refine r_iald hO (mo_s1 hM) (by omega) (by decide) d_M_isAsking_7 ?_
  refine r_k hO d_M_isAsking_8 ?_
  refine r_isub hO d_M_isAsking_9 ?_
  refine r_cS3fi hO hE (c_M_in _ _ _) mf_M_in lk_M_75 (by decide) rfl (Nat.le_of_ble_eq_true rfl) d_M_isAsking_10 (Nat.zero_le _) (Nat.zero_le _) ?_
  refine r_zret hO hE (by unfold cd_bI; split; exact Or.inr rfl; exact Or.inl rfl) (Nat.zero_le _) (Nat.zero_le _) d_M_isAsking_13 ?_
  exact ⟨rfl, rfl, rfl⟩
theorem d_M_isOf_0 : cd_D_iload b_M_isOf 0 1 1 := Or.inr ⟨1, ⟨by decide +kernel, rfl⟩, rfl⟩
theorem d_M_isOf_1 : cd_Dk b_M_isOf 1 (nI 0) 2 := Or.inl ⟨0, ⟨by decide +kernel, rfl⟩, by decide +kernel⟩
theorem d_M_isOf_2 : cd_D_iload b_M_isOf 2 0 3 := Or.inr ⟨0, ⟨by decide +kernel, rfl⟩, rfl⟩
theorem d_M_isOf_3 : cd_Dk b_M_isOf 3 (nI 1) 4 := Or.inl ⟨1, ⟨by decide +kernel, rfl⟩, by decide +kernel⟩
theorem d_M_isOf_4 : cd_D_icmp_ne b_M_isOf 4 12 7 := ⟨8, by decide +kernel, by decide, rfl⟩
theorem d_M_isOf_7 : cd_Dk b_M_isOf 7 (nI 23) 9 := Or.inr (Or.inl ⟨23, ⟨by decide +kernel, rfl⟩, by decide +kernel⟩)
theorem d_M_isOf_9 : cd_D_goto b_M_isOf 9 24 := ⟨15, by decide +kernel, by decide⟩
theorem d_M_isOf_12 : cd_D_iload b_M_isOf 12 0 13 := Or.inr ⟨0, ⟨by decide +kernel, rfl⟩, rfl⟩
theorem d_M_isOf_13 : cd_Dk b_M_isOf 13 (nI 2) 14 := Or.inl ⟨2, ⟨by decide +kernel, rfl⟩, by decide +kernel⟩
theorem d_M_isOf_14 : cd_D_icmp_ne b_M_isOf 14 22 17 := ⟨8, by decide +kernel, by decide, rfl⟩
theorem d_M_isOf_17 : cd_Dk b_M_isOf 17 (nI 99) 19 := Or.inr (Or.inl ⟨99, ⟨by decide +kernel, rfl⟩, by decide +kernel⟩)
theorem d_M_isOf_19 : cd_D_goto b_M_isOf 19 24 := ⟨5, by decide +kernel, by decide⟩
theorem d_M_isOf_22 : cd_Dk b_M_isOf 22 (nI 100) 24 := Or.inr (Or.inl ⟨100, ⟨by decide +kernel, rfl⟩, by decide +kernel⟩)
theorem d_M_isOf_24 : cd_D 3 b_M_isOf 24 (.invokestatic 75) 27 := ⟨by decide +kernel, rfl⟩
theorem d_M_isOf_27 : cd_D 1 b_M_isOf 27 .ireturn 28 := ⟨by decide +kernel, rfl⟩
theorem c_M_isOf {l : Launch} {w : cd_WT} {S : cd_Sp} {I : cd_Mem} (q v : Int32) : cd_C l w m_M_isOf 1 0 0 [.int q, .int v] S I (cd_Fi S (cd_bI (cd_isOf q v)) I) := by
  refine cd_intro (by decide) (by simp [Value.category]) (Nat.le_of_ble_eq_true rfl) ?_
  intro X hO hE
  show cd_J w X 0 0 S I 0 [some (.int q), some (.int v)] []
  refine r_iload hO d_M_isOf_0 rfl ?_
  refine r_k hO d_M_isOf_1 ?_
  refine r_iload hO d_M_isOf_2 rfl ?_
  refine r_k hO d_M_isOf_3 ?_
  refine r_icmp_ne hO d_M_isOf_4 (fun c_4 => ?_) (fun c_4 => ?_)
  · refine r_iload hO d_M_isOf_12 rfl ?_
    refine r_k hO d_M_isOf_13 ?_
    refine r_icmp_ne hO d_M_isOf_14 (fun c_14 => ?_) (fun c_14 => ?_)
    · refine r_k hO d_M_isOf_22 ?_
      refine r_cS3fi hO hE (c_M_in _ _ _) mf_M_in lk_M_75 (by decide) rfl (Nat.le_of_ble_eq_true rfl) d_M_isOf_24 (Nat.zero_le _) (Nat.zero_le _) ?_
      refine r_zret hO hE (by unfold cd_bI; split; exact Or.inr rfl; exact Or.inl rfl) (Nat.zero_le _) (Nat.zero_le _) d_M_isOf_27 ?_
      exact ⟨by simp only [cd_isOf, cd_lim, *, if_true, if_false, show ¬ nI 2 = nI 1 by decide], rfl, rfl⟩
    · refine r_k hO d_M_isOf_17 ?_
      refine r_goto hO d_M_isOf_19 ?_
      refine r_cS3fi hO hE (c_M_in _ _ _) mf_M_in lk_M_75 (by decide) rfl (Nat.le_of_ble_eq_true rfl) d_M_isOf_24 (Nat.zero_le _) (Nat.zero_le _) ?_
      refine r_zret hO hE (by unfold cd_bI; split; exact Or.inr rfl; exact Or.inl rfl) (Nat.zero_le _) (Nat.zero_le _) d_M_isOf_27 ?_
      exact ⟨by simp only [cd_isOf, cd_lim, *, if_true, if_false, show ¬ nI 2 = nI 1 by decide], rfl, rfl⟩
  · refine r_k hO d_M_isOf_7 ?_
    refine r_goto hO d_M_isOf_9 ?_
    refine r_cS3fi hO hE (c_M_in _ _ _) mf_M_in lk_M_75 (by decide) rfl (Nat.le_of_ble_eq_true rfl) d_M_isOf_24 (Nat.zero_le _) (Nat.zero_le _) ?_
    refine r_zret hO hE (by unfold cd_bI; split; exact Or.inr rfl; exact Or.inl rfl) (Nat.zero_le _) (Nat.zero_le _) d_M_isOf_27 ?_
    exact ⟨by simp only [cd_isOf, cd_lim, *, if_true, if_false, show ¬ nI 2 = nI 1 by decide], rfl, rfl⟩
theorem d_M_comes_0 : cd_D_aload b_M_comes 0 0 1 := Or.inr ⟨0, ⟨by decide +kernel, rfl⟩, rfl⟩
theorem d_M_comes_1 : cd_D 3 b_M_comes 1 (.getfield 9) 4 := ⟨by decide +kernel, rfl⟩
theorem d_M_comes_4 : cd_Dk b_M_comes 4 (nI 1) 5 := Or.inl ⟨1, ⟨by decide +kernel, rfl⟩, by decide +kernel⟩
theorem d_M_comes_5 : cd_D 1 b_M_comes 5 .iaload 6 := ⟨by decide +kernel, rfl⟩
theorem d_M_comes_6 : cd_D_istore b_M_comes 6 5 8 := Or.inl ⟨by decide +kernel, rfl⟩
theorem d_M_comes_8 : cd_D_aload b_M_comes 8 0 9 := Or.inr ⟨0, ⟨by decide +kernel, rfl⟩, rfl⟩
theorem d_M_comes_9 : cd_D 3 b_M_comes 9 (.getfield 9) 12 := ⟨by decide +kernel, rfl⟩
theorem d_M_comes_12 : cd_Dk b_M_comes 12 (nI 1) 13 := Or.inl ⟨1, ⟨by decide +kernel, rfl⟩, by decide +kernel⟩
theorem d_M_comes_13 : cd_D 1 b_M_comes 13 .dup2 14 := ⟨by decide +kernel, rfl⟩
theorem d_M_comes_14 : cd_D 1 b_M_comes 14 .iaload 15 := ⟨by decide +kernel, rfl⟩
theorem d_M_comes_15 : cd_Dk b_M_comes 15 (nI 1) 16 := Or.inl ⟨1, ⟨by decide +kernel, rfl⟩, by decide +kernel⟩
theorem d_M_comes_16 : cd_D 1 b_M_comes 16 .iadd 17 := ⟨by decide +kernel, rfl⟩
theorem d_M_comes_17 : cd_D 1 b_M_comes 17 .iastore 18 := ⟨by decide +kernel, rfl⟩
theorem d_M_comes_18 : cd_D_aload b_M_comes 18 0 19 := Or.inr ⟨0, ⟨by decide +kernel, rfl⟩, rfl⟩
theorem d_M_comes_19 : cd_D_iload b_M_comes 19 5 21 := Or.inl ⟨by decide +kernel, rfl⟩
theorem d_M_comes_21 : cd_Dk b_M_comes 21 (nI 0) 22 := Or.inl ⟨0, ⟨by decide +kernel, rfl⟩, by decide +kernel⟩
theorem d_M_comes_22 : cd_D_iload b_M_comes 22 1 23 := Or.inr ⟨1, ⟨by decide +kernel, rfl⟩, rfl⟩
theorem d_M_comes_23 : cd_D 3 b_M_comes 23 (.invokevirtual 79) 26 := ⟨by decide +kernel, rfl⟩
theorem d_M_comes_26 : cd_D_aload b_M_comes 26 0 27 := Or.inr ⟨0, ⟨by decide +kernel, rfl⟩, rfl⟩
theorem d_M_comes_27 : cd_D_iload b_M_comes 27 5 29 := Or.inl ⟨by decide +kernel, rfl⟩
theorem d_M_comes_29 : cd_Dk b_M_comes 29 (nI 1) 30 := Or.inl ⟨1, ⟨by decide +kernel, rfl⟩, by decide +kernel⟩
theorem d_M_comes_30 : cd_D_iload b_M_comes 30 2 31 := Or.inr ⟨2, ⟨by decide +kernel, rfl⟩, rfl⟩
theorem d_M_comes_31 : cd_D 3 b_M_comes 31 (.invokevirtual 79) 34 := ⟨by decide +kernel, rfl⟩
theorem d_M_comes_34 : cd_D_aload b_M_comes 34 0 35 := Or.inr ⟨0, ⟨by decide +kernel, rfl⟩, rfl⟩
theorem d_M_comes_35 : cd_D_iload b_M_comes 35 5 37 := Or.inl ⟨by decide +kernel, rfl⟩
theorem d_M_comes_37 : cd_Dk b_M_comes 37 (nI 2) 38 := Or.inl ⟨2, ⟨by decide +kernel, rfl⟩, by decide +kernel⟩
theorem d_M_comes_38 : cd_D_iload b_M_comes 38 3 39 := Or.inr ⟨3, ⟨by decide +kernel, rfl⟩, rfl⟩
theorem d_M_comes_39 : cd_D 3 b_M_comes 39 (.invokevirtual 79) 42 := ⟨by decide +kernel, rfl⟩
theorem d_M_comes_42 : cd_D_aload b_M_comes 42 0 43 := Or.inr ⟨0, ⟨by decide +kernel, rfl⟩, rfl⟩
theorem d_M_comes_43 : cd_D_iload b_M_comes 43 5 45 := Or.inl ⟨by decide +kernel, rfl⟩
theorem d_M_comes_45 : cd_Dk b_M_comes 45 (nI 3) 46 := Or.inl ⟨3, ⟨by decide +kernel, rfl⟩, by decide +kernel⟩
theorem d_M_comes_46 : cd_D_iload b_M_comes 46 4 48 := Or.inl ⟨by decide +kernel, rfl⟩
theorem d_M_comes_48 : cd_D 3 b_M_comes 48 (.invokevirtual 79) 51 := ⟨by decide +kernel, rfl⟩
theorem d_M_comes_51 : cd_D_aload b_M_comes 51 0 52 := Or.inr ⟨0, ⟨by decide +kernel, rfl⟩, rfl⟩
theorem d_M_comes_52 : cd_D_iload b_M_comes 52 5 54 := Or.inl ⟨by decide +kernel, rfl⟩
theorem d_M_comes_54 : cd_Dk b_M_comes 54 (nI 4) 55 := Or.inl ⟨4, ⟨by decide +kernel, rfl⟩, by decide +kernel⟩
theorem d_M_comes_55 : cd_Dk b_M_comes 55 (nI 0) 56 := Or.inl ⟨0, ⟨by decide +kernel, rfl⟩, by decide +kernel⟩
theorem d_M_comes_56 : cd_D 3 b_M_comes 56 (.invokevirtual 79) 59 := ⟨by decide +kernel, rfl⟩
theorem d_M_comes_59 : cd_D_iload b_M_comes 59 5 61 := Or.inl ⟨by decide +kernel, rfl⟩
theorem d_M_comes_61 : cd_D 1 b_M_comes 61 .ireturn 62 := ⟨by decide +kernel, rfl⟩
theorem c_M_comes {l : Launch} {w : cd_WT} {S : cd_Sp} {I : cd_Mem} {m : Nat} (hM : cd_MO w S m) (mm : Nat) (hN : I (m + 1) 1 = nI mm) (hm : mm < 12) (k h b e : Int32) : cd_C l w m_M_comes 1 0 0 [.ref m, .int k, .int h, .int b, .int e] S I (cd_Fi S (nI mm) (cd_set I (m + 1) (cd_comes (I (m + 1)) mm k h b e))) := by
  refine cd_intro (by decide) (by simp [Value.category]) (Nat.le_of_ble_eq_true rfl) ?_
  intro X hO hE
  show cd_J w X 0 0 S I 0 [some (.ref m), some (.int k), some (.int h), some (.int b), some (.int e), none] []
  refine r_aload hO d_M_comes_0 rfl ?_
  refine r_getR hO f_M_9 rfl hM.2.1 (mo_r1 hM) d_M_comes_1 ?_
  refine r_k hO d_M_comes_4 ?_
  refine r_iald hO (mo_s1 hM) (by omega) (by decide) d_M_comes_5 ?_
  refine r_tops hN ?_
  refine r_sI5 hO d_M_comes_6 rfl ?_
  refine r_aload hO d_M_comes_8 rfl ?_
  refine r_getR hO f_M_9 rfl hM.2.1 (mo_r1 hM) d_M_comes_9 ?_
  refine r_k hO d_M_comes_12 ?_
  refine r_dup2 hO d_M_comes_13 rfl rfl ?_
  refine r_iald hO (mo_s1 hM) (by omega) (by decide) d_M_comes_14 ?_
  refine r_tops hN ?_
  refine r_k hO d_M_comes_15 ?_
  refine r_iaddN hO d_M_comes_16 ?_
  refine r_iast hO (mo_s1 hM) (mo_l1 hM) (by omega) (by decide) d_M_comes_17 ?_
  refine r_aload hO d_M_comes_18 rfl ?_
  refine r_iload hO d_M_comes_19 rfl ?_
  refine r_k hO d_M_comes_21 ?_
  refine r_iload hO d_M_comes_22 rfl ?_
  refine r_cV3fv hO hE (c_M_put hM _ _ _ (by omega)) mf_M_put lk_M_79 hM.2.1 rfl (by decide) rfl (Nat.le_of_ble_eq_true rfl) d_M_comes_23 (Nat.zero_le _) (Nat.zero_le _) ?_
  try simp only [cd_set_eq, cd_set_set]
  refine r_aload hO d_M_comes_26 rfl ?_
  refine r_iload hO d_M_comes_27 rfl ?_
  refine r_k hO d_M_comes_29 ?_
  refine r_iload hO d_M_comes_30 rfl ?_
  refine r_cV3fv hO hE (c_M_put hM _ _ _ (by omega)) mf_M_put lk_M_79 hM.2.1 rfl (by decide) rfl (Nat.le_of_ble_eq_true rfl) d_M_comes_31 (Nat.zero_le _) (Nat.zero_le _) ?_
  try simp only [cd_set_eq, cd_set_set]
  refine r_aload hO d_M_comes_34 rfl ?_
  refine r_iload hO d_M_comes_35 rfl ?_
  refine r_k hO d_M_comes_37 ?_
  refine r_iload hO d_M_comes_38 rfl ?_
  refine r_cV3fv hO hE (c_M_put hM _ _ _ (by omega)) mf_M_put lk_M_79 hM.2.1 rfl (by decide) rfl (Nat.le_of_ble_eq_true rfl) d_M_comes_39 (Nat.zero_le _) (Nat.zero_le _) ?_
  try simp only [cd_set_eq, cd_set_set]
  refine r_aload hO d_M_comes_42 rfl ?_
  refine r_iload hO d_M_comes_43 rfl ?_
  refine r_k hO d_M_comes_45 ?_
  refine r_iload hO d_M_comes_46 rfl ?_
  refine r_cV3fv hO hE (c_M_put hM _ _ _ (by omega)) mf_M_put lk_M_79 hM.2.1 rfl (by decide) rfl (Nat.le_of_ble_eq_true rfl) d_M_comes_48 (Nat.zero_le _) (Nat.zero_le _) ?_
  try simp only [cd_set_eq, cd_set_set]
  refine r_aload hO d_M_comes_51 rfl ?_
  refine r_iload hO d_M_comes_52 rfl ?_
  refine r_k hO d_M_comes_54 ?_
  refine r_k hO d_M_comes_55 ?_
  refine r_cV3fv hO hE (c_M_put hM _ _ _ (by omega)) mf_M_put lk_M_79 hM.2.1 rfl (by decide) rfl (Nat.le_of_ble_eq_true rfl) d_M_comes_56 (Nat.zero_le _) (Nat.zero_le _) ?_
  try simp only [cd_set_eq, cd_set_set]
  refine r_iload hO d_M_comes_59 rfl ?_
  refine r_iret hO hE (Nat.zero_le _) (Nat.zero_le _) d_M_comes_61 ?_
  exact ⟨rfl, rfl, rfl⟩
theorem d_M_learnsOf_0 : cd_D_aload b_M_learnsOf 0 0 1 := Or.inr ⟨0, ⟨by decide +kernel, rfl⟩, rfl⟩
theorem d_M_learnsOf_1 : cd_D_iload b_M_learnsOf 1 1 2 := Or.inr ⟨1, ⟨by decide +kernel, rfl⟩, rfl⟩
theorem d_M_learnsOf_2 : cd_Dk b_M_learnsOf 2 (nI 0) 3 := Or.inl ⟨0, ⟨by decide +kernel, rfl⟩, by decide +kernel⟩
theorem d_M_learnsOf_3 : cd_D 3 b_M_learnsOf 3 (.invokevirtual 97) 6 := ⟨by decide +kernel, rfl⟩
theorem d_M_learnsOf_6 : decode b_M_learnsOf 6 = .ok (.tableswitch (45) (1) (5) #[34, 45, 36, 39, 42], 34) := by decide +kernel
theorem d_M_learnsOf_40 : cd_Dk b_M_learnsOf 40 (nI 3) 41 := Or.inl ⟨3, ⟨by decide +kernel, rfl⟩, by decide +kernel⟩
theorem d_M_learnsOf_41 : cd_D 1 b_M_learnsOf 41 .ireturn 42 := ⟨by decide +kernel, rfl⟩
theorem d_M_learnsOf_42 : cd_Dk b_M_learnsOf 42 (nI 12) 44 := Or.inr (Or.inl ⟨12, ⟨by decide +kernel, rfl⟩, by decide +kernel⟩)
theorem d_M_learnsOf_44 : cd_D 1 b_M_learnsOf 44 .ireturn 45 := ⟨by decide +kernel, rfl⟩
theorem d_M_learnsOf_45 : cd_Dk b_M_learnsOf 45 (nI 16) 47 := Or.inr (Or.inl ⟨16, ⟨by decide +kernel, rfl⟩, by decide +kernel⟩)
theorem d_M_learnsOf_47 : cd_D 1 b_M_learnsOf 47 .ireturn 48 := ⟨by decide +kernel, rfl⟩
theorem d_M_learnsOf_48 : cd_Dk b_M_learnsOf 48 (nI 15) 50 := Or.inr (Or.inl ⟨15, ⟨by decide +kernel, rfl⟩, by decide +kernel⟩)
theorem d_M_learnsOf_50 : cd_D 1 b_M_learnsOf 50 .ireturn 51 := ⟨by decide +kernel, rfl⟩
theorem d_M_learnsOf_51 : cd_Dk b_M_learnsOf 51 (nI 8) 53 := Or.inr (Or.inl ⟨8, ⟨by decide +kernel, rfl⟩, by decide +kernel⟩)
theorem d_M_learnsOf_53 : cd_D 1 b_M_learnsOf 53 .ireturn 54 := ⟨by decide +kernel, rfl⟩
theorem c_M_learnsOf {l : Launch} {w : cd_WT} {S : cd_Sp} {I : cd_Mem} {m : Nat} (hM : cd_MO w S m) (i : Nat) (hi : i < 12) : cd_C l w m_M_learnsOf 1 0 0 [.ref m, .int (nI i)] S I (cd_Fi S (cd_lea (I (m + 1) (16 + 5 * i + 0))) I) := by
  refine cd_intro (by decide) (by simp [Value.category]) (Nat.le_of_ble_eq_true rfl) ?_
  intro X hO hE
  show cd_J w X 0 0 S I 0 [some (.ref m), some (.int (nI i))] []
  refine r_aload hO d_M_learnsOf_0 rfl ?_
  refine r_iload hO d_M_learnsOf_1 rfl ?_
  refine r_k hO d_M_learnsOf_2 ?_
  refine r_cV2fi hO hE (c_M_of hM _ _ (by omega)) mf_M_of lk_M_97 hM.2.1 rfl (by decide) rfl (Nat.le_of_ble_eq_true rfl) d_M_learnsOf_3 (Nat.zero_le _) (Nat.zero_le _) ?_
  by_cases c_6_1 : I (m + 1) (16 + 5 * i + 0) = nI 1
  · refine r_tabE hO d_M_learnsOf_6 c_6_1 (off := 34) (by decide) (by decide) (by decide) (tgt := 40) (by decide) ?_
    refine r_k hO d_M_learnsOf_40 ?_
    refine r_iret hO hE (Nat.zero_le _) (Nat.zero_le _) d_M_learnsOf_41 ?_
    exact ⟨by unfold cd_lea; (repeat' split) <;> first | rfl | contradiction | (exfalso; simp only [Int32.lt_iff_toInt_lt, Int32.le_iff_toInt_le] at *; omega), rfl, rfl⟩
  by_cases c_6_3 : I (m + 1) (16 + 5 * i + 0) = nI 3
  · refine r_tabE hO d_M_learnsOf_6 c_6_3 (off := 36) (by decide) (by decide) (by decide) (tgt := 42) (by decide) ?_
    refine r_k hO d_M_learnsOf_42 ?_
    refine r_iret hO hE (Nat.zero_le _) (Nat.zero_le _) d_M_learnsOf_44 ?_
    exact ⟨by unfold cd_lea; (repeat' split) <;> first | rfl | contradiction | (exfalso; simp only [Int32.lt_iff_toInt_lt, Int32.le_iff_toInt_le] at *; omega), rfl, rfl⟩
  by_cases c_6_4 : I (m + 1) (16 + 5 * i + 0) = nI 4
  · refine r_tabE hO d_M_learnsOf_6 c_6_4 (off := 39) (by decide) (by decide) (by decide) (tgt := 45) (by decide) ?_
    refine r_k hO d_M_learnsOf_45 ?_
    refine r_iret hO hE (Nat.zero_le _) (Nat.zero_le _) d_M_learnsOf_47 ?_
    exact ⟨by unfold cd_lea; (repeat' split) <;> first | rfl | contradiction | (exfalso; simp only [Int32.lt_iff_toInt_lt, Int32.le_iff_toInt_le] at *; omega), rfl, rfl⟩
  by_cases c_6_5 : I (m + 1) (16 + 5 * i + 0) = nI 5
  · refine r_tabE hO d_M_learnsOf_6 c_6_5 (off := 42) (by decide) (by decide) (by decide) (tgt := 48) (by decide) ?_
    refine r_k hO d_M_learnsOf_48 ?_
    refine r_iret hO hE (Nat.zero_le _) (Nat.zero_le _) d_M_learnsOf_50 ?_
    exact ⟨by unfold cd_lea; (repeat' split) <;> first | rfl | contradiction | (exfalso; simp only [Int32.lt_iff_toInt_lt, Int32.le_iff_toInt_le] at *; omega), rfl, rfl⟩
  refine r_tabN hO d_M_learnsOf_6 (by decide) (fun j hj => ?_) (tgt := 51) (by decide) ?_
  · have hj2 : j < 5 := hj
    rcases (show j = 0 ∨ j = 1 ∨ j = 2 ∨ j = 3 ∨ j = 4 by omega) with rfl | rfl | rfl | rfl | rfl
    · exact Or.inl (fun e => c_6_1 (e.trans (by decide)))
    · exact Or.inr rfl
    · exact Or.inl (fun e => c_6_3 (e.trans (by decide)))
    · exact Or.inl (fun e => c_6_4 (e.trans (by decide)))
    · exact Or.inl (fun e => c_6_5 (e.trans (by decide)))
  refine r_k hO d_M_learnsOf_51 ?_
  refine r_iret hO hE (Nat.zero_le _) (Nat.zero_le _) d_M_learnsOf_53 ?_
  exact ⟨by unfold cd_lea; (repeat' split) <;> first | rfl | contradiction | (exfalso; simp only [Int32.lt_iff_toInt_lt, Int32.le_iff_toInt_le] at *; omega), rfl, rfl⟩
theorem d_M_forgetsOf_0 : cd_D_aload b_M_forgetsOf 0 0 1 := Or.inr ⟨0, ⟨by decide +kernel, rfl⟩, rfl⟩
theorem d_M_forgetsOf_1 : cd_D_iload b_M_forgetsOf 1 1 2 := Or.inr ⟨1, ⟨by decide +kernel, rfl⟩, rfl⟩
theorem d_M_forgetsOf_2 : cd_Dk b_M_forgetsOf 2 (nI 0) 3 := Or.inl ⟨0, ⟨by decide +kernel, rfl⟩, by decide +kernel⟩
theorem d_M_forgetsOf_3 : cd_D 3 b_M_forgetsOf 3 (.invokevirtual 97) 6 := ⟨by decide +kernel, rfl⟩
theorem d_M_forgetsOf_6 : decode b_M_forgetsOf 6 = .ok (.tableswitch (42) (1) (5) #[34, 42, 34, 37, 39], 34) := by decide +kernel
theorem d_M_forgetsOf_40 : cd_Dk b_M_forgetsOf 40 (nI 6) 42 := Or.inr (Or.inl ⟨6, ⟨by decide +kernel, rfl⟩, by decide +kernel⟩)
theorem d_M_forgetsOf_42 : cd_D 1 b_M_forgetsOf 42 .ireturn 43 := ⟨by decide +kernel, rfl⟩
theorem d_M_forgetsOf_43 : cd_Dk b_M_forgetsOf 43 (nI 1) 44 := Or.inl ⟨1, ⟨by decide +kernel, rfl⟩, by decide +kernel⟩
theorem d_M_forgetsOf_44 : cd_D 1 b_M_forgetsOf 44 .ireturn 45 := ⟨by decide +kernel, rfl⟩
theorem d_M_forgetsOf_45 : cd_Dk b_M_forgetsOf 45 (nI 9) 47 := Or.inr (Or.inl ⟨9, ⟨by decide +kernel, rfl⟩, by decide +kernel⟩)
theorem d_M_forgetsOf_47 : cd_D 1 b_M_forgetsOf 47 .ireturn 48 := ⟨by decide +kernel, rfl⟩
theorem d_M_forgetsOf_48 : cd_Dk b_M_forgetsOf 48 (nI 4) 49 := Or.inl ⟨4, ⟨by decide +kernel, rfl⟩, by decide +kernel⟩
theorem d_M_forgetsOf_49 : cd_D 1 b_M_forgetsOf 49 .ireturn 50 := ⟨by decide +kernel, rfl⟩
theorem c_M_forgetsOf {l : Launch} {w : cd_WT} {S : cd_Sp} {I : cd_Mem} {m : Nat} (hM : cd_MO w S m) (i : Nat) (hi : i < 12) : cd_C l w m_M_forgetsOf 1 0 0 [.ref m, .int (nI i)] S I (cd_Fi S (cd_fog (I (m + 1) (16 + 5 * i + 0))) I) := by
  refine cd_intro (by decide) (by simp [Value.category]) (Nat.le_of_ble_eq_true rfl) ?_
  intro X hO hE
  show cd_J w X 0 0 S I 0 [some (.ref m), some (.int (nI i))] []
  refine r_aload hO d_M_forgetsOf_0 rfl ?_
  refine r_iload hO d_M_forgetsOf_1 rfl ?_
  refine r_k hO d_M_forgetsOf_2 ?_
  refine r_cV2fi hO hE (c_M_of hM _ _ (by omega)) mf_M_of lk_M_97 hM.2.1 rfl (by decide) rfl (Nat.le_of_ble_eq_true rfl) d_M_forgetsOf_3 (Nat.zero_le _) (Nat.zero_le _) ?_
  by_cases c_6_1 : I (m + 1) (16 + 5 * i + 0) = nI 1
  · refine r_tabE hO d_M_forgetsOf_6 c_6_1 (off := 34) (by decide) (by decide) (by decide) (tgt := 40) (by decide) ?_
    refine r_k hO d_M_forgetsOf_40 ?_
    refine r_iret hO hE (Nat.zero_le _) (Nat.zero_le _) d_M_forgetsOf_42 ?_
    exact ⟨by unfold cd_fog; (repeat' split) <;> first | rfl | contradiction | (exfalso; simp only [Int32.lt_iff_toInt_lt, Int32.le_iff_toInt_le] at *; omega), rfl, rfl⟩
  by_cases c_6_3 : I (m + 1) (16 + 5 * i + 0) = nI 3
  · refine r_tabE hO d_M_forgetsOf_6 c_6_3 (off := 34) (by decide) (by decide) (by decide) (tgt := 40) (by decide) ?_
    refine r_k hO d_M_forgetsOf_40 ?_
    refine r_iret hO hE (Nat.zero_le _) (Nat.zero_le _) d_M_forgetsOf_42 ?_
    exact ⟨by unfold cd_fog; (repeat' split) <;> first | rfl | contradiction | (exfalso; simp only [Int32.lt_iff_toInt_lt, Int32.le_iff_toInt_le] at *; omega), rfl, rfl⟩
  by_cases c_6_4 : I (m + 1) (16 + 5 * i + 0) = nI 4
  · refine r_tabE hO d_M_forgetsOf_6 c_6_4 (off := 37) (by decide) (by decide) (by decide) (tgt := 43) (by decide) ?_
    refine r_k hO d_M_forgetsOf_43 ?_
    refine r_iret hO hE (Nat.zero_le _) (Nat.zero_le _) d_M_forgetsOf_44 ?_
    exact ⟨by unfold cd_fog; (repeat' split) <;> first | rfl | contradiction | (exfalso; simp only [Int32.lt_iff_toInt_lt, Int32.le_iff_toInt_le] at *; omega), rfl, rfl⟩
  by_cases c_6_5 : I (m + 1) (16 + 5 * i + 0) = nI 5
  · refine r_tabE hO d_M_forgetsOf_6 c_6_5 (off := 39) (by decide) (by decide) (by decide) (tgt := 45) (by decide) ?_
    refine r_k hO d_M_forgetsOf_45 ?_
    refine r_iret hO hE (Nat.zero_le _) (Nat.zero_le _) d_M_forgetsOf_47 ?_
    exact ⟨by unfold cd_fog; (repeat' split) <;> first | rfl | contradiction | (exfalso; simp only [Int32.lt_iff_toInt_lt, Int32.le_iff_toInt_le] at *; omega), rfl, rfl⟩
  refine r_tabN hO d_M_forgetsOf_6 (by decide) (fun j hj => ?_) (tgt := 48) (by decide) ?_
  · have hj2 : j < 5 := hj
    rcases (show j = 0 ∨ j = 1 ∨ j = 2 ∨ j = 3 ∨ j = 4 by omega) with rfl | rfl | rfl | rfl | rfl
    · exact Or.inl (fun e => c_6_1 (e.trans (by decide)))
    · exact Or.inr rfl
    · exact Or.inl (fun e => c_6_3 (e.trans (by decide)))
    · exact Or.inl (fun e => c_6_4 (e.trans (by decide)))
    · exact Or.inl (fun e => c_6_5 (e.trans (by decide)))
  refine r_k hO d_M_forgetsOf_48 ?_
  refine r_iret hO hE (Nat.zero_le _) (Nat.zero_le _) d_M_forgetsOf_49 ?_
  exact ⟨by unfold cd_fog; (repeat' split) <;> first | rfl | contradiction | (exfalso; simp only [Int32.lt_iff_toInt_lt, Int32.le_iff_toInt_le] at *; omega), rfl, rfl⟩
theorem d_M_scratchesOf_0 : cd_D_aload b_M_scratchesOf 0 0 1 := Or.inr ⟨0, ⟨by decide +kernel, rfl⟩, rfl⟩
theorem d_M_scratchesOf_1 : cd_D_iload b_M_scratchesOf 1 1 2 := Or.inr ⟨1, ⟨by decide +kernel, rfl⟩, rfl⟩
theorem d_M_scratchesOf_2 : cd_Dk b_M_scratchesOf 2 (nI 0) 3 := Or.inl ⟨0, ⟨by decide +kernel, rfl⟩, by decide +kernel⟩
theorem d_M_scratchesOf_3 : cd_D 3 b_M_scratchesOf 3 (.invokevirtual 97) 6 := ⟨by decide +kernel, rfl⟩
theorem d_M_scratchesOf_6 : decode b_M_scratchesOf 6 = .ok (.tableswitch (43) (1) (5) #[34, 43, 36, 39, 41], 34) := by decide +kernel
theorem d_M_scratchesOf_40 : cd_Dk b_M_scratchesOf 40 (nI 0) 41 := Or.inl ⟨0, ⟨by decide +kernel, rfl⟩, by decide +kernel⟩
theorem d_M_scratchesOf_41 : cd_D 1 b_M_scratchesOf 41 .ireturn 42 := ⟨by decide +kernel, rfl⟩
theorem d_M_scratchesOf_42 : cd_Dk b_M_scratchesOf 42 (nI 7) 44 := Or.inr (Or.inl ⟨7, ⟨by decide +kernel, rfl⟩, by decide +kernel⟩)
theorem d_M_scratchesOf_44 : cd_D 1 b_M_scratchesOf 44 .ireturn 45 := ⟨by decide +kernel, rfl⟩
theorem d_M_scratchesOf_45 : cd_Dk b_M_scratchesOf 45 (nI 3) 46 := Or.inl ⟨3, ⟨by decide +kernel, rfl⟩, by decide +kernel⟩
theorem d_M_scratchesOf_46 : cd_D 1 b_M_scratchesOf 46 .ireturn 47 := ⟨by decide +kernel, rfl⟩
theorem d_M_scratchesOf_47 : cd_Dk b_M_scratchesOf 47 (nI 1) 48 := Or.inl ⟨1, ⟨by decide +kernel, rfl⟩, by decide +kernel⟩
theorem d_M_scratchesOf_48 : cd_D 1 b_M_scratchesOf 48 .ireturn 49 := ⟨by decide +kernel, rfl⟩
theorem d_M_scratchesOf_49 : cd_Dk b_M_scratchesOf 49 (nI 2) 50 := Or.inl ⟨2, ⟨by decide +kernel, rfl⟩, by decide +kernel⟩
theorem d_M_scratchesOf_50 : cd_D 1 b_M_scratchesOf 50 .ireturn 51 := ⟨by decide +kernel, rfl⟩
theorem c_M_scratchesOf {l : Launch} {w : cd_WT} {S : cd_Sp} {I : cd_Mem} {m : Nat} (hM : cd_MO w S m) (i : Nat) (hi : i < 12) : cd_C l w m_M_scratchesOf 1 0 0 [.ref m, .int (nI i)] S I (cd_Fi S (cd_scr (I (m + 1) (16 + 5 * i + 0))) I) := by
  refine cd_intro (by decide) (by simp [Value.category]) (Nat.le_of_ble_eq_true rfl) ?_
  intro X hO hE
  show cd_J w X 0 0 S I 0 [some (.ref m), some (.int (nI i))] []
  refine r_aload hO d_M_scratchesOf_0 rfl ?_
  refine r_iload hO d_M_scratchesOf_1 rfl ?_
  refine r_k hO d_M_scratchesOf_2 ?_
  refine r_cV2fi hO hE (c_M_of hM _ _ (by omega)) mf_M_of lk_M_97 hM.2.1 rfl (by decide) rfl (Nat.le_of_ble_eq_true rfl) d_M_scratchesOf_3 (Nat.zero_le _) (Nat.zero_le _) ?_
  by_cases c_6_1 : I (m + 1) (16 + 5 * i + 0) = nI 1
  · refine r_tabE hO d_M_scratchesOf_6 c_6_1 (off := 34) (by decide) (by decide) (by decide) (tgt := 40) (by decide) ?_
    refine r_k hO d_M_scratchesOf_40 ?_
    refine r_iret hO hE (Nat.zero_le _) (Nat.zero_le _) d_M_scratchesOf_41 ?_
    exact ⟨by unfold cd_scr; (repeat' split) <;> first | rfl | contradiction | (exfalso; simp only [Int32.lt_iff_toInt_lt, Int32.le_iff_toInt_le] at *; omega), rfl, rfl⟩
  by_cases c_6_3 : I (m + 1) (16 + 5 * i + 0) = nI 3
  · refine r_tabE hO d_M_scratchesOf_6 c_6_3 (off := 36) (by decide) (by decide) (by decide) (tgt := 42) (by decide) ?_
    refine r_k hO d_M_scratchesOf_42 ?_
    refine r_iret hO hE (Nat.zero_le _) (Nat.zero_le _) d_M_scratchesOf_44 ?_
    exact ⟨by unfold cd_scr; (repeat' split) <;> first | rfl | contradiction | (exfalso; simp only [Int32.lt_iff_toInt_lt, Int32.le_iff_toInt_le] at *; omega), rfl, rfl⟩
  by_cases c_6_4 : I (m + 1) (16 + 5 * i + 0) = nI 4
  · refine r_tabE hO d_M_scratchesOf_6 c_6_4 (off := 39) (by decide) (by decide) (by decide) (tgt := 45) (by decide) ?_
    refine r_k hO d_M_scratchesOf_45 ?_
    refine r_iret hO hE (Nat.zero_le _) (Nat.zero_le _) d_M_scratchesOf_46 ?_
    exact ⟨by unfold cd_scr; (repeat' split) <;> first | rfl | contradiction | (exfalso; simp only [Int32.lt_iff_toInt_lt, Int32.le_iff_toInt_le] at *; omega), rfl, rfl⟩
  by_cases c_6_5 : I (m + 1) (16 + 5 * i + 0) = nI 5
  · refine r_tabE hO d_M_scratchesOf_6 c_6_5 (off := 41) (by decide) (by decide) (by decide) (tgt := 47) (by decide) ?_
    refine r_k hO d_M_scratchesOf_47 ?_
    refine r_iret hO hE (Nat.zero_le _) (Nat.zero_le _) d_M_scratchesOf_48 ?_
    exact ⟨by unfold cd_scr; (repeat' split) <;> first | rfl | contradiction | (exfalso; simp only [Int32.lt_iff_toInt_lt, Int32.le_iff_toInt_le] at *; omega), rfl, rfl⟩
  refine r_tabN hO d_M_scratchesOf_6 (by decide) (fun j hj => ?_) (tgt := 49) (by decide) ?_
  · have hj2 : j < 5 := hj
    rcases (show j = 0 ∨ j = 1 ∨ j = 2 ∨ j = 3 ∨ j = 4 by omega) with rfl | rfl | rfl | rfl | rfl
    · exact Or.inl (fun e => c_6_1 (e.trans (by decide)))
    · exact Or.inr rfl
    · exact Or.inl (fun e => c_6_3 (e.trans (by decide)))
    · exact Or.inl (fun e => c_6_4 (e.trans (by decide)))
    · exact Or.inl (fun e => c_6_5 (e.trans (by decide)))
  refine r_k hO d_M_scratchesOf_49 ?_
  refine r_iret hO hE (Nat.zero_le _) (Nat.zero_le _) d_M_scratchesOf_50 ?_
  exact ⟨by unfold cd_scr; (repeat' split) <;> first | rfl | contradiction | (exfalso; simp only [Int32.lt_iff_toInt_lt, Int32.le_iff_toInt_le] at *; omega), rfl, rfl⟩
theorem d_M_worthOf_0 : cd_D_aload b_M_worthOf 0 0 1 := Or.inr ⟨0, ⟨by decide +kernel, rfl⟩, rfl⟩
theorem d_M_worthOf_1 : cd_D_iload b_M_worthOf 1 1 2 := Or.inr ⟨1, ⟨by decide +kernel, rfl⟩, rfl⟩
theorem d_M_worthOf_2 : cd_Dk b_M_worthOf 2 (nI 2) 3 := Or.inl ⟨2, ⟨by decide +kernel, rfl⟩, by decide +kernel⟩
theorem d_M_worthOf_3 : cd_D 3 b_M_worthOf 3 (.invokevirtual 97) 6 := ⟨by decide +kernel, rfl⟩
theorem d_M_worthOf_6 : cd_D_istore b_M_worthOf 6 2 7 := Or.inr ⟨2, ⟨by decide +kernel, rfl⟩, rfl⟩
theorem d_M_worthOf_7 : cd_D_aload b_M_worthOf 7 0 8 := Or.inr ⟨0, ⟨by decide +kernel, rfl⟩, rfl⟩
theorem d_M_worthOf_8 : cd_D_iload b_M_worthOf 8 1 9 := Or.inr ⟨1, ⟨by decide +kernel, rfl⟩, rfl⟩
theorem d_M_worthOf_9 : cd_Dk b_M_worthOf 9 (nI 0) 10 := Or.inl ⟨0, ⟨by decide +kernel, rfl⟩, by decide +kernel⟩
theorem d_M_worthOf_10 : cd_D 3 b_M_worthOf 10 (.invokevirtual 97) 13 := ⟨by decide +kernel, rfl⟩
theorem d_M_worthOf_13 : decode b_M_worthOf 13 = .ok (.tableswitch (59) (1) (5) #[35, 40, 45, 52, 57], 35) := by decide +kernel
theorem d_M_worthOf_48 : cd_D_iload b_M_worthOf 48 2 49 := Or.inr ⟨2, ⟨by decide +kernel, rfl⟩, rfl⟩
theorem d_M_worthOf_49 : cd_Dk b_M_worthOf 49 (nI 6) 51 := Or.inr (Or.inl ⟨6, ⟨by decide +kernel, rfl⟩, by decide +kernel⟩)
theorem d_M_worthOf_51 : cd_D 1 b_M_worthOf 51 .iadd 52 := ⟨by decide +kernel, rfl⟩
theorem d_M_worthOf_52 : cd_D 1 b_M_worthOf 52 .ireturn 53 := ⟨by decide +kernel, rfl⟩
theorem d_M_worthOf_53 : cd_Dk b_M_worthOf 53 (nI 99) 55 := Or.inr (Or.inl ⟨99, ⟨by decide +kernel, rfl⟩, by decide +kernel⟩)
theorem d_M_worthOf_55 : cd_D_iload b_M_worthOf 55 2 56 := Or.inr ⟨2, ⟨by decide +kernel, rfl⟩, rfl⟩
theorem d_M_worthOf_56 : cd_D 1 b_M_worthOf 56 .isub 57 := ⟨by decide +kernel, rfl⟩
theorem d_M_worthOf_57 : cd_D 1 b_M_worthOf 57 .ireturn 58 := ⟨by decide +kernel, rfl⟩
theorem d_M_worthOf_58 : cd_Dk b_M_worthOf 58 (nI 2) 59 := Or.inl ⟨2, ⟨by decide +kernel, rfl⟩, by decide +kernel⟩
theorem d_M_worthOf_59 : cd_D_iload b_M_worthOf 59 2 60 := Or.inr ⟨2, ⟨by decide +kernel, rfl⟩, rfl⟩
theorem d_M_worthOf_60 : cd_Dk b_M_worthOf 60 (nI 6) 62 := Or.inr (Or.inl ⟨6, ⟨by decide +kernel, rfl⟩, by decide +kernel⟩)
theorem d_M_worthOf_62 : cd_D 1 b_M_worthOf 62 .iadd 63 := ⟨by decide +kernel, rfl⟩
theorem d_M_worthOf_63 : cd_D 1 b_M_worthOf 63 .imul 64 := ⟨by decide +kernel, rfl⟩
theorem d_M_worthOf_64 : cd_D 1 b_M_worthOf 64 .ireturn 65 := ⟨by decide +kernel, rfl⟩
theorem d_M_worthOf_65 : cd_Dk b_M_worthOf 65 (nI 91) 67 := Or.inr (Or.inl ⟨91, ⟨by decide +kernel, rfl⟩, by decide +kernel⟩)
theorem d_M_worthOf_67 : cd_D_iload b_M_worthOf 67 2 68 := Or.inr ⟨2, ⟨by decide +kernel, rfl⟩, rfl⟩
theorem d_M_worthOf_68 : cd_D 1 b_M_worthOf 68 .isub 69 := ⟨by decide +kernel, rfl⟩
theorem d_M_worthOf_69 : cd_D 1 b_M_worthOf 69 .ireturn 70 := ⟨by decide +kernel, rfl⟩
theorem d_M_worthOf_70 : cd_Dk b_M_worthOf 70 (nI 3) 71 := Or.inl ⟨3, ⟨by decide +kernel, rfl⟩, by decide +kernel⟩
theorem d_M_worthOf_71 : cd_D 1 b_M_worthOf 71 .ireturn 72 := ⟨by decide +kernel, rfl⟩
theorem d_M_worthOf_72 : cd_D_iload b_M_worthOf 72 2 73 := Or.inr ⟨2, ⟨by decide +kernel, rfl⟩, rfl⟩
theorem d_M_worthOf_73 : cd_D 1 b_M_worthOf 73 .ireturn 74 := ⟨by decide +kernel, rfl⟩
theorem c_M_worthOf {l : Launch} {w : cd_WT} {S : cd_Sp} {I : cd_Mem} {m : Nat} (hM : cd_MO w S m) (i : Nat) (hi : i < 12) : cd_C l w m_M_worthOf 1 0 0 [.ref m, .int (nI i)] S I (cd_Fi S (cd_wor (I (m + 1) (16 + 5 * i + 0)) (I (m + 1) (16 + 5 * i + 2))) I) := by
  refine cd_intro (by decide) (by simp [Value.category]) (Nat.le_of_ble_eq_true rfl) ?_
  intro X hO hE
  show cd_J w X 0 0 S I 0 [some (.ref m), some (.int (nI i)), none] []
  refine r_aload hO d_M_worthOf_0 rfl ?_
  refine r_iload hO d_M_worthOf_1 rfl ?_
  refine r_k hO d_M_worthOf_2 ?_
  refine r_cV2fi hO hE (c_M_of hM _ _ (by omega)) mf_M_of lk_M_97 hM.2.1 rfl (by decide) rfl (Nat.le_of_ble_eq_true rfl) d_M_worthOf_3 (Nat.zero_le _) (Nat.zero_le _) ?_
  refine r_sI2 hO d_M_worthOf_6 rfl ?_
  refine r_aload hO d_M_worthOf_7 rfl ?_
  refine r_iload hO d_M_worthOf_8 rfl ?_
  refine r_k hO d_M_worthOf_9 ?_
  refine r_cV2fi hO hE (c_M_of hM _ _ (by omega)) mf_M_of lk_M_97 hM.2.1 rfl (by decide) rfl (Nat.le_of_ble_eq_true rfl) d_M_worthOf_10 (Nat.zero_le _) (Nat.zero_le _) ?_
  by_cases c_13_1 : I (m + 1) (16 + 5 * i + 0) = nI 1
  · refine r_tabE hO d_M_worthOf_13 c_13_1 (off := 35) (by decide) (by decide) (by decide) (tgt := 48) (by decide) ?_
    refine r_iload hO d_M_worthOf_48 rfl ?_
    refine r_k hO d_M_worthOf_49 ?_
    refine r_iadd hO d_M_worthOf_51 ?_
    refine r_iret hO hE (Nat.zero_le _) (Nat.zero_le _) d_M_worthOf_52 ?_
    exact ⟨by unfold cd_wor; (repeat' split) <;> first | rfl | contradiction | (exfalso; simp only [Int32.lt_iff_toInt_lt, Int32.le_iff_toInt_le] at *; omega), rfl, rfl⟩
  by_cases c_13_2 : I (m + 1) (16 + 5 * i + 0) = nI 2
  · refine r_tabE hO d_M_worthOf_13 c_13_2 (off := 40) (by decide) (by decide) (by decide) (tgt := 53) (by decide) ?_
    refine r_k hO d_M_worthOf_53 ?_
    refine r_iload hO d_M_worthOf_55 rfl ?_
    refine r_isub hO d_M_worthOf_56 ?_
    refine r_iret hO hE (Nat.zero_le _) (Nat.zero_le _) d_M_worthOf_57 ?_
    exact ⟨by unfold cd_wor; (repeat' split) <;> first | rfl | contradiction | (exfalso; simp only [Int32.lt_iff_toInt_lt, Int32.le_iff_toInt_le] at *; omega), rfl, rfl⟩
  by_cases c_13_3 : I (m + 1) (16 + 5 * i + 0) = nI 3
  · refine r_tabE hO d_M_worthOf_13 c_13_3 (off := 45) (by decide) (by decide) (by decide) (tgt := 58) (by decide) ?_
    refine r_k hO d_M_worthOf_58 ?_
    refine r_iload hO d_M_worthOf_59 rfl ?_
    refine r_k hO d_M_worthOf_60 ?_
    refine r_iadd hO d_M_worthOf_62 ?_
    refine r_imul hO d_M_worthOf_63 ?_
    refine r_iret hO hE (Nat.zero_le _) (Nat.zero_le _) d_M_worthOf_64 ?_
    exact ⟨by unfold cd_wor; (repeat' split) <;> first | rfl | contradiction | (exfalso; simp only [Int32.lt_iff_toInt_lt, Int32.le_iff_toInt_le] at *; omega), rfl, rfl⟩
  by_cases c_13_4 : I (m + 1) (16 + 5 * i + 0) = nI 4
  · refine r_tabE hO d_M_worthOf_13 c_13_4 (off := 52) (by decide) (by decide) (by decide) (tgt := 65) (by decide) ?_
    refine r_k hO d_M_worthOf_65 ?_
    refine r_iload hO d_M_worthOf_67 rfl ?_
    refine r_isub hO d_M_worthOf_68 ?_
    refine r_iret hO hE (Nat.zero_le _) (Nat.zero_le _) d_M_worthOf_69 ?_
    exact ⟨by unfold cd_wor; (repeat' split) <;> first | rfl | contradiction | (exfalso; simp only [Int32.lt_iff_toInt_lt, Int32.le_iff_toInt_le] at *; omega), rfl, rfl⟩
  by_cases c_13_5 : I (m + 1) (16 + 5 * i + 0) = nI 5
  · refine r_tabE hO d_M_worthOf_13 c_13_5 (off := 57) (by decide) (by decide) (by decide) (tgt := 70) (by decide) ?_
    refine r_k hO d_M_worthOf_70 ?_
    refine r_iret hO hE (Nat.zero_le _) (Nat.zero_le _) d_M_worthOf_71 ?_
    exact ⟨by unfold cd_wor; (repeat' split) <;> first | rfl | contradiction | (exfalso; simp only [Int32.lt_iff_toInt_lt, Int32.le_iff_toInt_le] at *; omega), rfl, rfl⟩
  refine r_tabN hO d_M_worthOf_13 (by decide) (fun j hj => ?_) (tgt := 72) (by decide) ?_
  · have hj2 : j < 5 := hj
    rcases (show j = 0 ∨ j = 1 ∨ j = 2 ∨ j = 3 ∨ j = 4 by omega) with rfl | rfl | rfl | rfl | rfl
    · exact Or.inl (fun e => c_13_1 (e.trans (by decide)))
    · exact Or.inl (fun e => c_13_2 (e.trans (by decide)))
    · exact Or.inl (fun e => c_13_3 (e.trans (by decide)))
    · exact Or.inl (fun e => c_13_4 (e.trans (by decide)))
    · exact Or.inl (fun e => c_13_5 (e.trans (by decide)))
  refine r_iload hO d_M_worthOf_72 rfl ?_
  refine r_iret hO hE (Nat.zero_le _) (Nat.zero_le _) d_M_worthOf_73 ?_
  exact ⟨by unfold cd_wor; (repeat' split) <;> first | rfl | contradiction | (exfalso; simp only [Int32.lt_iff_toInt_lt, Int32.le_iff_toInt_le] at *; omega), rfl, rfl⟩
theorem d_M_meantBy_0 : cd_D_aload b_M_meantBy 0 0 1 := Or.inr ⟨0, ⟨by decide +kernel, rfl⟩, rfl⟩
theorem d_M_meantBy_1 : cd_D_iload b_M_meantBy 1 1 2 := Or.inr ⟨1, ⟨by decide +kernel, rfl⟩, rfl⟩
theorem d_M_meantBy_2 : cd_Dk b_M_meantBy 2 (nI 3) 3 := Or.inl ⟨3, ⟨by decide +kernel, rfl⟩, by decide +kernel⟩
theorem d_M_meantBy_3 : cd_D 3 b_M_meantBy 3 (.invokevirtual 97) 6 := ⟨by decide +kernel, rfl⟩
theorem d_M_meantBy_6 : cd_D_istore b_M_meantBy 6 2 7 := Or.inr ⟨2, ⟨by decide +kernel, rfl⟩, rfl⟩
theorem d_M_meantBy_7 : cd_D_aload b_M_meantBy 7 0 8 := Or.inr ⟨0, ⟨by decide +kernel, rfl⟩, rfl⟩
theorem d_M_meantBy_8 : cd_D_iload b_M_meantBy 8 1 9 := Or.inr ⟨1, ⟨by decide +kernel, rfl⟩, rfl⟩
theorem d_M_meantBy_9 : cd_Dk b_M_meantBy 9 (nI 0) 10 := Or.inl ⟨0, ⟨by decide +kernel, rfl⟩, by decide +kernel⟩
theorem d_M_meantBy_10 : cd_D 3 b_M_meantBy 10 (.invokevirtual 97) 13 := ⟨by decide +kernel, rfl⟩
theorem d_M_meantBy_13 : decode b_M_meantBy 13 = .ok (.tableswitch (89) (1) (5) #[35, 59, 39, 59, 87], 35) := by decide +kernel
theorem d_M_meantBy_48 : cd_D_iload b_M_meantBy 48 2 49 := Or.inr ⟨2, ⟨by decide +kernel, rfl⟩, rfl⟩
theorem d_M_meantBy_49 : cd_Dk b_M_meantBy 49 (nI 2) 50 := Or.inl ⟨2, ⟨by decide +kernel, rfl⟩, by decide +kernel⟩
theorem d_M_meantBy_50 : cd_D 1 b_M_meantBy 50 .idiv 51 := ⟨by decide +kernel, rfl⟩
theorem d_M_meantBy_51 : cd_D 1 b_M_meantBy 51 .ireturn 52 := ⟨by decide +kernel, rfl⟩
theorem d_M_meantBy_52 : cd_D_aload b_M_meantBy 52 0 53 := Or.inr ⟨0, ⟨by decide +kernel, rfl⟩, rfl⟩
theorem d_M_meantBy_53 : cd_D 3 b_M_meantBy 53 (.getfield 9) 56 := ⟨by decide +kernel, rfl⟩
theorem d_M_meantBy_56 : cd_Dk b_M_meantBy 56 (nI 7) 58 := Or.inr (Or.inl ⟨7, ⟨by decide +kernel, rfl⟩, by decide +kernel⟩)
theorem d_M_meantBy_58 : cd_D 1 b_M_meantBy 58 .iaload 59 := ⟨by decide +kernel, rfl⟩
theorem d_M_meantBy_59 : cd_Dk b_M_meantBy 59 (nI 1) 60 := Or.inl ⟨1, ⟨by decide +kernel, rfl⟩, by decide +kernel⟩
theorem d_M_meantBy_60 : cd_D_icmp_ne b_M_meantBy 60 68 63 := ⟨8, by decide +kernel, by decide, rfl⟩
theorem d_M_meantBy_63 : cd_Dk b_M_meantBy 63 (nI 100) 65 := Or.inr (Or.inl ⟨100, ⟨by decide +kernel, rfl⟩, by decide +kernel⟩)
theorem d_M_meantBy_65 : cd_D_goto b_M_meantBy 65 71 := ⟨6, by decide +kernel, by decide⟩
theorem d_M_meantBy_68 : cd_D_iload b_M_meantBy 68 2 69 := Or.inr ⟨2, ⟨by decide +kernel, rfl⟩, rfl⟩
theorem d_M_meantBy_69 : cd_Dk b_M_meantBy 69 (nI 2) 70 := Or.inl ⟨2, ⟨by decide +kernel, rfl⟩, by decide +kernel⟩
theorem d_M_meantBy_70 : cd_D 1 b_M_meantBy 70 .idiv 71 := ⟨by decide +kernel, rfl⟩
theorem d_M_meantBy_71 : cd_D 1 b_M_meantBy 71 .ireturn 72 := ⟨by decide +kernel, rfl⟩
theorem d_M_meantBy_72 : cd_D_aload b_M_meantBy 72 0 73 := Or.inr ⟨0, ⟨by decide +kernel, rfl⟩, rfl⟩
theorem d_M_meantBy_73 : cd_D 3 b_M_meantBy 73 (.getfield 9) 76 := ⟨by decide +kernel, rfl⟩
theorem d_M_meantBy_76 : cd_Dk b_M_meantBy 76 (nI 8) 78 := Or.inr (Or.inl ⟨8, ⟨by decide +kernel, rfl⟩, by decide +kernel⟩)
theorem d_M_meantBy_78 : cd_D 1 b_M_meantBy 78 .iaload 79 := ⟨by decide +kernel, rfl⟩
theorem d_M_meantBy_79 : cd_Dk b_M_meantBy 79 (nI 1) 80 := Or.inl ⟨1, ⟨by decide +kernel, rfl⟩, by decide +kernel⟩
theorem d_M_meantBy_80 : cd_D_icmp_ne b_M_meantBy 80 98 83 := ⟨18, by decide +kernel, by decide, rfl⟩
theorem d_M_meantBy_83 : cd_D_aload b_M_meantBy 83 0 84 := Or.inr ⟨0, ⟨by decide +kernel, rfl⟩, rfl⟩
theorem d_M_meantBy_84 : cd_D 3 b_M_meantBy 84 (.getfield 9) 87 := ⟨by decide +kernel, rfl⟩
theorem d_M_meantBy_87 : cd_Dk b_M_meantBy 87 (nI 7) 89 := Or.inr (Or.inl ⟨7, ⟨by decide +kernel, rfl⟩, by decide +kernel⟩)
theorem d_M_meantBy_89 : cd_D 1 b_M_meantBy 89 .iaload 90 := ⟨by decide +kernel, rfl⟩
theorem d_M_meantBy_90 : cd_D_if_ne b_M_meantBy 90 98 93 := ⟨8, by decide +kernel, by decide, rfl⟩
theorem d_M_meantBy_93 : cd_Dk b_M_meantBy 93 (nI 10) 95 := Or.inr (Or.inl ⟨10, ⟨by decide +kernel, rfl⟩, by decide +kernel⟩)
theorem d_M_meantBy_95 : cd_D_goto b_M_meantBy 95 99 := ⟨4, by decide +kernel, by decide⟩
theorem d_M_meantBy_98 : cd_D_iload b_M_meantBy 98 2 99 := Or.inr ⟨2, ⟨by decide +kernel, rfl⟩, rfl⟩
theorem d_M_meantBy_99 : cd_D 1 b_M_meantBy 99 .ireturn 100 := ⟨by decide +kernel, rfl⟩
theorem d_M_meantBy_100 : cd_Dk b_M_meantBy 100 (nI 0) 101 := Or.inl ⟨0, ⟨by decide +kernel, rfl⟩, by decide +kernel⟩
theorem d_M_meantBy_101 : cd_D 1 b_M_meantBy 101 .ireturn 102 := ⟨by decide +kernel, rfl⟩
theorem d_M_meantBy_102 : cd_D_iload b_M_meantBy 102 2 103 := Or.inr ⟨2, ⟨by decide +kernel, rfl⟩, rfl⟩
theorem d_M_meantBy_103 : cd_D 1 b_M_meantBy 103 .ireturn 104 := ⟨by decide +kernel, rfl⟩
theorem c_M_meantBy {l : Launch} {w : cd_WT} {S : cd_Sp} {I : cd_Mem} {m : Nat} (hM : cd_MO w S m) (i : Nat) (hi : i < 12) : cd_C l w m_M_meantBy 1 0 0 [.ref m, .int (nI i)] S I (cd_Fi S (cd_mea (I (m + 1)) i) I) := by
  refine cd_intro (by decide) (by simp [Value.category]) (Nat.le_of_ble_eq_true rfl) ?_
  intro X hO hE
  show cd_J w X 0 0 S I 0 [some (.ref m), some (.int (nI i)), none] []
  refine r_aload hO d_M_meantBy_0 rfl ?_
  refine r_iload hO d_M_meantBy_1 rfl ?_
  refine r_k hO d_M_meantBy_2 ?_
  refine r_cV2fi hO hE (c_M_of hM _ _ (by omega)) mf_M_of lk_M_97 hM.2.1 rfl (by decide) rfl (Nat.le_of_ble_eq_true rfl) d_M_meantBy_3 (Nat.zero_le _) (Nat.zero_le _) ?_
  refine r_sI2 hO d_M_meantBy_6 rfl ?_
  refine r_aload hO d_M_meantBy_7 rfl ?_
  refine r_iload hO d_M_meantBy_8 rfl ?_
  refine r_k hO d_M_meantBy_9 ?_
  refine r_cV2fi hO hE (c_M_of hM _ _ (by omega)) mf_M_of lk_M_97 hM.2.1 rfl (by decide) rfl (Nat.le_of_ble_eq_true rfl) d_M_meantBy_10 (Nat.zero_le _) (Nat.zero_le _) ?_
  by_cases c_13_1 : I (m + 1) (16 + 5 * i + 0) = nI 1
  · refine r_tabE hO d_M_meantBy_13 c_13_1 (off := 35) (by decide) (by decide) (by decide) (tgt := 48) (by decide) ?_
    refine r_iload hO d_M_meantBy_48 rfl ?_
    refine r_k hO d_M_meantBy_49 ?_
    refine r_idiv hO d_M_meantBy_50 (by decide) ?_
    refine r_iret hO hE (Nat.zero_le _) (Nat.zero_le _) d_M_meantBy_51 ?_
    exact ⟨by unfold cd_mea; (repeat' split) <;> first | rfl | contradiction | (exfalso; simp_all; done), rfl, rfl⟩
  by_cases c_13_2 : I (m + 1) (16 + 5 * i + 0) = nI 2
  · refine r_tabE hO d_M_meantBy_13 c_13_2 (off := 59) (by decide) (by decide) (by decide) (tgt := 72) (by decide) ?_
    refine r_aload hO d_M_meantBy_72 rfl ?_
    refine r_getR hO f_M_9 rfl hM.2.1 (mo_r1 hM) d_M_meantBy_73 ?_
    refine r_k hO d_M_meantBy_76 ?_
    refine r_iald hO (mo_s1 hM) (by omega) (by decide) d_M_meantBy_78 ?_
    refine r_k hO d_M_meantBy_79 ?_
    refine r_icmp_ne hO d_M_meantBy_80 (fun c_80 => ?_) (fun c_80 => ?_)
    · refine r_iload hO d_M_meantBy_98 rfl ?_
      refine r_iret hO hE (Nat.zero_le _) (Nat.zero_le _) d_M_meantBy_99 ?_
      exact ⟨by unfold cd_mea; (repeat' split) <;> first | rfl | contradiction | (exfalso; simp_all; done), rfl, rfl⟩
    · refine r_aload hO d_M_meantBy_83 rfl ?_
      refine r_getR hO f_M_9 rfl hM.2.1 (mo_r1 hM) d_M_meantBy_84 ?_
      refine r_k hO d_M_meantBy_87 ?_
      refine r_iald hO (mo_s1 hM) (by omega) (by decide) d_M_meantBy_89 ?_
      refine r_if_ne hO d_M_meantBy_90 (fun c_90 => ?_) (fun c_90 => ?_)
      · refine r_iload hO d_M_meantBy_98 rfl ?_
        refine r_iret hO hE (Nat.zero_le _) (Nat.zero_le _) d_M_meantBy_99 ?_
        exact ⟨by unfold cd_mea; (repeat' split) <;> first | rfl | contradiction | (exfalso; simp_all; done), rfl, rfl⟩
      · refine r_k hO d_M_meantBy_93 ?_
        refine r_goto hO d_M_meantBy_95 ?_
        refine r_iret hO hE (Nat.zero_le _) (Nat.zero_le _) d_M_meantBy_99 ?_
        exact ⟨by unfold cd_mea; (repeat' split) <;> first | rfl | contradiction | (exfalso; simp_all; done), rfl, rfl⟩
  by_cases c_13_3 : I (m + 1) (16 + 5 * i + 0) = nI 3
  · refine r_tabE hO d_M_meantBy_13 c_13_3 (off := 39) (by decide) (by decide) (by decide) (tgt := 52) (by decide) ?_
    refine r_aload hO d_M_meantBy_52 rfl ?_
    refine r_getR hO f_M_9 rfl hM.2.1 (mo_r1 hM) d_M_meantBy_53 ?_
    refine r_k hO d_M_meantBy_56 ?_
    refine r_iald hO (mo_s1 hM) (by omega) (by decide) d_M_meantBy_58 ?_
    refine r_k hO d_M_meantBy_59 ?_
    refine r_icmp_ne hO d_M_meantBy_60 (fun c_60 => ?_) (fun c_60 => ?_)
    · refine r_iload hO d_M_meantBy_68 rfl ?_
      refine r_k hO d_M_meantBy_69 ?_
      refine r_idiv hO d_M_meantBy_70 (by decide) ?_
      refine r_iret hO hE (Nat.zero_le _) (Nat.zero_le _) d_M_meantBy_71 ?_
      exact ⟨by unfold cd_mea; (repeat' split) <;> first | rfl | contradiction | (exfalso; simp_all; done), rfl, rfl⟩
    · refine r_k hO d_M_meantBy_63 ?_
      refine r_goto hO d_M_meantBy_65 ?_
      refine r_iret hO hE (Nat.zero_le _) (Nat.zero_le _) d_M_meantBy_71 ?_
      exact ⟨by unfold cd_mea; (repeat' split) <;> first | rfl | contradiction | (exfalso; simp_all; done), rfl, rfl⟩
  by_cases c_13_4 : I (m + 1) (16 + 5 * i + 0) = nI 4
  · refine r_tabE hO d_M_meantBy_13 c_13_4 (off := 59) (by decide) (by decide) (by decide) (tgt := 72) (by decide) ?_
    refine r_aload hO d_M_meantBy_72 rfl ?_
    refine r_getR hO f_M_9 rfl hM.2.1 (mo_r1 hM) d_M_meantBy_73 ?_
    refine r_k hO d_M_meantBy_76 ?_
    refine r_iald hO (mo_s1 hM) (by omega) (by decide) d_M_meantBy_78 ?_
    refine r_k hO d_M_meantBy_79 ?_
    refine r_icmp_ne hO d_M_meantBy_80 (fun c_80 => ?_) (fun c_80 => ?_)
    · refine r_iload hO d_M_meantBy_98 rfl ?_
      refine r_iret hO hE (Nat.zero_le _) (Nat.zero_le _) d_M_meantBy_99 ?_
      exact ⟨by unfold cd_mea; (repeat' split) <;> first | rfl | contradiction | (exfalso; simp_all; done), rfl, rfl⟩
    · refine r_aload hO d_M_meantBy_83 rfl ?_
      refine r_getR hO f_M_9 rfl hM.2.1 (mo_r1 hM) d_M_meantBy_84 ?_
      refine r_k hO d_M_meantBy_87 ?_
      refine r_iald hO (mo_s1 hM) (by omega) (by decide) d_M_meantBy_89 ?_
      refine r_if_ne hO d_M_meantBy_90 (fun c_90 => ?_) (fun c_90 => ?_)
      · refine r_iload hO d_M_meantBy_98 rfl ?_
        refine r_iret hO hE (Nat.zero_le _) (Nat.zero_le _) d_M_meantBy_99 ?_
        exact ⟨by unfold cd_mea; (repeat' split) <;> first | rfl | contradiction | (exfalso; simp_all; done), rfl, rfl⟩
      · refine r_k hO d_M_meantBy_93 ?_
        refine r_goto hO d_M_meantBy_95 ?_
        refine r_iret hO hE (Nat.zero_le _) (Nat.zero_le _) d_M_meantBy_99 ?_
        exact ⟨by unfold cd_mea; (repeat' split) <;> first | rfl | contradiction | (exfalso; simp_all; done), rfl, rfl⟩
  by_cases c_13_5 : I (m + 1) (16 + 5 * i + 0) = nI 5
  · refine r_tabE hO d_M_meantBy_13 c_13_5 (off := 87) (by decide) (by decide) (by decide) (tgt := 100) (by decide) ?_
    refine r_k hO d_M_meantBy_100 ?_
    refine r_iret hO hE (Nat.zero_le _) (Nat.zero_le _) d_M_meantBy_101 ?_
    exact ⟨by unfold cd_mea; (repeat' split) <;> first | rfl | contradiction | (exfalso; simp_all; done), rfl, rfl⟩
  refine r_tabN hO d_M_meantBy_13 (by decide) (fun j hj => ?_) (tgt := 102) (by decide) ?_
  · have hj2 : j < 5 := hj
    rcases (show j = 0 ∨ j = 1 ∨ j = 2 ∨ j = 3 ∨ j = 4 by omega) with rfl | rfl | rfl | rfl | rfl
    · exact Or.inl (fun e => c_13_1 (e.trans (by decide)))
    · exact Or.inl (fun e => c_13_2 (e.trans (by decide)))
    · exact Or.inl (fun e => c_13_3 (e.trans (by decide)))
    · exact Or.inl (fun e => c_13_4 (e.trans (by decide)))
    · exact Or.inl (fun e => c_13_5 (e.trans (by decide)))
  refine r_iload hO d_M_meantBy_102 rfl ?_
  refine r_iret hO hE (Nat.zero_le _) (Nat.zero_le _) d_M_meantBy_103 ?_
  exact ⟨by unfold cd_mea; (repeat' split) <;> first | rfl | contradiction | (exfalso; simp_all; done), rfl, rfl⟩
theorem d_M_isUnder_0 : cd_D_iload b_M_isUnder 0 1 1 := Or.inr ⟨1, ⟨by decide +kernel, rfl⟩, rfl⟩
theorem d_M_isUnder_1 : cd_D_if_eq b_M_isUnder 1 29 4 := ⟨28, by decide +kernel, by decide, rfl⟩
theorem d_M_isUnder_4 : cd_D_iload b_M_isUnder 4 0 5 := Or.inr ⟨0, ⟨by decide +kernel, rfl⟩, rfl⟩
theorem d_M_isUnder_5 : cd_D_iload b_M_isUnder 5 1 6 := Or.inr ⟨1, ⟨by decide +kernel, rfl⟩, rfl⟩
theorem d_M_isUnder_6 : cd_D_icmp_eq b_M_isUnder 6 29 9 := ⟨23, by decide +kernel, by decide, rfl⟩
theorem d_M_isUnder_9 : cd_D_iload b_M_isUnder 9 1 10 := Or.inr ⟨1, ⟨by decide +kernel, rfl⟩, rfl⟩
theorem d_M_isUnder_10 : cd_Dk b_M_isUnder 10 (nI 1) 11 := Or.inl ⟨1, ⟨by decide +kernel, rfl⟩, by decide +kernel⟩
theorem d_M_isUnder_11 : cd_D_icmp_ne b_M_isUnder 11 19 14 := ⟨8, by decide +kernel, by decide, rfl⟩
theorem d_M_isUnder_14 : cd_D_iload b_M_isUnder 14 0 15 := Or.inr ⟨0, ⟨by decide +kernel, rfl⟩, rfl⟩
theorem d_M_isUnder_15 : cd_Dk b_M_isUnder 15 (nI 3) 16 := Or.inl ⟨3, ⟨by decide +kernel, rfl⟩, by decide +kernel⟩
theorem d_M_isUnder_16 : cd_D_icmp_eq b_M_isUnder 16 29 19 := ⟨13, by decide +kernel, by decide, rfl⟩
theorem d_M_isUnder_19 : cd_D_iload b_M_isUnder 19 1 20 := Or.inr ⟨1, ⟨by decide +kernel, rfl⟩, rfl⟩
theorem d_M_isUnder_20 : cd_Dk b_M_isUnder 20 (nI 2) 21 := Or.inl ⟨2, ⟨by decide +kernel, rfl⟩, by decide +kernel⟩
theorem d_M_isUnder_21 : cd_D_icmp_ne b_M_isUnder 21 33 24 := ⟨12, by decide +kernel, by decide, rfl⟩
theorem d_M_isUnder_24 : cd_D_iload b_M_isUnder 24 0 25 := Or.inr ⟨0, ⟨by decide +kernel, rfl⟩, rfl⟩
theorem d_M_isUnder_25 : cd_Dk b_M_isUnder 25 (nI 4) 26 := Or.inl ⟨4, ⟨by decide +kernel, rfl⟩, by decide +kernel⟩
theorem d_M_isUnder_26 : cd_D_icmp_ne b_M_isUnder 26 33 29 := ⟨7, by decide +kernel, by decide, rfl⟩
theorem d_M_isUnder_29 : cd_Dk b_M_isUnder 29 (nI 1) 30 := Or.inl ⟨1, ⟨by decide +kernel, rfl⟩, by decide +kernel⟩
theorem d_M_isUnder_30 : cd_D_goto b_M_isUnder 30 34 := ⟨4, by decide +kernel, by decide⟩
theorem d_M_isUnder_33 : cd_Dk b_M_isUnder 33 (nI 0) 34 := Or.inl ⟨0, ⟨by decide +kernel, rfl⟩, by decide +kernel⟩
theorem d_M_isUnder_34 : cd_D 1 b_M_isUnder 34 .ireturn 35 := ⟨by decide +kernel, rfl⟩
theorem c_M_isUnder {l : Launch} {w : cd_WT} {S : cd_Sp} {I : cd_Mem} (k q : Int32) : cd_C l w m_M_isUnder 0 0 0 [.int k, .int q] S I (cd_Fi S (cd_bI (cd_und k q)) I) := by
  refine cd_intro (by decide) (by simp [Value.category]) (Nat.le_of_ble_eq_true rfl) ?_
  intro X hO hE
  show cd_J w X 0 0 S I 0 [some (.int k), some (.int q)] []
  refine r_iload hO d_M_isUnder_0 rfl ?_
  refine r_if_eq hO d_M_isUnder_1 (fun c_1 => ?_) (fun c_1 => ?_)
  · refine r_k hO d_M_isUnder_29 ?_
    refine r_goto hO d_M_isUnder_30 ?_
    refine r_zret hO hE (by first | exact Or.inl rfl | exact Or.inr rfl) (Nat.zero_le _) (Nat.zero_le _) d_M_isUnder_34 ?_
    first | exact cd_ret1 (by unfold cd_und; grind) | exact cd_ret0 (by unfold cd_und; grind)
  · refine r_iload hO d_M_isUnder_4 rfl ?_
    refine r_iload hO d_M_isUnder_5 rfl ?_
    refine r_icmp_eq hO d_M_isUnder_6 (fun c_6 => ?_) (fun c_6 => ?_)
    · refine r_k hO d_M_isUnder_29 ?_
      refine r_goto hO d_M_isUnder_30 ?_
      refine r_zret hO hE (by first | exact Or.inl rfl | exact Or.inr rfl) (Nat.zero_le _) (Nat.zero_le _) d_M_isUnder_34 ?_
      first | exact cd_ret1 (by unfold cd_und; grind) | exact cd_ret0 (by unfold cd_und; grind)
    · refine r_iload hO d_M_isUnder_9 rfl ?_
      refine r_k hO d_M_isUnder_10 ?_
      refine r_icmp_ne hO d_M_isUnder_11 (fun c_11 => ?_) (fun c_11 => ?_)
      · refine r_iload hO d_M_isUnder_19 rfl ?_
        refine r_k hO d_M_isUnder_20 ?_
        refine r_icmp_ne hO d_M_isUnder_21 (fun c_21 => ?_) (fun c_21 => ?_)
        · refine r_k hO d_M_isUnder_33 ?_
          refine r_zret hO hE (by first | exact Or.inl rfl | exact Or.inr rfl) (Nat.zero_le _) (Nat.zero_le _) d_M_isUnder_34 ?_
          first | exact cd_ret1 (by unfold cd_und; grind) | exact cd_ret0 (by unfold cd_und; grind)
        · refine r_iload hO d_M_isUnder_24 rfl ?_
          refine r_k hO d_M_isUnder_25 ?_
          refine r_icmp_ne hO d_M_isUnder_26 (fun c_26 => ?_) (fun c_26 => ?_)
          · refine r_k hO d_M_isUnder_33 ?_
            refine r_zret hO hE (by first | exact Or.inl rfl | exact Or.inr rfl) (Nat.zero_le _) (Nat.zero_le _) d_M_isUnder_34 ?_
            first | exact cd_ret1 (by unfold cd_und; grind) | exact cd_ret0 (by unfold cd_und; grind)
          · refine r_k hO d_M_isUnder_29 ?_
            refine r_goto hO d_M_isUnder_30 ?_
            refine r_zret hO hE (by first | exact Or.inl rfl | exact Or.inr rfl) (Nat.zero_le _) (Nat.zero_le _) d_M_isUnder_34 ?_
            first | exact cd_ret1 (by unfold cd_und; grind) | exact cd_ret0 (by unfold cd_und; grind)
      · refine r_iload hO d_M_isUnder_14 rfl ?_
        refine r_k hO d_M_isUnder_15 ?_
        refine r_icmp_eq hO d_M_isUnder_16 (fun c_16 => ?_) (fun c_16 => ?_)
        · refine r_k hO d_M_isUnder_29 ?_
          refine r_goto hO d_M_isUnder_30 ?_
          refine r_zret hO hE (by first | exact Or.inl rfl | exact Or.inr rfl) (Nat.zero_le _) (Nat.zero_le _) d_M_isUnder_34 ?_
          first | exact cd_ret1 (by unfold cd_und; grind) | exact cd_ret0 (by unfold cd_und; grind)
        · refine r_iload hO d_M_isUnder_19 rfl ?_
          refine r_k hO d_M_isUnder_20 ?_
          refine r_icmp_ne hO d_M_isUnder_21 (fun c_21 => ?_) (fun c_21 => ?_)
          · refine r_k hO d_M_isUnder_33 ?_
            refine r_zret hO hE (by first | exact Or.inl rfl | exact Or.inr rfl) (Nat.zero_le _) (Nat.zero_le _) d_M_isUnder_34 ?_
            first | exact cd_ret1 (by unfold cd_und; grind) | exact cd_ret0 (by unfold cd_und; grind)
          · refine r_iload hO d_M_isUnder_24 rfl ?_
            refine r_k hO d_M_isUnder_25 ?_
            refine r_icmp_ne hO d_M_isUnder_26 (fun c_26 => ?_) (fun c_26 => ?_)
            · refine r_k hO d_M_isUnder_33 ?_
              refine r_zret hO hE (by first | exact Or.inl rfl | exact Or.inr rfl) (Nat.zero_le _) (Nat.zero_le _) d_M_isUnder_34 ?_
              first | exact cd_ret1 (by unfold cd_und; grind) | exact cd_ret0 (by unfold cd_und; grind)
            · refine r_k hO d_M_isUnder_29 ?_
              refine r_goto hO d_M_isUnder_30 ?_
              refine r_zret hO hE (by first | exact Or.inl rfl | exact Or.inr rfl) (Nat.zero_le _) (Nat.zero_le _) d_M_isUnder_34 ?_
              first | exact cd_ret1 (by unfold cd_und; grind) | exact cd_ret0 (by unfold cd_und; grind)
theorem d_M_draw_0 : cd_D_aload b_M_draw 0 0 1 := Or.inr ⟨0, ⟨by decide +kernel, rfl⟩, rfl⟩
theorem d_M_draw_1 : cd_D 3 b_M_draw 1 (.getfield 9) 4 := ⟨by decide +kernel, rfl⟩
theorem d_M_draw_4 : cd_Dk b_M_draw 4 (nI 0) 5 := Or.inl ⟨0, ⟨by decide +kernel, rfl⟩, by decide +kernel⟩
theorem d_M_draw_5 : cd_D_aload b_M_draw 5 0 6 := Or.inr ⟨0, ⟨by decide +kernel, rfl⟩, rfl⟩
theorem d_M_draw_6 : cd_D 3 b_M_draw 6 (.getfield 9) 9 := ⟨by decide +kernel, rfl⟩
theorem d_M_draw_9 : cd_Dk b_M_draw 9 (nI 0) 10 := Or.inl ⟨0, ⟨by decide +kernel, rfl⟩, by decide +kernel⟩
theorem d_M_draw_10 : cd_D 1 b_M_draw 10 .iaload 11 := ⟨by decide +kernel, rfl⟩
theorem d_M_draw_11 : cd_D 2 b_M_draw 11 (.ldc 137) 13 := ⟨by decide +kernel, rfl⟩
theorem d_M_draw_13 : cd_D 1 b_M_draw 13 .imul 14 := ⟨by decide +kernel, rfl⟩
theorem d_M_draw_14 : cd_Dk b_M_draw 14 (nI 12345) 17 := Or.inr (Or.inr ⟨12345, ⟨by decide +kernel, rfl⟩, by decide +kernel⟩)
theorem d_M_draw_17 : cd_D 1 b_M_draw 17 .iadd 18 := ⟨by decide +kernel, rfl⟩
theorem d_M_draw_18 : cd_D 1 b_M_draw 18 .iastore 19 := ⟨by decide +kernel, rfl⟩
theorem d_M_draw_19 : cd_D_aload b_M_draw 19 0 20 := Or.inr ⟨0, ⟨by decide +kernel, rfl⟩, rfl⟩
theorem d_M_draw_20 : cd_D 3 b_M_draw 20 (.getfield 9) 23 := ⟨by decide +kernel, rfl⟩
theorem d_M_draw_23 : cd_Dk b_M_draw 23 (nI 0) 24 := Or.inl ⟨0, ⟨by decide +kernel, rfl⟩, by decide +kernel⟩
theorem d_M_draw_24 : cd_D 1 b_M_draw 24 .iaload 25 := ⟨by decide +kernel, rfl⟩
theorem d_M_draw_25 : cd_Dk b_M_draw 25 (nI 8) 27 := Or.inr (Or.inl ⟨8, ⟨by decide +kernel, rfl⟩, by decide +kernel⟩)
theorem d_M_draw_27 : cd_D 1 b_M_draw 27 .iushr 28 := ⟨by decide +kernel, rfl⟩
theorem d_M_draw_28 : cd_D 1 b_M_draw 28 .ireturn 29 := ⟨by decide +kernel, rfl⟩
theorem c_M_draw {l : Launch} {w : cd_WT} {S : cd_Sp} {I : cd_Mem} {m : Nat} (hM : cd_MO w S m)  : cd_C l w m_M_draw 0 0 0 [.ref m] S I (cd_Fi S (cd_dv (I (m + 1))) (cd_set I (m + 1) (cd_dr (I (m + 1))))) := by
  refine cd_intro (by decide) (by simp [Value.category]) (Nat.le_of_ble_eq_true rfl) ?_
  intro X hO hE
  show cd_J w X 0 0 S I 0 [some (.ref m)] []
  refine r_aload hO d_M_draw_0 rfl ?_
  refine r_getR hO f_M_9 rfl hM.2.1 (mo_r1 hM) d_M_draw_1 ?_
  refine r_k hO d_M_draw_4 ?_
  refine r_aload hO d_M_draw_5 rfl ?_
  refine r_getR hO f_M_9 rfl hM.2.1 (mo_r1 hM) d_M_draw_6 ?_
  refine r_k hO d_M_draw_9 ?_
  refine r_iald hO (mo_s1 hM) (by omega) (by decide) d_M_draw_10 ?_
  refine r_ldc hO k_M_137 d_M_draw_11 ?_
  refine r_imul hO d_M_draw_13 ?_
  refine r_k hO d_M_draw_14 ?_
  refine r_iadd hO d_M_draw_17 ?_
  refine r_iast hO (mo_s1 hM) (mo_l1 hM) (by omega) (by decide) d_M_draw_18 ?_
  refine r_aload hO d_M_draw_19 rfl ?_
  refine r_getR hO f_M_9 rfl hM.2.1 (mo_r1 hM) d_M_draw_20 ?_
  try simp only [cd_set_eq, cd_set_set]
  refine r_k hO d_M_draw_23 ?_
  refine r_iald hO (mo_s1 hM) (by omega) (by decide) d_M_draw_24 ?_
  try simp only [cd_set_eq, cd_set_set]
  refine r_k hO d_M_draw_25 ?_
  refine r_iushr hO d_M_draw_27 ?_
  refine r_iret hO hE (Nat.zero_le _) (Nat.zero_le _) d_M_draw_28 ?_
  exact ⟨rfl, rfl, rfl⟩
theorem d_M_goes_0 : cd_D_aload b_M_goes 0 0 1 := Or.inr ⟨0, ⟨by decide +kernel, rfl⟩, rfl⟩
theorem d_M_goes_1 : cd_D 3 b_M_goes 1 (.getfield 9) 4 := ⟨by decide +kernel, rfl⟩
theorem d_M_goes_4 : cd_Dk b_M_goes 4 (nI 7) 6 := Or.inr (Or.inl ⟨7, ⟨by decide +kernel, rfl⟩, by decide +kernel⟩)
theorem d_M_goes_6 : cd_Dk b_M_goes 6 (nI 1) 7 := Or.inl ⟨1, ⟨by decide +kernel, rfl⟩, by decide +kernel⟩
theorem d_M_goes_7 : cd_D_aload b_M_goes 7 0 8 := Or.inr ⟨0, ⟨by decide +kernel, rfl⟩, rfl⟩
theorem d_M_goes_8 : cd_D 3 b_M_goes 8 (.getfield 9) 11 := ⟨by decide +kernel, rfl⟩
theorem d_M_goes_11 : cd_Dk b_M_goes 11 (nI 7) 13 := Or.inr (Or.inl ⟨7, ⟨by decide +kernel, rfl⟩, by decide +kernel⟩)
theorem d_M_goes_13 : cd_D 1 b_M_goes 13 .iaload 14 := ⟨by decide +kernel, rfl⟩
theorem d_M_goes_14 : cd_D 1 b_M_goes 14 .isub 15 := ⟨by decide +kernel, rfl⟩
theorem d_M_goes_15 : cd_D 1 b_M_goes 15 .iastore 16 := ⟨by decide +kernel, rfl⟩
theorem d_M_goes_16 : cd_D_aload b_M_goes 16 0 17 := Or.inr ⟨0, ⟨by decide +kernel, rfl⟩, rfl⟩
theorem d_M_goes_17 : cd_D 3 b_M_goes 17 (.getfield 9) 20 := ⟨by decide +kernel, rfl⟩
theorem d_M_goes_20 : cd_D_aload b_M_goes 20 0 21 := Or.inr ⟨0, ⟨by decide +kernel, rfl⟩, rfl⟩
theorem d_M_goes_21 : cd_D 3 b_M_goes 21 (.getfield 9) 24 := ⟨by decide +kernel, rfl⟩
theorem d_M_goes_24 : cd_Dk b_M_goes 24 (nI 7) 26 := Or.inr (Or.inl ⟨7, ⟨by decide +kernel, rfl⟩, by decide +kernel⟩)
theorem d_M_goes_26 : cd_D 1 b_M_goes 26 .iaload 27 := ⟨by decide +kernel, rfl⟩
theorem d_M_goes_27 : cd_Dk b_M_goes 27 (nI 1) 28 := Or.inl ⟨1, ⟨by decide +kernel, rfl⟩, by decide +kernel⟩
theorem d_M_goes_28 : cd_D_icmp_ne b_M_goes 28 36 31 := ⟨8, by decide +kernel, by decide, rfl⟩
theorem d_M_goes_31 : cd_Dk b_M_goes 31 (nI 12) 33 := Or.inr (Or.inl ⟨12, ⟨by decide +kernel, rfl⟩, by decide +kernel⟩)
theorem d_M_goes_33 : cd_D_goto b_M_goes 33 38 := ⟨5, by decide +kernel, by decide⟩
theorem d_M_goes_36 : cd_Dk b_M_goes 36 (nI 13) 38 := Or.inr (Or.inl ⟨13, ⟨by decide +kernel, rfl⟩, by decide +kernel⟩)
theorem d_M_goes_38 : cd_D 1 b_M_goes 38 .dup2 39 := ⟨by decide +kernel, rfl⟩
theorem d_M_goes_39 : cd_D 1 b_M_goes 39 .iaload 40 := ⟨by decide +kernel, rfl⟩
theorem d_M_goes_40 : cd_Dk b_M_goes 40 (nI 1) 41 := Or.inl ⟨1, ⟨by decide +kernel, rfl⟩, by decide +kernel⟩
theorem d_M_goes_41 : cd_D 1 b_M_goes 41 .iadd 42 := ⟨by decide +kernel, rfl⟩
theorem d_M_goes_42 : cd_D 1 b_M_goes 42 .iastore 43 := ⟨by decide +kernel, rfl⟩
theorem d_M_goes_43 : cd_Dk b_M_goes 43 (nI 1) 44 := Or.inl ⟨1, ⟨by decide +kernel, rfl⟩, by decide +kernel⟩
theorem d_M_goes_44 : cd_D 1 b_M_goes 44 .ireturn 45 := ⟨by decide +kernel, rfl⟩
theorem c_M_goes {l : Launch} {w : cd_WT} {S : cd_Sp} {I : cd_Mem} {m : Nat} (hM : cd_MO w S m)  : cd_C l w m_M_goes 0 0 0 [.ref m] S I (cd_Fi S (nI 1) (cd_set I (m + 1) (cd_go (I (m + 1))))) := by
  refine cd_intro (by decide) (by simp [Value.category]) (Nat.le_of_ble_eq_true rfl) ?_
  intro X hO hE
  show cd_J w X 0 0 S I 0 [some (.ref m)] []
  refine r_aload hO d_M_goes_0 rfl ?_
  refine r_getR hO f_M_9 rfl hM.2.1 (mo_r1 hM) d_M_goes_1 ?_
  refine r_k hO d_M_goes_4 ?_
  refine r_k hO d_M_goes_6 ?_
  refine r_aload hO d_M_goes_7 rfl ?_
  refine r_getR hO f_M_9 rfl hM.2.1 (mo_r1 hM) d_M_goes_8 ?_
  refine r_k hO d_M_goes_11 ?_
  refine r_iald hO (mo_s1 hM) (by omega) (by decide) d_M_goes_13 ?_
  refine r_isub hO d_M_goes_14 ?_
  refine r_iast hO (mo_s1 hM) (mo_l1 hM) (by omega) (by decide) d_M_goes_15 ?_
  refine r_aload hO d_M_goes_16 rfl ?_
  refine r_getR hO f_M_9 rfl hM.2.1 (mo_r1 hM) d_M_goes_17 ?_
  try simp only [cd_set_eq, cd_set_set]
  refine r_aload hO d_M_goes_20 rfl ?_
  refine r_getR hO f_M_9 rfl hM.2.1 (mo_r1 hM) d_M_goes_21 ?_
  try simp only [cd_set_eq, cd_set_set]
  refine r_k hO d_M_goes_24 ?_
  refine r_iald hO (mo_s1 hM) (by omega) (by decide) d_M_goes_26 ?_
  try simp only [cd_set_eq, cd_set_set]
  refine r_k hO d_M_goes_27 ?_
  refine r_icmp_ne hO d_M_goes_28 (fun c_28 => ?_) (fun c_28 => ?_)
  · refine r_k hO d_M_goes_36 ?_
    refine r_dup2 hO d_M_goes_38 rfl rfl ?_
    refine r_iald hO (mo_s1 hM) (by omega) (by decide) d_M_goes_39 ?_
    try simp only [cd_set_eq, cd_set_set]
    refine r_k hO d_M_goes_40 ?_
    refine r_iadd hO d_M_goes_41 ?_
    refine r_iast hO (mo_s1 hM) (mo_l1 hM) (by omega) (by decide) d_M_goes_42 ?_
    try simp only [cd_set_eq, cd_set_set]
    refine r_k hO d_M_goes_43 ?_
    refine r_iret hO hE (Nat.zero_le _) (Nat.zero_le _) d_M_goes_44 ?_
    exact ⟨rfl, rfl, by congr 1; unfold cd_go; simp_all [upd]⟩
  · refine r_k hO d_M_goes_31 ?_
    refine r_goto hO d_M_goes_33 ?_
    refine r_dup2 hO d_M_goes_38 rfl rfl ?_
    refine r_iald hO (mo_s1 hM) (by omega) (by decide) d_M_goes_39 ?_
    try simp only [cd_set_eq, cd_set_set]
    refine r_k hO d_M_goes_40 ?_
    refine r_iadd hO d_M_goes_41 ?_
    refine r_iast hO (mo_s1 hM) (mo_l1 hM) (by omega) (by decide) d_M_goes_42 ?_
    try simp only [cd_set_eq, cd_set_set]
    refine r_k hO d_M_goes_43 ?_
    refine r_iret hO hE (Nat.zero_le _) (Nat.zero_le _) d_M_goes_44 ?_
    exact ⟨rfl, rfl, by congr 1; unfold cd_go; simp_all [upd]⟩
theorem d_M_goesAsMeant_0 : cd_D_aload b_M_goesAsMeant 0 0 1 := Or.inr ⟨0, ⟨by decide +kernel, rfl⟩, rfl⟩
theorem d_M_goesAsMeant_1 : cd_D 3 b_M_goesAsMeant 1 (.invokevirtual 138) 4 := ⟨by decide +kernel, rfl⟩
theorem d_M_goesAsMeant_4 : cd_Dk b_M_goesAsMeant 4 (nI 100) 6 := Or.inr (Or.inl ⟨100, ⟨by decide +kernel, rfl⟩, by decide +kernel⟩)
theorem d_M_goesAsMeant_6 : cd_D 1 b_M_goesAsMeant 6 .irem 7 := ⟨by decide +kernel, rfl⟩
theorem d_M_goesAsMeant_7 : cd_D_aload b_M_goesAsMeant 7 0 8 := Or.inr ⟨0, ⟨by decide +kernel, rfl⟩, rfl⟩
theorem d_M_goesAsMeant_8 : cd_D_iload b_M_goesAsMeant 8 1 9 := Or.inr ⟨1, ⟨by decide +kernel, rfl⟩, rfl⟩
theorem d_M_goesAsMeant_9 : cd_D 3 b_M_goesAsMeant 9 (.invokevirtual 124) 12 := ⟨by decide +kernel, rfl⟩
theorem d_M_goesAsMeant_12 : cd_D_icmp_ge b_M_goesAsMeant 12 22 15 := ⟨10, by decide +kernel, by decide, rfl⟩
theorem d_M_goesAsMeant_15 : cd_D_aload b_M_goesAsMeant 15 0 16 := Or.inr ⟨0, ⟨by decide +kernel, rfl⟩, rfl⟩
theorem d_M_goesAsMeant_16 : cd_D 3 b_M_goesAsMeant 16 (.invokevirtual 142) 19 := ⟨by decide +kernel, rfl⟩
theorem d_M_goesAsMeant_19 : cd_D_goto b_M_goesAsMeant 19 23 := ⟨4, by decide +kernel, by decide⟩
theorem d_M_goesAsMeant_22 : cd_Dk b_M_goesAsMeant 22 (nI 0) 23 := Or.inl ⟨0, ⟨by decide +kernel, rfl⟩, by decide +kernel⟩
theorem d_M_goesAsMeant_23 : cd_D 1 b_M_goesAsMeant 23 .ireturn 24 := ⟨by decide +kernel, rfl⟩
theorem c_M_goesAsMeant {l : Launch} {w : cd_WT} {S : cd_Sp} {I : cd_Mem} {m : Nat} (hM : cd_MO w S m) (i : Nat) (hi : i < 12) : cd_C l w m_M_goesAsMeant 2 0 0 [.ref m, .int (nI i)] S I (cd_Fi S (cd_gm (I (m + 1)) i).1 (cd_set I (m + 1) (cd_gm (I (m + 1)) i).2)) := by
  refine cd_intro (by decide) (by simp [Value.category]) (Nat.le_of_ble_eq_true rfl) ?_
  intro X hO hE
  show cd_J w X 0 0 S I 0 [some (.ref m), some (.int (nI i))] []
  refine r_aload hO d_M_goesAsMeant_0 rfl ?_
  refine r_cV0fi hO hE (c_M_draw hM) mf_M_draw lk_M_138 hM.2.1 rfl (by decide) rfl (Nat.le_of_ble_eq_true rfl) d_M_goesAsMeant_1 (Nat.zero_le _) (Nat.zero_le _) ?_
  try simp only [cd_set_eq, cd_set_set]
  refine r_k hO d_M_goesAsMeant_4 ?_
  refine r_irem hO d_M_goesAsMeant_6 (by decide) ?_
  refine r_aload hO d_M_goesAsMeant_7 rfl ?_
  refine r_iload hO d_M_goesAsMeant_8 rfl ?_
  refine r_cV1fi hO hE (c_M_meantBy hM _ hi) mf_M_meantBy lk_M_124 hM.2.1 rfl (by decide) rfl (Nat.le_of_ble_eq_true rfl) d_M_goesAsMeant_9 (Nat.zero_le _) (Nat.zero_le _) ?_
  try simp only [cd_set_eq, cd_set_set]
  refine r_icmp_ge hO d_M_goesAsMeant_12 (fun c_12 => ?_) (fun c_12 => ?_)
  · refine r_k hO d_M_goesAsMeant_22 ?_
    refine r_iret hO hE (Nat.zero_le _) (Nat.zero_le _) d_M_goesAsMeant_23 ?_
    exact ⟨by unfold cd_gm; simp only [*, if_true, if_false], rfl, by unfold cd_gm; simp only [*, if_true, if_false]⟩
  · refine r_aload hO d_M_goesAsMeant_15 rfl ?_
    refine r_cV0fi hO hE (c_M_goes hM) mf_M_goes lk_M_142 hM.2.1 rfl (by decide) rfl (Nat.le_of_ble_eq_true rfl) d_M_goesAsMeant_16 (Nat.zero_le _) (Nat.zero_le _) ?_
    try simp only [cd_set_eq, cd_set_set]
    refine r_goto hO d_M_goesAsMeant_19 ?_
    refine r_iret hO hE (Nat.zero_le _) (Nat.zero_le _) d_M_goesAsMeant_23 ?_
    exact ⟨by unfold cd_gm; simp only [*, if_true, if_false], rfl, by unfold cd_gm; simp only [*, if_true, if_false]⟩
theorem d_M_learns_0 : cd_D_aload b_M_learns 0 0 1 := Or.inr ⟨0, ⟨by decide +kernel, rfl⟩, rfl⟩
theorem d_M_learns_1 : cd_D_iload b_M_learns 1 1 2 := Or.inr ⟨1, ⟨by decide +kernel, rfl⟩, rfl⟩
theorem d_M_learns_2 : cd_Dk b_M_learns 2 (nI 4) 3 := Or.inl ⟨4, ⟨by decide +kernel, rfl⟩, by decide +kernel⟩
theorem d_M_learns_3 : cd_D_aload b_M_learns 3 0 4 := Or.inr ⟨0, ⟨by decide +kernel, rfl⟩, rfl⟩
theorem d_M_learns_4 : cd_D_iload b_M_learns 4 1 5 := Or.inr ⟨1, ⟨by decide +kernel, rfl⟩, rfl⟩
theorem d_M_learns_5 : cd_Dk b_M_learns 5 (nI 4) 6 := Or.inl ⟨4, ⟨by decide +kernel, rfl⟩, by decide +kernel⟩
theorem d_M_learns_6 : cd_D 3 b_M_learns 6 (.invokevirtual 97) 9 := ⟨by decide +kernel, rfl⟩
theorem d_M_learns_9 : cd_Dk b_M_learns 9 (nI 1) 10 := Or.inl ⟨1, ⟨by decide +kernel, rfl⟩, by decide +kernel⟩
theorem d_M_learns_10 : cd_D 1 b_M_learns 10 .iadd 11 := ⟨by decide +kernel, rfl⟩
theorem d_M_learns_11 : cd_D 3 b_M_learns 11 (.invokevirtual 79) 14 := ⟨by decide +kernel, rfl⟩
theorem d_M_learns_14 : cd_D_aload b_M_learns 14 0 15 := Or.inr ⟨0, ⟨by decide +kernel, rfl⟩, rfl⟩
theorem d_M_learns_15 : cd_D_iload b_M_learns 15 1 16 := Or.inr ⟨1, ⟨by decide +kernel, rfl⟩, rfl⟩
theorem d_M_learns_16 : cd_Dk b_M_learns 16 (nI 2) 17 := Or.inl ⟨2, ⟨by decide +kernel, rfl⟩, by decide +kernel⟩
theorem d_M_learns_17 : cd_D_aload b_M_learns 17 0 18 := Or.inr ⟨0, ⟨by decide +kernel, rfl⟩, rfl⟩
theorem d_M_learns_18 : cd_D_iload b_M_learns 18 1 19 := Or.inr ⟨1, ⟨by decide +kernel, rfl⟩, rfl⟩
theorem d_M_learns_19 : cd_Dk b_M_learns 19 (nI 2) 20 := Or.inl ⟨2, ⟨by decide +kernel, rfl⟩, by decide +kernel⟩
theorem d_M_learns_20 : cd_D 3 b_M_learns 20 (.invokevirtual 97) 23 := ⟨by decide +kernel, rfl⟩
theorem d_M_learns_23 : cd_D_aload b_M_learns 23 0 24 := Or.inr ⟨0, ⟨by decide +kernel, rfl⟩, rfl⟩
theorem d_M_learns_24 : cd_D_iload b_M_learns 24 1 25 := Or.inr ⟨1, ⟨by decide +kernel, rfl⟩, rfl⟩
theorem d_M_learns_25 : cd_D 3 b_M_learns 25 (.invokevirtual 115) 28 := ⟨by decide +kernel, rfl⟩
theorem d_M_learns_28 : cd_D 1 b_M_learns 28 .iadd 29 := ⟨by decide +kernel, rfl⟩
theorem d_M_learns_29 : cd_Dk b_M_learns 29 (nI 0) 30 := Or.inl ⟨0, ⟨by decide +kernel, rfl⟩, by decide +kernel⟩
theorem d_M_learns_30 : cd_Dk b_M_learns 30 (nI 99) 32 := Or.inr (Or.inl ⟨99, ⟨by decide +kernel, rfl⟩, by decide +kernel⟩)
theorem d_M_learns_32 : cd_D 3 b_M_learns 32 (.invokestatic 104) 35 := ⟨by decide +kernel, rfl⟩
theorem d_M_learns_35 : cd_D 3 b_M_learns 35 (.invokevirtual 79) 38 := ⟨by decide +kernel, rfl⟩
theorem d_M_learns_38 : cd_D 1 b_M_learns 38 .return_ 39 := ⟨by decide +kernel, rfl⟩
theorem c_M_learns {l : Launch} {w : cd_WT} {S : cd_Sp} {I : cd_Mem} {m : Nat} (hM : cd_MO w S m) (i : Nat) (hi : i < 12) : cd_C l w m_M_learns 2 0 0 [.ref m, .int (nI i)] S I (cd_Fv S (cd_set I (m + 1) (cd_le (I (m + 1)) i))) := by
  refine cd_intro (by decide) (by simp [Value.category]) (Nat.le_of_ble_eq_true rfl) ?_
  intro X hO hE
  show cd_J w X 0 0 S I 0 [some (.ref m), some (.int (nI i))] []
  refine r_aload hO d_M_learns_0 rfl ?_
  refine r_iload hO d_M_learns_1 rfl ?_
  refine r_k hO d_M_learns_2 ?_
  refine r_aload hO d_M_learns_3 rfl ?_
  refine r_iload hO d_M_learns_4 rfl ?_
  refine r_k hO d_M_learns_5 ?_
  refine r_cV2fi hO hE (c_M_of hM _ _ (by omega)) mf_M_of lk_M_97 hM.2.1 rfl (by decide) rfl (Nat.le_of_ble_eq_true rfl) d_M_learns_6 (Nat.zero_le _) (Nat.zero_le _) ?_
  try simp only [cd_set_eq, cd_set_set]
  refine r_k hO d_M_learns_9 ?_
  refine r_iadd hO d_M_learns_10 ?_
  refine r_cV3fv hO hE (c_M_put hM _ _ _ (by omega)) mf_M_put lk_M_79 hM.2.1 rfl (by decide) rfl (Nat.le_of_ble_eq_true rfl) d_M_learns_11 (Nat.zero_le _) (Nat.zero_le _) ?_
  try simp only [cd_set_eq, cd_set_set]
  refine r_aload hO d_M_learns_14 rfl ?_
  refine r_iload hO d_M_learns_15 rfl ?_
  refine r_k hO d_M_learns_16 ?_
  refine r_aload hO d_M_learns_17 rfl ?_
  refine r_iload hO d_M_learns_18 rfl ?_
  refine r_k hO d_M_learns_19 ?_
  refine r_cV2fi hO hE (c_M_of hM _ _ (by omega)) mf_M_of lk_M_97 hM.2.1 rfl (by decide) rfl (Nat.le_of_ble_eq_true rfl) d_M_learns_20 (Nat.zero_le _) (Nat.zero_le _) ?_
  try simp only [cd_set_eq, cd_set_set]
  refine r_aload hO d_M_learns_23 rfl ?_
  refine r_iload hO d_M_learns_24 rfl ?_
  refine r_cV1fi hO hE (c_M_learnsOf hM _ hi) mf_M_learnsOf lk_M_115 hM.2.1 rfl (by decide) rfl (Nat.le_of_ble_eq_true rfl) d_M_learns_25 (Nat.zero_le _) (Nat.zero_le _) ?_
  try simp only [cd_set_eq, cd_set_set]
  refine r_iadd hO d_M_learns_28 ?_
  refine r_k hO d_M_learns_29 ?_
  refine r_k hO d_M_learns_30 ?_
  refine r_cS3fi hO hE (c_M_within _ _ _) mf_M_within lk_M_104 (by decide) rfl (Nat.le_of_ble_eq_true rfl) d_M_learns_32 (Nat.zero_le _) (Nat.zero_le _) ?_
  try simp only [cd_set_eq, cd_set_set]
  refine r_cV3fv hO hE (c_M_put hM _ _ _ (by omega)) mf_M_put lk_M_79 hM.2.1 rfl (by decide) rfl (Nat.le_of_ble_eq_true rfl) d_M_learns_35 (Nat.zero_le _) (Nat.zero_le _) ?_
  try simp only [cd_set_eq, cd_set_set]
  refine r_vret hO hE (Nat.zero_le _) (Nat.zero_le _) d_M_learns_38 ?_
  exact ⟨rfl, rfl, rfl⟩
theorem d_M_rises_0 : cd_D_aload b_M_rises 0 0 1 := Or.inr ⟨0, ⟨by decide +kernel, rfl⟩, rfl⟩
theorem d_M_rises_1 : cd_D 3 b_M_rises 1 (.getfield 9) 4 := ⟨by decide +kernel, rfl⟩
theorem d_M_rises_4 : cd_Dk b_M_rises 4 (nI 10) 6 := Or.inr (Or.inl ⟨10, ⟨by decide +kernel, rfl⟩, by decide +kernel⟩)
theorem d_M_rises_6 : cd_D 1 b_M_rises 6 .dup2 7 := ⟨by decide +kernel, rfl⟩
theorem d_M_rises_7 : cd_D 1 b_M_rises 7 .iaload 8 := ⟨by decide +kernel, rfl⟩
theorem d_M_rises_8 : cd_Dk b_M_rises 8 (nI 1) 9 := Or.inl ⟨1, ⟨by decide +kernel, rfl⟩, by decide +kernel⟩
theorem d_M_rises_9 : cd_D 1 b_M_rises 9 .iadd 10 := ⟨by decide +kernel, rfl⟩
theorem d_M_rises_10 : cd_D 1 b_M_rises 10 .iastore 11 := ⟨by decide +kernel, rfl⟩
theorem d_M_rises_11 : cd_D_aload b_M_rises 11 0 12 := Or.inr ⟨0, ⟨by decide +kernel, rfl⟩, rfl⟩
theorem d_M_rises_12 : cd_D_iload b_M_rises 12 1 13 := Or.inr ⟨1, ⟨by decide +kernel, rfl⟩, rfl⟩
theorem d_M_rises_13 : cd_D 3 b_M_rises 13 (.invokevirtual 145) 16 := ⟨by decide +kernel, rfl⟩
theorem d_M_rises_16 : cd_D_aload b_M_rises 16 0 17 := Or.inr ⟨0, ⟨by decide +kernel, rfl⟩, rfl⟩
theorem d_M_rises_17 : cd_D_iload b_M_rises 17 1 18 := Or.inr ⟨1, ⟨by decide +kernel, rfl⟩, rfl⟩
theorem d_M_rises_18 : cd_D 3 b_M_rises 18 (.invokevirtual 149) 21 := ⟨by decide +kernel, rfl⟩
theorem d_M_rises_21 : cd_D 1 b_M_rises 21 .ireturn 22 := ⟨by decide +kernel, rfl⟩
theorem c_M_rises {l : Launch} {w : cd_WT} {S : cd_Sp} {I : cd_Mem} {m : Nat} (hM : cd_MO w S m) (i : Nat) (hi : i < 12) : cd_C l w m_M_rises 3 0 0 [.ref m, .int (nI i)] S I (cd_Fi S (cd_ri (I (m + 1)) i).1 (cd_set I (m + 1) (cd_ri (I (m + 1)) i).2)) := by
  refine cd_intro (by decide) (by simp [Value.category]) (Nat.le_of_ble_eq_true rfl) ?_
  intro X hO hE
  show cd_J w X 0 0 S I 0 [some (.ref m), some (.int (nI i))] []
  refine r_aload hO d_M_rises_0 rfl ?_
  refine r_getR hO f_M_9 rfl hM.2.1 (mo_r1 hM) d_M_rises_1 ?_
  refine r_k hO d_M_rises_4 ?_
  refine r_dup2 hO d_M_rises_6 rfl rfl ?_
  refine r_iald hO (mo_s1 hM) (by omega) (by decide) d_M_rises_7 ?_
  refine r_k hO d_M_rises_8 ?_
  refine r_iadd hO d_M_rises_9 ?_
  refine r_iast hO (mo_s1 hM) (mo_l1 hM) (by omega) (by decide) d_M_rises_10 ?_
  refine r_aload hO d_M_rises_11 rfl ?_
  refine r_iload hO d_M_rises_12 rfl ?_
  refine r_cV1fv hO hE (c_M_learns hM _ hi) mf_M_learns lk_M_145 hM.2.1 rfl (by decide) rfl (Nat.le_of_ble_eq_true rfl) d_M_rises_13 (Nat.zero_le _) (Nat.zero_le _) ?_
  try simp only [cd_set_eq, cd_set_set]
  refine r_aload hO d_M_rises_16 rfl ?_
  refine r_iload hO d_M_rises_17 rfl ?_
  refine r_cV1fi hO hE (c_M_goesAsMeant hM _ hi) mf_M_goesAsMeant lk_M_149 hM.2.1 rfl (by decide) rfl (Nat.le_of_ble_eq_true rfl) d_M_rises_18 (Nat.zero_le _) (Nat.zero_le _) ?_
  try simp only [cd_set_eq, cd_set_set]
  refine r_iret hO hE (Nat.zero_le _) (Nat.zero_le _) d_M_rises_21 ?_
  exact ⟨rfl, rfl, rfl⟩
