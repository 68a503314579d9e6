section CDN
variable {l : Launch} {w : cd_WT} {X : cd_XT} {cc : ByteArray} {own : String} {d mc ms : Nat} {k n : Nat} {S : cd_Sp} {I : cd_Mem} {pc pc' tgt : Nat} {lv : List (Option Value)} {st : List Value} {nL : Nat} {rt : Option FieldType} {nm : String} {post : cd_Pt}
theorem r_cN2fi (hO : cd_O w X cc own d mc ms l) (hE : cd_E w X nL rt mc ms nm post) {m : cd_MT} {d' index : Nat} {v1 v2 : Value} {x : Int32} {J : cd_Mem} (hc : cd_C l w m d' 0 0 [v1, v2] S I (cd_Fi S x J)) (hm : cd_MS m 2) (host : String) (hlk : (own, index, m.1, host) ∈ cd_nn) (hdd : d' + 1 ≤ d) (hlv : lv.length = nL) (hcat : (st.map fun v => v.category).sum ≤ 8) (hd : cd_D 3 cc pc (.invokestatic index) pc') (hk : k ≤ mc) (hn : n ≤ ms) (kk : cd_J w X k n S J pc' lv (.int x :: st)) : cd_J w X k n S I pc lv (v2 :: v1 :: st) := by
  intro H ls locs hR hL hq
  obtain ⟨hd, rfl⟩ := hd
  have hl9 := hO.2.2.2.2.2.2.2.2.2
  unfold cd_C at hc
  rw [← hl9] at hc
  have hf := hO.2.2.2.2.2.1
  have hl := hO.2.2.2.2.2.2.1
  obtain ⟨h1, h2, h3, h4⟩ := hm.1
  refine cd_after (a := #[]) hR hL hq (va_runSN (n := 2) (As := [v1, v2]) (rest := st) ⟨hO.1, hO.2.1, hE.1, hO.2.2.1, hO.2.2.2.1⟩ hc ⟨va_cnB (host := host) 2 hO.2.2.2.1 (cd_goodIn h1) rfl rfl rfl (hO.2.2.2.2.1.2.2.2.2.1 _ hlk) (hO.2.2.2.1 _ h2) h3 ⟨Nat.le_trans hdd hf, by show 8 + (m.2.2.1 + 11) + 41 * d' ≤ _; omega⟩, hO.2.2.2.1 _ hm.2, trivial⟩ ⟨cd_blind, fun U hU hW => ⟨rfl, by rw [hU]; exact hR, hO.2.2.2.2.1.warm hW⟩⟩ rfl rfl (hL.1.trans hlv) rfl (lv_room hcat) hd ⟨Nat.le_trans hk hO.2.2.2.2.2.2.2.1, Nat.le_trans hn hO.2.2.2.2.2.2.2.2.1⟩) (fun r S' I' h => by obtain ⟨rfl, rfl, rfl⟩ := h; exact kk)
end CDN
/-- a house and its cells -/
def cd_HO (w : cd_WT) (S : cd_Sp) (h : Nat) : Prop := w.1 ≤ h ∧ S.2.1 h = (1, 1) ∧ (S.2.2 h 0 = some (h + 1) ∧ S.2.1 (h + 1) = (2, 7)) ∧ (S.2.2 h 1 = some (h + 2) ∧ S.2.1 (h + 2) = (2, 5)) ∧ (S.2.2 h 2 = some (h + 3) ∧ S.2.1 (h + 3) = (6, 12)) ∧ (S.2.2 h 6 = some (h + 4) ∧ S.2.1 (h + 4) = (7, 14)) ∧ (S.2.2 h 8 = some (h + 5) ∧ S.2.1 (h + 5) = (2, 3)) ∧ ∀ i, i < 12 → S.2.2 (h + 3) i = some (h + 6 + i) ∧ S.2.1 (h + 6 + i) = (1, 0)
def cd_tk (r r' : Nat → Int32) : Nat → Int32 := upd (upd (upd (upd (upd r 0 (r' 0)) 1 (r' 1)) 2 (r' 2)) 3 (r' 3)) 4 (r' 4)
def cd_mx (x y : Int32) : Int32 := if x < y then y else x
def cd_mn (x y : Int32) : Int32 := if y < x then y else x
def cd_me (k e cat wet : Int32) : Int32 := if k = nI 1 then e / nI 2 else if k = nI 2 then (if wet = nI 1 ∧ cat = 0 then nI 10 else e) else if k = nI 3 then (if cat = nI 1 then nI 100 else e / nI 2) else if k = nI 4 then (if wet = nI 1 ∧ cat = 0 then nI 10 else e) else if k = nI 5 then nI 0 else e
theorem cd_dawn (b : Int32) : nI 99 - b - nI 8 = nI 91 - b := by
  have e : nI 99 + -nI 8 = nI 91 := by decide
  rw [Int32.sub_eq_add_neg, Int32.sub_eq_add_neg, Int32.add_assoc, Int32.add_comm (-b), ← Int32.add_assoc, e, ← Int32.sub_eq_add_neg]
theorem d_A_takes_0 : cd_D_aload b_A_takes 0 0 1 := Or.inr ⟨0, ⟨by decide +kernel, rfl⟩, rfl⟩
theorem d_A_takes_1 : cd_D_aload b_A_takes 1 1 2 := Or.inr ⟨1, ⟨by decide +kernel, rfl⟩, rfl⟩
theorem d_A_takes_2 : cd_D 3 b_A_takes 2 (.getfield 9) 5 := ⟨by decide +kernel, rfl⟩
theorem d_A_takes_5 : cd_D 3 b_A_takes 5 (.putfield 9) 8 := ⟨by decide +kernel, rfl⟩
theorem d_A_takes_8 : cd_D_aload b_A_takes 8 0 9 := Or.inr ⟨0, ⟨by decide +kernel, rfl⟩, rfl⟩
theorem d_A_takes_9 : cd_D_aload b_A_takes 9 1 10 := Or.inr ⟨1, ⟨by decide +kernel, rfl⟩, rfl⟩
theorem d_A_takes_10 : cd_D 3 b_A_takes 10 (.getfield 15) 13 := ⟨by decide +kernel, rfl⟩
theorem d_A_takes_13 : cd_D 3 b_A_takes 13 (.putfield 15) 16 := ⟨by decide +kernel, rfl⟩
theorem d_A_takes_16 : cd_D_aload b_A_takes 16 0 17 := Or.inr ⟨0, ⟨by decide +kernel, rfl⟩, rfl⟩
theorem d_A_takes_17 : cd_D_aload b_A_takes 17 1 18 := Or.inr ⟨1, ⟨by decide +kernel, rfl⟩, rfl⟩
theorem d_A_takes_18 : cd_D 3 b_A_takes 18 (.getfield 18) 21 := ⟨by decide +kernel, rfl⟩
theorem d_A_takes_21 : cd_D 3 b_A_takes 21 (.putfield 18) 24 := ⟨by decide +kernel, rfl⟩
theorem d_A_takes_24 : cd_D_aload b_A_takes 24 0 25 := Or.inr ⟨0, ⟨by decide +kernel, rfl⟩, rfl⟩
theorem d_A_takes_25 : cd_D_aload b_A_takes 25 1 26 := Or.inr ⟨1, ⟨by decide +kernel, rfl⟩, rfl⟩
theorem d_A_takes_26 : cd_D 3 b_A_takes 26 (.getfield 21) 29 := ⟨by decide +kernel, rfl⟩
theorem d_A_takes_29 : cd_D 3 b_A_takes 29 (.putfield 21) 32 := ⟨by decide +kernel, rfl⟩
theorem d_A_takes_32 : cd_D_aload b_A_takes 32 0 33 := Or.inr ⟨0, ⟨by decide +kernel, rfl⟩, rfl⟩
theorem d_A_takes_33 : cd_D_aload b_A_takes 33 1 34 := Or.inr ⟨1, ⟨by decide +kernel, rfl⟩, rfl⟩
theorem d_A_takes_34 : cd_D 3 b_A_takes 34 (.getfield 24) 37 := ⟨by decide +kernel, rfl⟩
theorem d_A_takes_37 : cd_D 3 b_A_takes 37 (.putfield 24) 40 := ⟨by decide +kernel, rfl⟩
theorem d_A_takes_40 : cd_D 1 b_A_takes 40 .return_ 41 := ⟨by decide +kernel, rfl⟩
theorem c_A_takes {l : Launch} {w : cd_WT} {S : cd_Sp} {I : cd_Mem} {a : Nat} (hA : S.2.1 a = (1, 0)) (hAl : w.1 ≤ a) {b : Nat} (hB : S.2.1 b = (1, 0)) (hab : b ≠ a) : cd_C l w m_A_takes 0 0 0 [.ref a, .ref b] S I (cd_Fv S (cd_set I a (cd_tk (I a) (I b)))) := by
  refine cd_intro (by decide) (by simp [Value.category]) (Nat.le_of_ble_eq_true rfl) ?_
  intro X hO hE
  show cd_J w X 0 0 S I 0 [some (.ref a), some (.ref b)] []
  refine r_aload hO d_A_takes_0 rfl ?_
  refine r_aload hO d_A_takes_1 rfl ?_
  refine r_getI hO f_A_9 rfl hB d_A_takes_2 ?_
  refine r_putI hO f_A_9 rfl hA hAl d_A_takes_5 ?_
  refine r_aload hO d_A_takes_8 rfl ?_
  refine r_aload hO d_A_takes_9 rfl ?_
  refine r_getI hO f_A_15 rfl hB d_A_takes_10 ?_
  try simp only [cd_set_eq, cd_set_set, cd_set_ne _ _ hab]
  refine r_putI hO f_A_15 rfl hA hAl d_A_takes_13 ?_
  try simp only [cd_set_eq, cd_set_set, cd_set_ne _ _ hab]
  refine r_aload hO d_A_takes_16 rfl ?_
  refine r_aload hO d_A_takes_17 rfl ?_
  refine r_getI hO f_A_18 rfl hB d_A_takes_18 ?_
  try simp only [cd_set_eq, cd_set_set, cd_set_ne _ _ hab]
  refine r_putI hO f_A_18 rfl hA hAl d_A_takes_21 ?_
  try simp only [cd_set_eq, cd_set_set, cd_set_ne _ _ hab]
  refine r_aload hO d_A_takes_24 rfl ?_
  refine r_aload hO d_A_takes_25 rfl ?_
  refine r_getI hO f_A_21 rfl hB d_A_takes_26 ?_
  try simp only [cd_set_eq, cd_set_set, cd_set_ne _ _ hab]
  refine r_putI hO f_A_21 rfl hA hAl d_A_takes_29 ?_
  try simp only [cd_set_eq, cd_set_set, cd_set_ne _ _ hab]
  refine r_aload hO d_A_takes_32 rfl ?_
  refine r_aload hO d_A_takes_33 rfl ?_
  refine r_getI hO f_A_24 rfl hB d_A_takes_34 ?_
  try simp only [cd_set_eq, cd_set_set, cd_set_ne _ _ hab]
  refine r_putI hO f_A_24 rfl hA hAl d_A_takes_37 ?_
  try simp only [cd_set_eq, cd_set_set, cd_set_ne _ _ hab]
  refine r_vret hO hE (Nat.zero_le _) (Nat.zero_le _) d_A_takes_40 ?_
  exact ⟨rfl, rfl, rfl⟩
theorem d_A_worth_0 : cd_D_aload b_A_worth 0 0 1 := Or.inr ⟨0, ⟨by decide +kernel, rfl⟩, rfl⟩
theorem d_A_worth_1 : cd_D 3 b_A_worth 1 (.getfield 9) 4 := ⟨by decide +kernel, rfl⟩
theorem d_A_worth_4 : decode b_A_worth 4 = .ok (.tableswitch (75) (1) (5) #[36, 54, 44, 62, 73], 36) := by decide +kernel
theorem d_A_worth_40 : cd_D_aload b_A_worth 40 0 41 := Or.inr ⟨0, ⟨by decide +kernel, rfl⟩, rfl⟩
theorem d_A_worth_41 : cd_D 3 b_A_worth 41 (.getfield 18) 44 := ⟨by decide +kernel, rfl⟩
theorem d_A_worth_44 : cd_Dk b_A_worth 44 (nI 6) 46 := Or.inr (Or.inl ⟨6, ⟨by decide +kernel, rfl⟩, by decide +kernel⟩)
theorem d_A_worth_46 : cd_D 1 b_A_worth 46 .iadd 47 := ⟨by decide +kernel, rfl⟩
theorem d_A_worth_47 : cd_D 1 b_A_worth 47 .ireturn 48 := ⟨by decide +kernel, rfl⟩
theorem d_A_worth_48 : cd_Dk b_A_worth 48 (nI 2) 49 := Or.inl ⟨2, ⟨by decide +kernel, rfl⟩, by decide +kernel⟩
theorem d_A_worth_49 : cd_D_aload b_A_worth 49 0 50 := Or.inr ⟨0, ⟨by decide +kernel, rfl⟩, rfl⟩
theorem d_A_worth_50 : cd_D 3 b_A_worth 50 (.getfield 18) 53 := ⟨by decide +kernel, rfl⟩
theorem d_A_worth_53 : cd_Dk b_A_worth 53 (nI 6) 55 := Or.inr (Or.inl ⟨6, ⟨by decide +kernel, rfl⟩, by decide +kernel⟩)
theorem d_A_worth_55 : cd_D 1 b_A_worth 55 .iadd 56 := ⟨by decide +kernel, rfl⟩
theorem d_A_worth_56 : cd_D 1 b_A_worth 56 .imul 57 := ⟨by decide +kernel, rfl⟩
theorem d_A_worth_57 : cd_D 1 b_A_worth 57 .ireturn 58 := ⟨by decide +kernel, rfl⟩
theorem d_A_worth_58 : cd_Dk b_A_worth 58 (nI 99) 60 := Or.inr (Or.inl ⟨99, ⟨by decide +kernel, rfl⟩, by decide +kernel⟩)
theorem d_A_worth_60 : cd_D_aload b_A_worth 60 0 61 := Or.inr ⟨0, ⟨by decide +kernel, rfl⟩, rfl⟩
theorem d_A_worth_61 : cd_D 3 b_A_worth 61 (.getfield 18) 64 := ⟨by decide +kernel, rfl⟩
theorem d_A_worth_64 : cd_D 1 b_A_worth 64 .isub 65 := ⟨by decide +kernel, rfl⟩
theorem d_A_worth_65 : cd_D 1 b_A_worth 65 .ireturn 66 := ⟨by decide +kernel, rfl⟩
theorem d_A_worth_66 : cd_Dk b_A_worth 66 (nI 99) 68 := Or.inr (Or.inl ⟨99, ⟨by decide +kernel, rfl⟩, by decide +kernel⟩)
theorem d_A_worth_68 : cd_D_aload b_A_worth 68 0 69 := Or.inr ⟨0, ⟨by decide +kernel, rfl⟩, rfl⟩
theorem d_A_worth_69 : cd_D 3 b_A_worth 69 (.getfield 18) 72 := ⟨by decide +kernel, rfl⟩
theorem d_A_worth_72 : cd_D 1 b_A_worth 72 .isub 73 := ⟨by decide +kernel, rfl⟩
theorem d_A_worth_73 : cd_Dk b_A_worth 73 (nI 8) 75 := Or.inr (Or.inl ⟨8, ⟨by decide +kernel, rfl⟩, by decide +kernel⟩)
theorem d_A_worth_75 : cd_D 1 b_A_worth 75 .isub 76 := ⟨by decide +kernel, rfl⟩
theorem d_A_worth_76 : cd_D 1 b_A_worth 76 .ireturn 77 := ⟨by decide +kernel, rfl⟩
theorem d_A_worth_77 : cd_Dk b_A_worth 77 (nI 3) 78 := Or.inl ⟨3, ⟨by decide +kernel, rfl⟩, by decide +kernel⟩
theorem d_A_worth_78 : cd_D 1 b_A_worth 78 .ireturn 79 := ⟨by decide +kernel, rfl⟩
theorem d_A_worth_79 : cd_D_aload b_A_worth 79 0 80 := Or.inr ⟨0, ⟨by decide +kernel, rfl⟩, rfl⟩
theorem d_A_worth_80 : cd_D 3 b_A_worth 80 (.getfield 18) 83 := ⟨by decide +kernel, rfl⟩
theorem d_A_worth_83 : cd_D 1 b_A_worth 83 .ireturn 84 := ⟨by decide +kernel, rfl⟩
theorem c_A_worth {l : Launch} {w : cd_WT} {S : cd_Sp} {I : cd_Mem} {a : Nat} (hA : S.2.1 a = (1, 0)) (hAl : w.1 ≤ a)  : cd_C l w m_A_worth 0 0 0 [.ref a] S I (cd_Fi S (cd_wor (I a 0) (I a 2)) I) := by
  refine cd_intro (by decide) (by simp [Value.category]) (Nat.le_of_ble_eq_true rfl) ?_
  intro X hO hE
  show cd_J w X 0 0 S I 0 [some (.ref a)] []
  refine r_aload hO d_A_worth_0 rfl ?_
  refine r_getI hO f_A_9 rfl hA d_A_worth_1 ?_
  by_cases c_4_1 : I a 0 = nI 1
  · refine r_tabE hO d_A_worth_4 c_4_1 (off := 36) (by decide) (by decide) (by decide) (tgt := 40) (by decide) ?_
    refine r_aload hO d_A_worth_40 rfl ?_
    refine r_getI hO f_A_18 rfl hA d_A_worth_41 ?_
    refine r_k hO d_A_worth_44 ?_
    refine r_iadd hO d_A_worth_46 ?_
    refine r_iret hO hE (Nat.zero_le _) (Nat.zero_le _) d_A_worth_47 ?_
    exact ⟨by unfold cd_wor; (repeat' split) <;> first | rfl | contradiction | (exfalso; simp only [Int32.lt_iff_toInt_lt, Int32.le_iff_toInt_le] at *; omega), rfl, rfl⟩
  by_cases c_4_2 : I a 0 = nI 2
  · refine r_tabE hO d_A_worth_4 c_4_2 (off := 54) (by decide) (by decide) (by decide) (tgt := 58) (by decide) ?_
    refine r_k hO d_A_worth_58 ?_
    refine r_aload hO d_A_worth_60 rfl ?_
    refine r_getI hO f_A_18 rfl hA d_A_worth_61 ?_
    refine r_isub hO d_A_worth_64 ?_
    refine r_iret hO hE (Nat.zero_le _) (Nat.zero_le _) d_A_worth_65 ?_
    exact ⟨by unfold cd_wor; (repeat' split) <;> first | rfl | contradiction | (exfalso; simp only [Int32.lt_iff_toInt_lt, Int32.le_iff_toInt_le] at *; omega), rfl, rfl⟩
  by_cases c_4_3 : I a 0 = nI 3
  · refine r_tabE hO d_A_worth_4 c_4_3 (off := 44) (by decide) (by decide) (by decide) (tgt := 48) (by decide) ?_
    refine r_k hO d_A_worth_48 ?_
    refine r_aload hO d_A_worth_49 rfl ?_
    refine r_getI hO f_A_18 rfl hA d_A_worth_50 ?_
    refine r_k hO d_A_worth_53 ?_
    refine r_iadd hO d_A_worth_55 ?_
    refine r_imul hO d_A_worth_56 ?_
    refine r_iret hO hE (Nat.zero_le _) (Nat.zero_le _) d_A_worth_57 ?_
    exact ⟨by unfold cd_wor; (repeat' split) <;> first | rfl | contradiction | (exfalso; simp only [Int32.lt_iff_toInt_lt, Int32.le_iff_toInt_le] at *; omega), rfl, rfl⟩
  by_cases c_4_4 : I a 0 = nI 4
  · refine r_tabE hO d_A_worth_4 c_4_4 (off := 62) (by decide) (by decide) (by decide) (tgt := 66) (by decide) ?_
    refine r_k hO d_A_worth_66 ?_
    refine r_aload hO d_A_worth_68 rfl ?_
    refine r_getI hO f_A_18 rfl hA d_A_worth_69 ?_
    refine r_isub hO d_A_worth_72 ?_
    refine r_k hO d_A_worth_73 ?_
    refine r_isub hO d_A_worth_75 ?_
    refine r_tops (cd_dawn _) ?_
    refine r_iret hO hE (Nat.zero_le _) (Nat.zero_le _) d_A_worth_76 ?_
    exact ⟨by unfold cd_wor; (repeat' split) <;> first | rfl | contradiction | (exfalso; simp only [Int32.lt_iff_toInt_lt, Int32.le_iff_toInt_le] at *; omega), rfl, rfl⟩
  by_cases c_4_5 : I a 0 = nI 5
  · refine r_tabE hO d_A_worth_4 c_4_5 (off := 73) (by decide) (by decide) (by decide) (tgt := 77) (by decide) ?_
    refine r_k hO d_A_worth_77 ?_
    refine r_iret hO hE (Nat.zero_le _) (Nat.zero_le _) d_A_worth_78 ?_
    exact ⟨by unfold cd_wor; (repeat' split) <;> first | rfl | contradiction | (exfalso; simp only [Int32.lt_iff_toInt_lt, Int32.le_iff_toInt_le] at *; omega), rfl, rfl⟩
  refine r_tabN hO d_A_worth_4 (by decide) (fun j hj => ?_) (tgt := 79) (by decide) ?_
  · have hj2 : j < 5 := hj
    rcases (show j = 0 ∨ j = 1 ∨ j = 2 ∨ j = 3 ∨ j = 4 by omega) with rfl | rfl | rfl | rfl | rfl
    · exact Or.inl (fun e => c_4_1 (e.trans (by decide)))
    · exact Or.inl (fun e => c_4_2 (e.trans (by decide)))
    · exact Or.inl (fun e => c_4_3 (e.trans (by decide)))
    · exact Or.inl (fun e => c_4_4 (e.trans (by decide)))
    · exact Or.inl (fun e => c_4_5 (e.trans (by decide)))
  refine r_aload hO d_A_worth_79 rfl ?_
  refine r_getI hO f_A_18 rfl hA d_A_worth_80 ?_
  refine r_iret hO hE (Nat.zero_le _) (Nat.zero_le _) d_A_worth_83 ?_
  exact ⟨by unfold cd_wor; (repeat' split) <;> first | rfl | contradiction | (exfalso; simp only [Int32.lt_iff_toInt_lt, Int32.le_iff_toInt_le] at *; omega), rfl, rfl⟩
theorem d_A_works_0 : cd_D_aload b_A_works 0 0 1 := Or.inr ⟨0, ⟨by decide +kernel, rfl⟩, rfl⟩
theorem d_A_works_1 : cd_D 1 b_A_works 1 .dup 2 := ⟨by decide +kernel, rfl⟩
theorem d_A_works_2 : cd_D 3 b_A_works 2 (.getfield 24) 5 := ⟨by decide +kernel, rfl⟩
theorem d_A_works_5 : cd_Dk b_A_works 5 (nI 1) 6 := Or.inl ⟨1, ⟨by decide +kernel, rfl⟩, by decide +kernel⟩
theorem d_A_works_6 : cd_D 1 b_A_works 6 .iadd 7 := ⟨by decide +kernel, rfl⟩
theorem d_A_works_7 : cd_D 3 b_A_works 7 (.putfield 24) 10 := ⟨by decide +kernel, rfl⟩
theorem d_A_works_10 : cd_D_aload b_A_works 10 0 11 := Or.inr ⟨0, ⟨by decide +kernel, rfl⟩, rfl⟩
theorem d_A_works_11 : cd_Dk b_A_works 11 (nI 99) 13 := Or.inr (Or.inl ⟨99, ⟨by decide +kernel, rfl⟩, by decide +kernel⟩)
theorem d_A_works_13 : cd_D_aload b_A_works 13 0 14 := Or.inr ⟨0, ⟨by decide +kernel, rfl⟩, rfl⟩
theorem d_A_works_14 : cd_D 3 b_A_works 14 (.getfield 18) 17 := ⟨by decide +kernel, rfl⟩
theorem d_A_works_17 : cd_D 3 b_A_works 17 (.getstatic 46) 20 := ⟨by decide +kernel, rfl⟩
theorem d_A_works_20 : cd_D_aload b_A_works 20 0 21 := Or.inr ⟨0, ⟨by decide +kernel, rfl⟩, rfl⟩
theorem d_A_works_21 : cd_D 3 b_A_works 21 (.getfield 9) 24 := ⟨by decide +kernel, rfl⟩
theorem d_A_works_24 : cd_D 1 b_A_works 24 .iaload 25 := ⟨by decide +kernel, rfl⟩
theorem d_A_works_25 : cd_D 1 b_A_works 25 .iadd 26 := ⟨by decide +kernel, rfl⟩
theorem d_A_works_26 : cd_D 3 b_A_works 26 (.invokestatic 49) 29 := ⟨by decide +kernel, rfl⟩
theorem d_A_works_29 : cd_D 3 b_A_works 29 (.putfield 18) 32 := ⟨by decide +kernel, rfl⟩
theorem d_A_works_32 : cd_D 1 b_A_works 32 .return_ 33 := ⟨by decide +kernel, rfl⟩
theorem c_A_works {l : Launch} {w : cd_WT} {S : cd_Sp} {I : cd_Mem} {a : Nat} (hA : S.2.1 a = (1, 0)) (hAl : w.1 ≤ a) (kd : Nat) (hk : I a 0 = nI kd) (hk5 : kd ≤ 5) : cd_C l w m_A_works 1 0 0 [.ref a] S I (cd_Fv S (cd_set I a (upd (upd (I a) 4 (I a 4 + nI 1)) 2 (cd_mn (nI 99) (I a 2 + (cd_sv 1).getD kd 0))))) := by
  refine cd_intro (by decide) (by simp [Value.category]) (Nat.le_of_ble_eq_true rfl) ?_
  intro X hO hE
  show cd_J w X 0 0 S I 0 [some (.ref a)] []
  refine r_aload hO d_A_works_0 rfl ?_
  refine r_dup hO d_A_works_1 rfl ?_
  refine r_getI hO f_A_24 rfl hA d_A_works_2 ?_
  refine r_k hO d_A_works_5 ?_
  refine r_iadd hO d_A_works_6 ?_
  refine r_putI hO f_A_24 rfl hA hAl d_A_works_7 ?_
  refine r_aload hO d_A_works_10 rfl ?_
  refine r_k hO d_A_works_11 ?_
  refine r_aload hO d_A_works_13 rfl ?_
  refine r_getI hO f_A_18 rfl hA d_A_works_14 ?_
  try simp only [cd_set_eq, cd_set_set]
  refine r_tops (show _ = I a 2 from rfl) ?_
  refine r_getsN (host := "CatDoors") hO 1 (by decide) (by decide) d_A_works_17 ?_
  refine r_aload hO d_A_works_20 rfl ?_
  refine r_getI hO f_A_9 rfl hA d_A_works_21 ?_
  try simp only [cd_set_eq, cd_set_set]
  refine r_tops (show _ = nI kd from hk) ?_
  refine r_stald hO (i := 1) (by decide) (show _ < 6 by omega) d_A_works_24 ?_
  try simp only [cd_set_eq, cd_set_set]
  refine r_iadd hO d_A_works_25 ?_
  refine r_mmin hO hE lk_A_49 cd_mmin (by omega) rfl (Nat.le_of_ble_eq_true rfl) (Nat.zero_le _) (Nat.zero_le _) d_A_works_26 ?_
  try simp only [cd_set_eq, cd_set_set]
  refine r_putI hO f_A_18 rfl hA hAl d_A_works_29 ?_
  try simp only [cd_set_eq, cd_set_set]
  refine r_vret hO hE (Nat.zero_le _) (Nat.zero_le _) d_A_works_32 ?_
  exact ⟨rfl, rfl, rfl⟩
theorem d_A_fails_0 : cd_D_aload b_A_fails 0 0 1 := Or.inr ⟨0, ⟨by decide +kernel, rfl⟩, rfl⟩
theorem d_A_fails_1 : cd_Dk b_A_fails 1 (nI 0) 2 := Or.inl ⟨0, ⟨by decide +kernel, rfl⟩, by decide +kernel⟩
theorem d_A_fails_2 : cd_D_aload b_A_fails 2 0 3 := Or.inr ⟨0, ⟨by decide +kernel, rfl⟩, rfl⟩
theorem d_A_fails_3 : cd_D 3 b_A_fails 3 (.getfield 18) 6 := ⟨by decide +kernel, rfl⟩
theorem d_A_fails_6 : cd_D 3 b_A_fails 6 (.getstatic 52) 9 := ⟨by decide +kernel, rfl⟩
theorem d_A_fails_9 : cd_D_aload b_A_fails 9 0 10 := Or.inr ⟨0, ⟨by decide +kernel, rfl⟩, rfl⟩
theorem d_A_fails_10 : cd_D 3 b_A_fails 10 (.getfield 9) 13 := ⟨by decide +kernel, rfl⟩
theorem d_A_fails_13 : cd_D 1 b_A_fails 13 .iaload 14 := ⟨by decide +kernel, rfl⟩
theorem d_A_fails_14 : cd_D 1 b_A_fails 14 .isub 15 := ⟨by decide +kernel, rfl⟩
theorem d_A_fails_15 : cd_D 3 b_A_fails 15 (.invokestatic 40) 18 := ⟨by decide +kernel, rfl⟩
theorem d_A_fails_18 : cd_D 3 b_A_fails 18 (.putfield 18) 21 := ⟨by decide +kernel, rfl⟩
theorem d_A_fails_21 : cd_D 1 b_A_fails 21 .return_ 22 := ⟨by decide +kernel, rfl⟩
theorem c_A_fails {l : Launch} {w : cd_WT} {S : cd_Sp} {I : cd_Mem} {a : Nat} (hA : S.2.1 a = (1, 0)) (hAl : w.1 ≤ a) (kd : Nat) (hk : I a 0 = nI kd) (hk5 : kd ≤ 5) : cd_C l w m_A_fails 1 0 0 [.ref a] S I (cd_Fv S (cd_set I a (upd (I a) 2 (cd_mx (nI 0) (I a 2 - (cd_sv 2).getD kd 0))))) := by
  refine cd_intro (by decide) (by simp [Value.category]) (Nat.le_of_ble_eq_true rfl) ?_
  intro X hO hE
  show cd_J w X 0 0 S I 0 [some (.ref a)] []
  refine r_aload hO d_A_fails_0 rfl ?_
  refine r_k hO d_A_fails_1 ?_
  refine r_aload hO d_A_fails_2 rfl ?_
  refine r_getI hO f_A_18 rfl hA d_A_fails_3 ?_
  refine r_getsN (host := "CatDoors") hO 2 (by decide) (by decide) d_A_fails_6 ?_
  refine r_aload hO d_A_fails_9 rfl ?_
  refine r_getI hO f_A_9 rfl hA d_A_fails_10 ?_
  refine r_tops (show _ = nI kd from hk) ?_
  refine r_stald hO (i := 2) (by decide) (show _ < 6 by omega) d_A_fails_13 ?_
  refine r_isub hO d_A_fails_14 ?_
  refine r_mmax hO hE lk_A_40 cd_mmax (by omega) rfl (Nat.le_of_ble_eq_true rfl) (Nat.zero_le _) (Nat.zero_le _) d_A_fails_15 ?_
  try simp only [cd_set_eq, cd_set_set]
  refine r_putI hO f_A_18 rfl hA hAl d_A_fails_18 ?_
  try simp only [cd_set_eq, cd_set_set]
  refine r_vret hO hE (Nat.zero_le _) (Nat.zero_le _) d_A_fails_21 ?_
  exact ⟨rfl, rfl, rfl⟩
theorem d_A_meansIt_0 : cd_D_aload b_A_meansIt 0 1 1 := Or.inr ⟨1, ⟨by decide +kernel, rfl⟩, rfl⟩
theorem d_A_meansIt_1 : cd_D 3 b_A_meansIt 1 (.getfield 37) 4 := ⟨by decide +kernel, rfl⟩
theorem d_A_meansIt_4 : cd_Dk b_A_meansIt 4 (nI 4) 5 := Or.inl ⟨4, ⟨by decide +kernel, rfl⟩, by decide +kernel⟩
theorem d_A_meansIt_5 : cd_D 1 b_A_meansIt 5 .iaload 6 := ⟨by decide +kernel, rfl⟩
theorem d_A_meansIt_6 : cd_Dk b_A_meansIt 6 (nI 1) 7 := Or.inl ⟨1, ⟨by decide +kernel, rfl⟩, by decide +kernel⟩
theorem d_A_meansIt_7 : cd_D_icmp_ne b_A_meansIt 7 14 10 := ⟨7, by decide +kernel, by decide, rfl⟩
theorem d_A_meansIt_10 : cd_Dk b_A_meansIt 10 (nI 1) 11 := Or.inl ⟨1, ⟨by decide +kernel, rfl⟩, by decide +kernel⟩
theorem d_A_meansIt_11 : cd_D_goto b_A_meansIt 11 15 := ⟨4, by decide +kernel, by decide⟩
theorem d_A_meansIt_14 : cd_Dk b_A_meansIt 14 (nI 0) 15 := Or.inl ⟨0, ⟨by decide +kernel, rfl⟩, by decide +kernel⟩
theorem d_A_meansIt_15 : cd_D_istore b_A_meansIt 15 2 16 := Or.inr ⟨2, ⟨by decide +kernel, rfl⟩, rfl⟩
theorem d_A_meansIt_16 : cd_D_aload b_A_meansIt 16 0 17 := Or.inr ⟨0, ⟨by decide +kernel, rfl⟩, rfl⟩
theorem d_A_meansIt_17 : cd_D 3 b_A_meansIt 17 (.getfield 9) 20 := ⟨by decide +kernel, rfl⟩
theorem d_A_meansIt_20 : decode b_A_meansIt 20 = .ok (.tableswitch (85) (1) (5) #[36, 59, 43, 59, 83], 36) := by decide +kernel
theorem d_A_meansIt_56 : cd_D_aload b_A_meansIt 56 0 57 := Or.inr ⟨0, ⟨by decide +kernel, rfl⟩, rfl⟩
theorem d_A_meansIt_57 : cd_D 3 b_A_meansIt 57 (.getfield 21) 60 := ⟨by decide +kernel, rfl⟩
theorem d_A_meansIt_60 : cd_Dk b_A_meansIt 60 (nI 2) 61 := Or.inl ⟨2, ⟨by decide +kernel, rfl⟩, by decide +kernel⟩
theorem d_A_meansIt_61 : cd_D 1 b_A_meansIt 61 .idiv 62 := ⟨by decide +kernel, rfl⟩
theorem d_A_meansIt_62 : cd_D 1 b_A_meansIt 62 .ireturn 63 := ⟨by decide +kernel, rfl⟩
theorem d_A_meansIt_63 : cd_D_iload b_A_meansIt 63 2 64 := Or.inr ⟨2, ⟨by decide +kernel, rfl⟩, rfl⟩
theorem d_A_meansIt_64 : cd_D_if_eq b_A_meansIt 64 72 67 := ⟨8, by decide +kernel, by decide, rfl⟩
theorem d_A_meansIt_67 : cd_Dk b_A_meansIt 67 (nI 100) 69 := Or.inr (Or.inl ⟨100, ⟨by decide +kernel, rfl⟩, by decide +kernel⟩)
theorem d_A_meansIt_69 : cd_D_goto b_A_meansIt 69 78 := ⟨9, by decide +kernel, by decide⟩
theorem d_A_meansIt_72 : cd_D_aload b_A_meansIt 72 0 73 := Or.inr ⟨0, ⟨by decide +kernel, rfl⟩, rfl⟩
theorem d_A_meansIt_73 : cd_D 3 b_A_meansIt 73 (.getfield 21) 76 := ⟨by decide +kernel, rfl⟩
theorem d_A_meansIt_76 : cd_Dk b_A_meansIt 76 (nI 2) 77 := Or.inl ⟨2, ⟨by decide +kernel, rfl⟩, by decide +kernel⟩
theorem d_A_meansIt_77 : cd_D 1 b_A_meansIt 77 .idiv 78 := ⟨by decide +kernel, rfl⟩
theorem d_A_meansIt_78 : cd_D 1 b_A_meansIt 78 .ireturn 79 := ⟨by decide +kernel, rfl⟩
theorem d_A_meansIt_79 : cd_D_aload b_A_meansIt 79 1 80 := Or.inr ⟨1, ⟨by decide +kernel, rfl⟩, rfl⟩
theorem d_A_meansIt_80 : cd_D 3 b_A_meansIt 80 (.getfield 37) 83 := ⟨by decide +kernel, rfl⟩
theorem d_A_meansIt_83 : cd_Dk b_A_meansIt 83 (nI 5) 84 := Or.inl ⟨5, ⟨by decide +kernel, rfl⟩, by decide +kernel⟩
theorem d_A_meansIt_84 : cd_D 1 b_A_meansIt 84 .iaload 85 := ⟨by decide +kernel, rfl⟩
theorem d_A_meansIt_85 : cd_Dk b_A_meansIt 85 (nI 1) 86 := Or.inl ⟨1, ⟨by decide +kernel, rfl⟩, by decide +kernel⟩
theorem d_A_meansIt_86 : cd_D_icmp_ne b_A_meansIt 86 98 89 := ⟨12, by decide +kernel, by decide, rfl⟩
theorem d_A_meansIt_89 : cd_D_iload b_A_meansIt 89 2 90 := Or.inr ⟨2, ⟨by decide +kernel, rfl⟩, rfl⟩
theorem d_A_meansIt_90 : cd_D_if_ne b_A_meansIt 90 98 93 := ⟨8, by decide +kernel, by decide, rfl⟩
theorem d_A_meansIt_93 : cd_Dk b_A_meansIt 93 (nI 10) 95 := Or.inr (Or.inl ⟨10, ⟨by decide +kernel, rfl⟩, by decide +kernel⟩)
theorem d_A_meansIt_95 : cd_D_goto b_A_meansIt 95 102 := ⟨7, by decide +kernel, by decide⟩
theorem d_A_meansIt_98 : cd_D_aload b_A_meansIt 98 0 99 := Or.inr ⟨0, ⟨by decide +kernel, rfl⟩, rfl⟩
theorem d_A_meansIt_99 : cd_D 3 b_A_meansIt 99 (.getfield 21) 102 := ⟨by decide +kernel, rfl⟩
theorem d_A_meansIt_102 : cd_D 1 b_A_meansIt 102 .ireturn 103 := ⟨by decide +kernel, rfl⟩
theorem d_A_meansIt_103 : cd_Dk b_A_meansIt 103 (nI 0) 104 := Or.inl ⟨0, ⟨by decide +kernel, rfl⟩, by decide +kernel⟩
theorem d_A_meansIt_104 : cd_D 1 b_A_meansIt 104 .ireturn 105 := ⟨by decide +kernel, rfl⟩
theorem d_A_meansIt_105 : cd_D_aload b_A_meansIt 105 0 106 := Or.inr ⟨0, ⟨by decide +kernel, rfl⟩, rfl⟩
theorem d_A_meansIt_106 : cd_D 3 b_A_meansIt 106 (.getfield 21) 109 := ⟨by decide +kernel, rfl⟩
theorem d_A_meansIt_109 : cd_D 1 b_A_meansIt 109 .ireturn 110 := ⟨by decide +kernel, rfl⟩
theorem c_A_meansIt {l : Launch} {w : cd_WT} {S : cd_Sp} {I : cd_Mem} {a : Nat} (hA : S.2.1 a = (1, 0)) (hAl : w.1 ≤ a) {h : Nat} (hH : cd_HO w S h) (hcat : I (h + 1) 4 = 0 ∨ I (h + 1) 4 = nI 1) : cd_C l w m_A_meansIt 0 0 0 [.ref a, .ref h] S I (cd_Fi S (cd_me (I a 0) (I a 3) (I (h + 1) 4) (I (h + 1) 5)) I) := by
  refine cd_intro (by decide) (by simp [Value.category]) (Nat.le_of_ble_eq_true rfl) ?_
  intro X hO hE
  show cd_J w X 0 0 S I 0 [some (.ref a), some (.ref h), none] []
  refine r_aload hO d_A_meansIt_0 rfl ?_
  refine r_getR hO f_A_37 rfl hH.2.1 hH.2.2.1.1 d_A_meansIt_1 ?_
  refine r_k hO d_A_meansIt_4 ?_
  refine r_iald hO hH.2.2.1.2 (by omega) (by decide) d_A_meansIt_5 ?_
  refine r_k hO d_A_meansIt_6 ?_
  refine r_jn2 (pcJ := 15) (fun v => v = cd_bI (I (h + 1) 4 = nI 1)) (fun v_7 hv_7 => ?_) (fun hj_7 => ?_)
  · subst hv_7
    refine r_sI2 hO d_A_meansIt_15 rfl ?_
    refine r_aload hO d_A_meansIt_16 rfl ?_
    refine r_getI hO f_A_9 rfl hA d_A_meansIt_17 ?_
    by_cases c_20_1 : I a 0 = nI 1
    · refine r_tabE hO d_A_meansIt_20 c_20_1 (off := 36) (by decide) (by decide) (by decide) (tgt := 56) (by decide) ?_
      refine r_aload hO d_A_meansIt_56 rfl ?_
      refine r_getI hO f_A_21 rfl hA d_A_meansIt_57 ?_
      refine r_k hO d_A_meansIt_60 ?_
      refine r_idiv hO d_A_meansIt_61 (by decide) ?_
      refine r_iret hO hE (Nat.zero_le _) (Nat.zero_le _) d_A_meansIt_62 ?_
      exact ⟨by unfold cd_me; (repeat' split) <;> first | rfl | contradiction | (exfalso; simp_all; done) | (exfalso; rcases hcat with q | q <;> simp_all [show ¬ (0 : Int32) = nI 1 by decide]; done), rfl, rfl⟩
    by_cases c_20_2 : I a 0 = nI 2
    · refine r_tabE hO d_A_meansIt_20 c_20_2 (off := 59) (by decide) (by decide) (by decide) (tgt := 79) (by decide) ?_
      refine r_aload hO d_A_meansIt_79 rfl ?_
      refine r_getR hO f_A_37 rfl hH.2.1 hH.2.2.1.1 d_A_meansIt_80 ?_
      refine r_k hO d_A_meansIt_83 ?_
      refine r_iald hO hH.2.2.1.2 (by omega) (by decide) d_A_meansIt_84 ?_
      refine r_k hO d_A_meansIt_85 ?_
      refine r_icmp_ne hO d_A_meansIt_86 (fun c_86 => ?_) (fun c_86 => ?_)
      · refine r_aload hO d_A_meansIt_98 rfl ?_
        refine r_getI hO f_A_21 rfl hA d_A_meansIt_99 ?_
        refine r_iret hO hE (Nat.zero_le _) (Nat.zero_le _) d_A_meansIt_102 ?_
        exact ⟨by unfold cd_me; (repeat' split) <;> first | rfl | contradiction | (exfalso; simp_all; done) | (exfalso; rcases hcat with q | q <;> simp_all [show ¬ (0 : Int32) = nI 1 by decide]; done), rfl, rfl⟩
      · refine r_iload hO d_A_meansIt_89 rfl ?_
        refine r_if_neB hO d_A_meansIt_90 (fun c_90 => ?_) (fun c_90 => ?_)
        · refine r_aload hO d_A_meansIt_98 rfl ?_
          refine r_getI hO f_A_21 rfl hA d_A_meansIt_99 ?_
          refine r_iret hO hE (Nat.zero_le _) (Nat.zero_le _) d_A_meansIt_102 ?_
          exact ⟨by unfold cd_me; (repeat' split) <;> first | rfl | contradiction | (exfalso; simp_all; done) | (exfalso; rcases hcat with q | q <;> simp_all [show ¬ (0 : Int32) = nI 1 by decide]; done), rfl, rfl⟩
        · refine r_k hO d_A_meansIt_93 ?_
          refine r_goto hO d_A_meansIt_95 ?_
          refine r_iret hO hE (Nat.zero_le _) (Nat.zero_le _) d_A_meansIt_102 ?_
          exact ⟨by unfold cd_me; (repeat' split) <;> first | rfl | contradiction | (exfalso; simp_all; done) | (exfalso; rcases hcat with q | q <;> simp_all [show ¬ (0 : Int32) = nI 1 by decide]; done), rfl, rfl⟩
    by_cases c_20_3 : I a 0 = nI 3
    · refine r_tabE hO d_A_meansIt_20 c_20_3 (off := 43) (by decide) (by decide) (by decide) (tgt := 63) (by decide) ?_
      refine r_iload hO d_A_meansIt_63 rfl ?_
      refine r_if_eqB hO d_A_meansIt_64 (fun c_64 => ?_) (fun c_64 => ?_)
      · refine r_aload hO d_A_meansIt_72 rfl ?_
        refine r_getI hO f_A_21 rfl hA d_A_meansIt_73 ?_
        refine r_k hO d_A_meansIt_76 ?_
        refine r_idiv hO d_A_meansIt_77 (by decide) ?_
        refine r_iret hO hE (Nat.zero_le _) (Nat.zero_le _) d_A_meansIt_78 ?_
        exact ⟨by unfold cd_me; (repeat' split) <;> first | rfl | contradiction | (exfalso; simp_all; done) | (exfalso; rcases hcat with q | q <;> simp_all [show ¬ (0 : Int32) = nI 1 by decide]; done), rfl, rfl⟩
      · refine r_k hO d_A_meansIt_67 ?_
        refine r_goto hO d_A_meansIt_69 ?_
        refine r_iret hO hE (Nat.zero_le _) (Nat.zero_le _) d_A_meansIt_78 ?_
        exact ⟨by unfold cd_me; (repeat' split) <;> first | rfl | contradiction | (exfalso; simp_all; done) | (exfalso; rcases hcat with q | q <;> simp_all [show ¬ (0 : Int32) = nI 1 by decide]; done), rfl, rfl⟩
    by_cases c_20_4 : I a 0 = nI 4
    · refine r_tabE hO d_A_meansIt_20 c_20_4 (off := 59) (by decide) (by decide) (by decide) (tgt := 79) (by decide) ?_
      refine r_aload hO d_A_meansIt_79 rfl ?_
      refine r_getR hO f_A_37 rfl hH.2.1 hH.2.2.1.1 d_A_meansIt_80 ?_
      refine r_k hO d_A_meansIt_83 ?_
      refine r_iald hO hH.2.2.1.2 (by omega) (by decide) d_A_meansIt_84 ?_
      refine r_k hO d_A_meansIt_85 ?_
      refine r_icmp_ne hO d_A_meansIt_86 (fun c_86 => ?_) (fun c_86 => ?_)
      · refine r_aload hO d_A_meansIt_98 rfl ?_
        refine r_getI hO f_A_21 rfl hA d_A_meansIt_99 ?_
        refine r_iret hO hE (Nat.zero_le _) (Nat.zero_le _) d_A_meansIt_102 ?_
        exact ⟨by unfold cd_me; (repeat' split) <;> first | rfl | contradiction | (exfalso; simp_all; done) | (exfalso; rcases hcat with q | q <;> simp_all [show ¬ (0 : Int32) = nI 1 by decide]; done), rfl, rfl⟩
      · refine r_iload hO d_A_meansIt_89 rfl ?_
        refine r_if_neB hO d_A_meansIt_90 (fun c_90 => ?_) (fun c_90 => ?_)
        · refine r_aload hO d_A_meansIt_98 rfl ?_
          refine r_getI hO f_A_21 rfl hA d_A_meansIt_99 ?_
          refine r_iret hO hE (Nat.zero_le _) (Nat.zero_le _) d_A_meansIt_102 ?_
          exact ⟨by unfold cd_me; (repeat' split) <;> first | rfl | contradiction | (exfalso; simp_all; done) | (exfalso; rcases hcat with q | q <;> simp_all [show ¬ (0 : Int32) = nI 1 by decide]; done), rfl, rfl⟩
        · refine r_k hO d_A_meansIt_93 ?_
          refine r_goto hO d_A_meansIt_95 ?_
          refine r_iret hO hE (Nat.zero_le _) (Nat.zero_le _) d_A_meansIt_102 ?_
          exact ⟨by unfold cd_me; (repeat' split) <;> first | rfl | contradiction | (exfalso; simp_all; done) | (exfalso; rcases hcat with q | q <;> simp_all [show ¬ (0 : Int32) = nI 1 by decide]; done), rfl, rfl⟩
    by_cases c_20_5 : I a 0 = nI 5
    · refine r_tabE hO d_A_meansIt_20 c_20_5 (off := 83) (by decide) (by decide) (by decide) (tgt := 103) (by decide) ?_
      refine r_k hO d_A_meansIt_103 ?_
      refine r_iret hO hE (Nat.zero_le _) (Nat.zero_le _) d_A_meansIt_104 ?_
      exact ⟨by unfold cd_me; (repeat' split) <;> first | rfl | contradiction | (exfalso; simp_all; done) | (exfalso; rcases hcat with q | q <;> simp_all [show ¬ (0 : Int32) = nI 1 by decide]; done), rfl, rfl⟩
    refine r_tabN hO d_A_meansIt_20 (by decide) (fun j hj => ?_) (tgt := 105) (by decide) ?_
    · have hj2 : j < 5 := hj
      rcases (show j = 0 ∨ j = 1 ∨ j = 2 ∨ j = 3 ∨ j = 4 by omega) with rfl | rfl | rfl | rfl | rfl
      · exact Or.inl (fun e => c_20_1 (e.trans (by decide)))
      · exact Or.inl (fun e => c_20_2 (e.trans (by decide)))
      · exact Or.inl (fun e => c_20_3 (e.trans (by decide)))
      · exact Or.inl (fun e => c_20_4 (e.trans (by decide)))
      · exact Or.inl (fun e => c_20_5 (e.trans (by decide)))
    refine r_aload hO d_A_meansIt_105 rfl ?_
    refine r_getI hO f_A_21 rfl hA d_A_meansIt_106 ?_
    refine r_iret hO hE (Nat.zero_le _) (Nat.zero_le _) d_A_meansIt_109 ?_
    exact ⟨by unfold cd_me; (repeat' split) <;> first | rfl | contradiction | (exfalso; simp_all; done) | (exfalso; rcases hcat with q | q <;> simp_all [show ¬ (0 : Int32) = nI 1 by decide]; done), rfl, rfl⟩
  · refine r_icmp_ne hO d_A_meansIt_7 (fun c_7 => ?_) (fun c_7 => ?_)
    · refine r_k hO d_A_meansIt_14 ?_
      exact hj_7 _ (by unfold cd_bI; rw [if_neg c_7]; rfl)
    · refine r_k hO d_A_meansIt_10 ?_
      refine r_goto hO d_A_meansIt_11 ?_
      exact hj_7 _ (by unfold cd_bI; rw [if_pos c_7]; rfl)
theorem d_A_isOf_0 : cd_D_aload b_A_isOf 0 0 1 := Or.inr ⟨0, ⟨by decide +kernel, rfl⟩, rfl⟩
theorem d_A_isOf_1 : cd_D 3 b_A_isOf 1 (.getfield 9) 4 := ⟨by decide +kernel, rfl⟩
theorem d_A_isOf_4 : cd_D_istore b_A_isOf 4 2 5 := Or.inr ⟨2, ⟨by decide +kernel, rfl⟩, rfl⟩
theorem d_A_isOf_5 : cd_Dk b_A_isOf 5 (nI 0) 6 := Or.inl ⟨0, ⟨by decide +kernel, rfl⟩, by decide +kernel⟩
theorem d_A_isOf_6 : cd_D_istore b_A_isOf 6 3 7 := Or.inr ⟨3, ⟨by decide +kernel, rfl⟩, rfl⟩
theorem d_A_isOf_7 : cd_D_iload b_A_isOf 7 3 8 := Or.inr ⟨3, ⟨by decide +kernel, rfl⟩, rfl⟩
theorem d_A_isOf_8 : cd_Dk b_A_isOf 8 (nI 6) 10 := Or.inr (Or.inl ⟨6, ⟨by decide +kernel, rfl⟩, by decide +kernel⟩)
theorem d_A_isOf_10 : cd_D_icmp_ge b_A_isOf 10 36 13 := ⟨26, by decide +kernel, by decide, rfl⟩
theorem d_A_isOf_13 : cd_D_iload b_A_isOf 13 2 14 := Or.inr ⟨2, ⟨by decide +kernel, rfl⟩, rfl⟩
theorem d_A_isOf_14 : cd_D_if_lt b_A_isOf 14 36 17 := ⟨22, by decide +kernel, by decide, rfl⟩
theorem d_A_isOf_17 : cd_D_iload b_A_isOf 17 2 18 := Or.inr ⟨2, ⟨by decide +kernel, rfl⟩, rfl⟩
theorem d_A_isOf_18 : cd_D_iload b_A_isOf 18 1 19 := Or.inr ⟨1, ⟨by decide +kernel, rfl⟩, rfl⟩
theorem d_A_isOf_19 : cd_D_icmp_ne b_A_isOf 19 24 22 := ⟨5, by decide +kernel, by decide, rfl⟩
theorem d_A_isOf_22 : cd_Dk b_A_isOf 22 (nI 1) 23 := Or.inl ⟨1, ⟨by decide +kernel, rfl⟩, by decide +kernel⟩
theorem d_A_isOf_23 : cd_D 1 b_A_isOf 23 .ireturn 24 := ⟨by decide +kernel, rfl⟩
theorem d_A_isOf_24 : cd_D 3 b_A_isOf 24 (.getstatic 27) 27 := ⟨by decide +kernel, rfl⟩
theorem d_A_isOf_27 : cd_D_iload b_A_isOf 27 2 28 := Or.inr ⟨2, ⟨by decide +kernel, rfl⟩, rfl⟩
theorem d_A_isOf_28 : cd_D 1 b_A_isOf 28 .iaload 29 := ⟨by decide +kernel, rfl⟩
theorem d_A_isOf_29 : cd_D_istore b_A_isOf 29 2 30 := Or.inr ⟨2, ⟨by decide +kernel, rfl⟩, rfl⟩
theorem d_A_isOf_30 : cd_D 3 b_A_isOf 30 (.iinc 3 (1)) 33 := ⟨by decide +kernel, rfl⟩
theorem d_A_isOf_33 : cd_D_goto b_A_isOf 33 7 := ⟨-26, by decide +kernel, by decide⟩
theorem d_A_isOf_36 : cd_Dk b_A_isOf 36 (nI 0) 37 := Or.inl ⟨0, ⟨by decide +kernel, rfl⟩, by decide +kernel⟩
theorem d_A_isOf_37 : cd_D 1 b_A_isOf 37 .ireturn 38 := ⟨by decide +kernel, rfl⟩
theorem c_A_isOf {l : Launch} {w : cd_WT} {S : cd_Sp} {I : cd_Mem} {a : Nat} (hA : S.2.1 a = (1, 0)) (hAl : w.1 ≤ a) (kd : Nat) (hk : I a 0 = nI kd) (hk5 : kd ≤ 5) (q : Int32) : cd_C l w m_A_isOf 0 0 0 [.ref a, .int q] S I (cd_Fi S (cd_bI (cd_und (I a 0) q)) I) := by
  refine cd_intro (by decide) (by simp [Value.category]) (Nat.le_of_ble_eq_true rfl) ?_
  intro X hO hE
  show cd_J w X 0 0 S I 0 [some (.ref a), some (.int q), none, none] []
  rcases (show kd = 0 ∨ kd = 1 ∨ kd = 2 ∨ kd = 3 ∨ kd = 4 ∨ kd = 5 by omega) with rfl | rfl | rfl | rfl | rfl | rfl
  · refine r_aload hO d_A_isOf_0 rfl ?_
    refine r_getI hO f_A_9 rfl hA d_A_isOf_1 ?_
    refine r_tops hk ?_
    refine r_sI2 hO d_A_isOf_4 rfl ?_
    refine r_k hO d_A_isOf_5 ?_
    refine r_sI3 hO d_A_isOf_6 rfl ?_
    refine r_iload hO d_A_isOf_7 rfl ?_
    refine r_k hO d_A_isOf_8 ?_
    refine r_icmp_ge hO d_A_isOf_10 (fun c_10 => ?_) (fun c_10 => ?_)
    · exact absurd c_10 (by decide)
    · refine r_iload hO d_A_isOf_13 rfl ?_
      refine r_if_lt hO d_A_isOf_14 (fun c_14 => ?_) (fun c_14 => ?_)
      · exact absurd c_14 (by decide)
      · refine r_iload hO d_A_isOf_17 rfl ?_
        refine r_iload hO d_A_isOf_18 rfl ?_
        refine r_icmp_ne hO d_A_isOf_19 (fun e0 => ?_) (fun e0 => ?_)
        · refine r_getsN (host := "CatDoors") hO 0 (by decide) (by decide) d_A_isOf_24 ?_
          refine r_iload hO d_A_isOf_27 rfl ?_
          refine r_stald hO (i := 0) (by decide) (show _ < 6 by decide) d_A_isOf_28 ?_
          refine r_tops (show _ = (-1) from rfl) ?_
          refine r_sI2 hO d_A_isOf_29 rfl ?_
          refine r_incN3 hO d_A_isOf_30 rfl ?_
          refine r_goto hO d_A_isOf_33 ?_
          refine r_iload hO d_A_isOf_7 rfl ?_
          refine r_k hO d_A_isOf_8 ?_
          refine r_icmp_ge hO d_A_isOf_10 (fun c_10 => ?_) (fun c_10 => ?_)
          · exact absurd c_10 (by decide)
          · refine r_iload hO d_A_isOf_13 rfl ?_
            refine r_if_lt hO d_A_isOf_14 (fun c_14 => ?_) (fun c_14 => ?_)
            · refine r_k hO d_A_isOf_36 ?_
              refine r_zret hO hE (by first | exact Or.inl rfl | exact Or.inr rfl) (Nat.zero_le _) (Nat.zero_le _) d_A_isOf_37 ?_
              exact cd_ret0 (by rw [hk]; exact fun h => h.elim (fun q => e0 q.symm) (fun h => h.elim (fun q => e0 q) (fun h => h.elim (fun q => absurd q.2 (by decide)) (fun q => absurd q.2 (by decide)))))
            · exact absurd (by decide) c_14
        · refine r_k hO d_A_isOf_22 ?_
          refine r_zret hO hE (by first | exact Or.inl rfl | exact Or.inr rfl) (Nat.zero_le _) (Nat.zero_le _) d_A_isOf_23 ?_
          exact cd_ret1 (by rw [hk, ← e0]; decide)
  · refine r_aload hO d_A_isOf_0 rfl ?_
    refine r_getI hO f_A_9 rfl hA d_A_isOf_1 ?_
    refine r_tops hk ?_
    refine r_sI2 hO d_A_isOf_4 rfl ?_
    refine r_k hO d_A_isOf_5 ?_
    refine r_sI3 hO d_A_isOf_6 rfl ?_
    refine r_iload hO d_A_isOf_7 rfl ?_
    refine r_k hO d_A_isOf_8 ?_
    refine r_icmp_ge hO d_A_isOf_10 (fun c_10 => ?_) (fun c_10 => ?_)
    · exact absurd c_10 (by decide)
    · refine r_iload hO d_A_isOf_13 rfl ?_
      refine r_if_lt hO d_A_isOf_14 (fun c_14 => ?_) (fun c_14 => ?_)
      · exact absurd c_14 (by decide)
      · refine r_iload hO d_A_isOf_17 rfl ?_
        refine r_iload hO d_A_isOf_18 rfl ?_
        refine r_icmp_ne hO d_A_isOf_19 (fun e0 => ?_) (fun e0 => ?_)
        · refine r_getsN (host := "CatDoors") hO 0 (by decide) (by decide) d_A_isOf_24 ?_
          refine r_iload hO d_A_isOf_27 rfl ?_
          refine r_stald hO (i := 0) (by decide) (show _ < 6 by decide) d_A_isOf_28 ?_
          refine r_tops (show _ = nI 0 from rfl) ?_
          refine r_sI2 hO d_A_isOf_29 rfl ?_
          refine r_incN3 hO d_A_isOf_30 rfl ?_
          refine r_goto hO d_A_isOf_33 ?_
          refine r_iload hO d_A_isOf_7 rfl ?_
          refine r_k hO d_A_isOf_8 ?_
          refine r_icmp_ge hO d_A_isOf_10 (fun c_10 => ?_) (fun c_10 => ?_)
          · exact absurd c_10 (by decide)
          · refine r_iload hO d_A_isOf_13 rfl ?_
            refine r_if_lt hO d_A_isOf_14 (fun c_14 => ?_) (fun c_14 => ?_)
            · exact absurd c_14 (by decide)
            · refine r_iload hO d_A_isOf_17 rfl ?_
              refine r_iload hO d_A_isOf_18 rfl ?_
              refine r_icmp_ne hO d_A_isOf_19 (fun e1 => ?_) (fun e1 => ?_)
              · refine r_getsN (host := "CatDoors") hO 0 (by decide) (by decide) d_A_isOf_24 ?_
                refine r_iload hO d_A_isOf_27 rfl ?_
                refine r_stald hO (i := 0) (by decide) (show _ < 6 by decide) d_A_isOf_28 ?_
                refine r_tops (show _ = (-1) from rfl) ?_
                refine r_sI2 hO d_A_isOf_29 rfl ?_
                refine r_incN3 hO d_A_isOf_30 rfl ?_
                refine r_goto hO d_A_isOf_33 ?_
                refine r_iload hO d_A_isOf_7 rfl ?_
                refine r_k hO d_A_isOf_8 ?_
                refine r_icmp_ge hO d_A_isOf_10 (fun c_10 => ?_) (fun c_10 => ?_)
                · exact absurd c_10 (by decide)
                · refine r_iload hO d_A_isOf_13 rfl ?_
                  refine r_if_lt hO d_A_isOf_14 (fun c_14 => ?_) (fun c_14 => ?_)
                  · refine r_k hO d_A_isOf_36 ?_
                    refine r_zret hO hE (by first | exact Or.inl rfl | exact Or.inr rfl) (Nat.zero_le _) (Nat.zero_le _) d_A_isOf_37 ?_
                    exact cd_ret0 (by rw [hk]; exact fun h => h.elim (fun q => e1 q.symm) (fun h => h.elim (fun q => e0 q) (fun h => h.elim (fun q => absurd q.2 (by decide)) (fun q => absurd q.2 (by decide)))))
                  · exact absurd (by decide) c_14
              · refine r_k hO d_A_isOf_22 ?_
                refine r_zret hO hE (by first | exact Or.inl rfl | exact Or.inr rfl) (Nat.zero_le _) (Nat.zero_le _) d_A_isOf_23 ?_
                exact cd_ret1 (by rw [hk, ← e1]; decide)
        · refine r_k hO d_A_isOf_22 ?_
          refine r_zret hO hE (by first | exact Or.inl rfl | exact Or.inr rfl) (Nat.zero_le _) (Nat.zero_le _) d_A_isOf_23 ?_
          exact cd_ret1 (by rw [hk, ← e0]; decide)
  · refine r_aload hO d_A_isOf_0 rfl ?_
    refine r_getI hO f_A_9 rfl hA d_A_isOf_1 ?_
    refine r_tops hk ?_
    refine r_sI2 hO d_A_isOf_4 rfl ?_
    refine r_k hO d_A_isOf_5 ?_
    refine r_sI3 hO d_A_isOf_6 rfl ?_
    refine r_iload hO d_A_isOf_7 rfl ?_
    refine r_k hO d_A_isOf_8 ?_
    refine r_icmp_ge hO d_A_isOf_10 (fun c_10 => ?_) (fun c_10 => ?_)
    · exact absurd c_10 (by decide)
    · refine r_iload hO d_A_isOf_13 rfl ?_
      refine r_if_lt hO d_A_isOf_14 (fun c_14 => ?_) (fun c_14 => ?_)
      · exact absurd c_14 (by decide)
      · refine r_iload hO d_A_isOf_17 rfl ?_
        refine r_iload hO d_A_isOf_18 rfl ?_
        refine r_icmp_ne hO d_A_isOf_19 (fun e0 => ?_) (fun e0 => ?_)
        · refine r_getsN (host := "CatDoors") hO 0 (by decide) (by decide) d_A_isOf_24 ?_
          refine r_iload hO d_A_isOf_27 rfl ?_
          refine r_stald hO (i := 0) (by decide) (show _ < 6 by decide) d_A_isOf_28 ?_
          refine r_tops (show _ = nI 0 from rfl) ?_
          refine r_sI2 hO d_A_isOf_29 rfl ?_
          refine r_incN3 hO d_A_isOf_30 rfl ?_
          refine r_goto hO d_A_isOf_33 ?_
          refine r_iload hO d_A_isOf_7 rfl ?_
          refine r_k hO d_A_isOf_8 ?_
          refine r_icmp_ge hO d_A_isOf_10 (fun c_10 => ?_) (fun c_10 => ?_)
          · exact absurd c_10 (by decide)
          · refine r_iload hO d_A_isOf_13 rfl ?_
            refine r_if_lt hO d_A_isOf_14 (fun c_14 => ?_) (fun c_14 => ?_)
            · exact absurd c_14 (by decide)
            · refine r_iload hO d_A_isOf_17 rfl ?_
              refine r_iload hO d_A_isOf_18 rfl ?_
              refine r_icmp_ne hO d_A_isOf_19 (fun e1 => ?_) (fun e1 => ?_)
              · refine r_getsN (host := "CatDoors") hO 0 (by decide) (by decide) d_A_isOf_24 ?_
                refine r_iload hO d_A_isOf_27 rfl ?_
                refine r_stald hO (i := 0) (by decide) (show _ < 6 by decide) d_A_isOf_28 ?_
                refine r_tops (show _ = (-1) from rfl) ?_
                refine r_sI2 hO d_A_isOf_29 rfl ?_
                refine r_incN3 hO d_A_isOf_30 rfl ?_
                refine r_goto hO d_A_isOf_33 ?_
                refine r_iload hO d_A_isOf_7 rfl ?_
                refine r_k hO d_A_isOf_8 ?_
                refine r_icmp_ge hO d_A_isOf_10 (fun c_10 => ?_) (fun c_10 => ?_)
                · exact absurd c_10 (by decide)
                · refine r_iload hO d_A_isOf_13 rfl ?_
                  refine r_if_lt hO d_A_isOf_14 (fun c_14 => ?_) (fun c_14 => ?_)
                  · refine r_k hO d_A_isOf_36 ?_
                    refine r_zret hO hE (by first | exact Or.inl rfl | exact Or.inr rfl) (Nat.zero_le _) (Nat.zero_le _) d_A_isOf_37 ?_
                    exact cd_ret0 (by rw [hk]; exact fun h => h.elim (fun q => e1 q.symm) (fun h => h.elim (fun q => e0 q) (fun h => h.elim (fun q => absurd q.2 (by decide)) (fun q => absurd q.2 (by decide)))))
                  · exact absurd (by decide) c_14
              · refine r_k hO d_A_isOf_22 ?_
                refine r_zret hO hE (by first | exact Or.inl rfl | exact Or.inr rfl) (Nat.zero_le _) (Nat.zero_le _) d_A_isOf_23 ?_
                exact cd_ret1 (by rw [hk, ← e1]; decide)
        · refine r_k hO d_A_isOf_22 ?_
          refine r_zret hO hE (by first | exact Or.inl rfl | exact Or.inr rfl) (Nat.zero_le _) (Nat.zero_le _) d_A_isOf_23 ?_
          exact cd_ret1 (by rw [hk, ← e0]; decide)
  · refine r_aload hO d_A_isOf_0 rfl ?_
    refine r_getI hO f_A_9 rfl hA d_A_isOf_1 ?_
    refine r_tops hk ?_
    refine r_sI2 hO d_A_isOf_4 rfl ?_
    refine r_k hO d_A_isOf_5 ?_
    refine r_sI3 hO d_A_isOf_6 rfl ?_
    refine r_iload hO d_A_isOf_7 rfl ?_
    refine r_k hO d_A_isOf_8 ?_
    refine r_icmp_ge hO d_A_isOf_10 (fun c_10 => ?_) (fun c_10 => ?_)
    · exact absurd c_10 (by decide)
    · refine r_iload hO d_A_isOf_13 rfl ?_
      refine r_if_lt hO d_A_isOf_14 (fun c_14 => ?_) (fun c_14 => ?_)
      · exact absurd c_14 (by decide)
      · refine r_iload hO d_A_isOf_17 rfl ?_
        refine r_iload hO d_A_isOf_18 rfl ?_
        refine r_icmp_ne hO d_A_isOf_19 (fun e0 => ?_) (fun e0 => ?_)
        · refine r_getsN (host := "CatDoors") hO 0 (by decide) (by decide) d_A_isOf_24 ?_
          refine r_iload hO d_A_isOf_27 rfl ?_
          refine r_stald hO (i := 0) (by decide) (show _ < 6 by decide) d_A_isOf_28 ?_
          refine r_tops (show _ = nI 1 from rfl) ?_
          refine r_sI2 hO d_A_isOf_29 rfl ?_
          refine r_incN3 hO d_A_isOf_30 rfl ?_
          refine r_goto hO d_A_isOf_33 ?_
          refine r_iload hO d_A_isOf_7 rfl ?_
          refine r_k hO d_A_isOf_8 ?_
          refine r_icmp_ge hO d_A_isOf_10 (fun c_10 => ?_) (fun c_10 => ?_)
          · exact absurd c_10 (by decide)
          · refine r_iload hO d_A_isOf_13 rfl ?_
            refine r_if_lt hO d_A_isOf_14 (fun c_14 => ?_) (fun c_14 => ?_)
            · exact absurd c_14 (by decide)
            · refine r_iload hO d_A_isOf_17 rfl ?_
              refine r_iload hO d_A_isOf_18 rfl ?_
              refine r_icmp_ne hO d_A_isOf_19 (fun e1 => ?_) (fun e1 => ?_)
              · refine r_getsN (host := "CatDoors") hO 0 (by decide) (by decide) d_A_isOf_24 ?_
                refine r_iload hO d_A_isOf_27 rfl ?_
                refine r_stald hO (i := 0) (by decide) (show _ < 6 by decide) d_A_isOf_28 ?_
                refine r_tops (show _ = nI 0 from rfl) ?_
                refine r_sI2 hO d_A_isOf_29 rfl ?_
                refine r_incN3 hO d_A_isOf_30 rfl ?_
                refine r_goto hO d_A_isOf_33 ?_
                refine r_iload hO d_A_isOf_7 rfl ?_
                refine r_k hO d_A_isOf_8 ?_
                refine r_icmp_ge hO d_A_isOf_10 (fun c_10 => ?_) (fun c_10 => ?_)
                · exact absurd c_10 (by decide)
                · refine r_iload hO d_A_isOf_13 rfl ?_
                  refine r_if_lt hO d_A_isOf_14 (fun c_14 => ?_) (fun c_14 => ?_)
                  · exact absurd c_14 (by decide)
                  · refine r_iload hO d_A_isOf_17 rfl ?_
                    refine r_iload hO d_A_isOf_18 rfl ?_
                    refine r_icmp_ne hO d_A_isOf_19 (fun e2 => ?_) (fun e2 => ?_)
                    · refine r_getsN (host := "CatDoors") hO 0 (by decide) (by decide) d_A_isOf_24 ?_
                      refine r_iload hO d_A_isOf_27 rfl ?_
                      refine r_stald hO (i := 0) (by decide) (show _ < 6 by decide) d_A_isOf_28 ?_
                      refine r_tops (show _ = (-1) from rfl) ?_
                      refine r_sI2 hO d_A_isOf_29 rfl ?_
                      refine r_incN3 hO d_A_isOf_30 rfl ?_
                      refine r_goto hO d_A_isOf_33 ?_
                      refine r_iload hO d_A_isOf_7 rfl ?_
                      refine r_k hO d_A_isOf_8 ?_
                      refine r_icmp_ge hO d_A_isOf_10 (fun c_10 => ?_) (fun c_10 => ?_)
                      · exact absurd c_10 (by decide)
                      · refine r_iload hO d_A_isOf_13 rfl ?_
                        refine r_if_lt hO d_A_isOf_14 (fun c_14 => ?_) (fun c_14 => ?_)
                        · refine r_k hO d_A_isOf_36 ?_
                          refine r_zret hO hE (by first | exact Or.inl rfl | exact Or.inr rfl) (Nat.zero_le _) (Nat.zero_le _) d_A_isOf_37 ?_
                          exact cd_ret0 (by rw [hk]; exact fun h => h.elim (fun q => e2 q.symm) (fun h => h.elim (fun q => e0 q) (fun h => h.elim (fun q => e1 q.1.symm) (fun q => absurd q.2 (by decide)))))
                        · exact absurd (by decide) c_14
                    · refine r_k hO d_A_isOf_22 ?_
                      refine r_zret hO hE (by first | exact Or.inl rfl | exact Or.inr rfl) (Nat.zero_le _) (Nat.zero_le _) d_A_isOf_23 ?_
                      exact cd_ret1 (by rw [hk, ← e2]; decide)
              · refine r_k hO d_A_isOf_22 ?_
                refine r_zret hO hE (by first | exact Or.inl rfl | exact Or.inr rfl) (Nat.zero_le _) (Nat.zero_le _) d_A_isOf_23 ?_
                exact cd_ret1 (by rw [hk, ← e1]; decide)
        · refine r_k hO d_A_isOf_22 ?_
          refine r_zret hO hE (by first | exact Or.inl rfl | exact Or.inr rfl) (Nat.zero_le _) (Nat.zero_le _) d_A_isOf_23 ?_
          exact cd_ret1 (by rw [hk, ← e0]; decide)
  · refine r_aload hO d_A_isOf_0 rfl ?_
    refine r_getI hO f_A_9 rfl hA d_A_isOf_1 ?_
    refine r_tops hk ?_
    refine r_sI2 hO d_A_isOf_4 rfl ?_
    refine r_k hO d_A_isOf_5 ?_
    refine r_sI3 hO d_A_isOf_6 rfl ?_
    refine r_iload hO d_A_isOf_7 rfl ?_
    refine r_k hO d_A_isOf_8 ?_
    refine r_icmp_ge hO d_A_isOf_10 (fun c_10 => ?_) (fun c_10 => ?_)
    · exact absurd c_10 (by decide)
    · refine r_iload hO d_A_isOf_13 rfl ?_
      refine r_if_lt hO d_A_isOf_14 (fun c_14 => ?_) (fun c_14 => ?_)
      · exact absurd c_14 (by decide)
      · refine r_iload hO d_A_isOf_17 rfl ?_
        refine r_iload hO d_A_isOf_18 rfl ?_
        refine r_icmp_ne hO d_A_isOf_19 (fun e0 => ?_) (fun e0 => ?_)
        · refine r_getsN (host := "CatDoors") hO 0 (by decide) (by decide) d_A_isOf_24 ?_
          refine r_iload hO d_A_isOf_27 rfl ?_
          refine r_stald hO (i := 0) (by decide) (show _ < 6 by decide) d_A_isOf_28 ?_
          refine r_tops (show _ = nI 2 from rfl) ?_
          refine r_sI2 hO d_A_isOf_29 rfl ?_
          refine r_incN3 hO d_A_isOf_30 rfl ?_
          refine r_goto hO d_A_isOf_33 ?_
          refine r_iload hO d_A_isOf_7 rfl ?_
          refine r_k hO d_A_isOf_8 ?_
          refine r_icmp_ge hO d_A_isOf_10 (fun c_10 => ?_) (fun c_10 => ?_)
          · exact absurd c_10 (by decide)
          · refine r_iload hO d_A_isOf_13 rfl ?_
            refine r_if_lt hO d_A_isOf_14 (fun c_14 => ?_) (fun c_14 => ?_)
            · exact absurd c_14 (by decide)
            · refine r_iload hO d_A_isOf_17 rfl ?_
              refine r_iload hO d_A_isOf_18 rfl ?_
              refine r_icmp_ne hO d_A_isOf_19 (fun e1 => ?_) (fun e1 => ?_)
              · refine r_getsN (host := "CatDoors") hO 0 (by decide) (by decide) d_A_isOf_24 ?_
                refine r_iload hO d_A_isOf_27 rfl ?_
                refine r_stald hO (i := 0) (by decide) (show _ < 6 by decide) d_A_isOf_28 ?_
                refine r_tops (show _ = nI 0 from rfl) ?_
                refine r_sI2 hO d_A_isOf_29 rfl ?_
                refine r_incN3 hO d_A_isOf_30 rfl ?_
                refine r_goto hO d_A_isOf_33 ?_
                refine r_iload hO d_A_isOf_7 rfl ?_
                refine r_k hO d_A_isOf_8 ?_
                refine r_icmp_ge hO d_A_isOf_10 (fun c_10 => ?_) (fun c_10 => ?_)
                · exact absurd c_10 (by decide)
                · refine r_iload hO d_A_isOf_13 rfl ?_
                  refine r_if_lt hO d_A_isOf_14 (fun c_14 => ?_) (fun c_14 => ?_)
                  · exact absurd c_14 (by decide)
                  · refine r_iload hO d_A_isOf_17 rfl ?_
                    refine r_iload hO d_A_isOf_18 rfl ?_
                    refine r_icmp_ne hO d_A_isOf_19 (fun e2 => ?_) (fun e2 => ?_)
                    · refine r_getsN (host := "CatDoors") hO 0 (by decide) (by decide) d_A_isOf_24 ?_
                      refine r_iload hO d_A_isOf_27 rfl ?_
                      refine r_stald hO (i := 0) (by decide) (show _ < 6 by decide) d_A_isOf_28 ?_
                      refine r_tops (show _ = (-1) from rfl) ?_
                      refine r_sI2 hO d_A_isOf_29 rfl ?_
                      refine r_incN3 hO d_A_isOf_30 rfl ?_
                      refine r_goto hO d_A_isOf_33 ?_
                      refine r_iload hO d_A_isOf_7 rfl ?_
                      refine r_k hO d_A_isOf_8 ?_
                      refine r_icmp_ge hO d_A_isOf_10 (fun c_10 => ?_) (fun c_10 => ?_)
                      · exact absurd c_10 (by decide)
                      · refine r_iload hO d_A_isOf_13 rfl ?_
                        refine r_if_lt hO d_A_isOf_14 (fun c_14 => ?_) (fun c_14 => ?_)
                        · refine r_k hO d_A_isOf_36 ?_
                          refine r_zret hO hE (by first | exact Or.inl rfl | exact Or.inr rfl) (Nat.zero_le _) (Nat.zero_le _) d_A_isOf_37 ?_
                          exact cd_ret0 (by rw [hk]; exact fun h => h.elim (fun q => e2 q.symm) (fun h => h.elim (fun q => e0 q) (fun h => h.elim (fun q => absurd q.2 (by decide)) (fun q => e1 q.1.symm))))
                        · exact absurd (by decide) c_14
                    · refine r_k hO d_A_isOf_22 ?_
                      refine r_zret hO hE (by first | exact Or.inl rfl | exact Or.inr rfl) (Nat.zero_le _) (Nat.zero_le _) d_A_isOf_23 ?_
                      exact cd_ret1 (by rw [hk, ← e2]; decide)
              · refine r_k hO d_A_isOf_22 ?_
                refine r_zret hO hE (by first | exact Or.inl rfl | exact Or.inr rfl) (Nat.zero_le _) (Nat.zero_le _) d_A_isOf_23 ?_
                exact cd_ret1 (by rw [hk, ← e1]; decide)
        · refine r_k hO d_A_isOf_22 ?_
          refine r_zret hO hE (by first | exact Or.inl rfl | exact Or.inr rfl) (Nat.zero_le _) (Nat.zero_le _) d_A_isOf_23 ?_
          exact cd_ret1 (by rw [hk, ← e0]; decide)
  · refine r_aload hO d_A_isOf_0 rfl ?_
    refine r_getI hO f_A_9 rfl hA d_A_isOf_1 ?_
    refine r_tops hk ?_
    refine r_sI2 hO d_A_isOf_4 rfl ?_
    refine r_k hO d_A_isOf_5 ?_
    refine r_sI3 hO d_A_isOf_6 rfl ?_
    refine r_iload hO d_A_isOf_7 rfl ?_
    refine r_k hO d_A_isOf_8 ?_
    refine r_icmp_ge hO d_A_isOf_10 (fun c_10 => ?_) (fun c_10 => ?_)
    · exact absurd c_10 (by decide)
    · refine r_iload hO d_A_isOf_13 rfl ?_
      refine r_if_lt hO d_A_isOf_14 (fun c_14 => ?_) (fun c_14 => ?_)
      · exact absurd c_14 (by decide)
      · refine r_iload hO d_A_isOf_17 rfl ?_
        refine r_iload hO d_A_isOf_18 rfl ?_
        refine r_icmp_ne hO d_A_isOf_19 (fun e0 => ?_) (fun e0 => ?_)
        · refine r_getsN (host := "CatDoors") hO 0 (by decide) (by decide) d_A_isOf_24 ?_
          refine r_iload hO d_A_isOf_27 rfl ?_
          refine r_stald hO (i := 0) (by decide) (show _ < 6 by decide) d_A_isOf_28 ?_
          refine r_tops (show _ = nI 0 from rfl) ?_
          refine r_sI2 hO d_A_isOf_29 rfl ?_
          refine r_incN3 hO d_A_isOf_30 rfl ?_
          refine r_goto hO d_A_isOf_33 ?_
          refine r_iload hO d_A_isOf_7 rfl ?_
          refine r_k hO d_A_isOf_8 ?_
          refine r_icmp_ge hO d_A_isOf_10 (fun c_10 => ?_) (fun c_10 => ?_)
          · exact absurd c_10 (by decide)
          · refine r_iload hO d_A_isOf_13 rfl ?_
            refine r_if_lt hO d_A_isOf_14 (fun c_14 => ?_) (fun c_14 => ?_)
            · exact absurd c_14 (by decide)
            · refine r_iload hO d_A_isOf_17 rfl ?_
              refine r_iload hO d_A_isOf_18 rfl ?_
              refine r_icmp_ne hO d_A_isOf_19 (fun e1 => ?_) (fun e1 => ?_)
              · refine r_getsN (host := "CatDoors") hO 0 (by decide) (by decide) d_A_isOf_24 ?_
                refine r_iload hO d_A_isOf_27 rfl ?_
                refine r_stald hO (i := 0) (by decide) (show _ < 6 by decide) d_A_isOf_28 ?_
                refine r_tops (show _ = (-1) from rfl) ?_
                refine r_sI2 hO d_A_isOf_29 rfl ?_
                refine r_incN3 hO d_A_isOf_30 rfl ?_
                refine r_goto hO d_A_isOf_33 ?_
                refine r_iload hO d_A_isOf_7 rfl ?_
                refine r_k hO d_A_isOf_8 ?_
                refine r_icmp_ge hO d_A_isOf_10 (fun c_10 => ?_) (fun c_10 => ?_)
                · exact absurd c_10 (by decide)
                · refine r_iload hO d_A_isOf_13 rfl ?_
                  refine r_if_lt hO d_A_isOf_14 (fun c_14 => ?_) (fun c_14 => ?_)
                  · refine r_k hO d_A_isOf_36 ?_
                    refine r_zret hO hE (by first | exact Or.inl rfl | exact Or.inr rfl) (Nat.zero_le _) (Nat.zero_le _) d_A_isOf_37 ?_
                    exact cd_ret0 (by rw [hk]; exact fun h => h.elim (fun q => e1 q.symm) (fun h => h.elim (fun q => e0 q) (fun h => h.elim (fun q => absurd q.2 (by decide)) (fun q => absurd q.2 (by decide)))))
                  · exact absurd (by decide) c_14
              · refine r_k hO d_A_isOf_22 ?_
                refine r_zret hO hE (by first | exact Or.inl rfl | exact Or.inr rfl) (Nat.zero_le _) (Nat.zero_le _) d_A_isOf_23 ?_
                exact cd_ret1 (by rw [hk, ← e1]; decide)
        · refine r_k hO d_A_isOf_22 ?_
          refine r_zret hO hE (by first | exact Or.inl rfl | exact Or.inr rfl) (Nat.zero_le _) (Nat.zero_le _) d_A_isOf_23 ?_
          exact cd_ret1 (by rw [hk, ← e0]; decide)
theorem d_C_heldWithin_0 : cd_Dk b_C_heldWithin 0 (nI 0) 1 := Or.inl ⟨0, ⟨by decide +kernel, rfl⟩, by decide +kernel⟩
theorem d_C_heldWithin_1 : cd_D_iload b_C_heldWithin 1 0 2 := Or.inr ⟨0, ⟨by decide +kernel, rfl⟩, rfl⟩
theorem d_C_heldWithin_2 : cd_D_iload b_C_heldWithin 2 1 3 := Or.inr ⟨1, ⟨by decide +kernel, rfl⟩, rfl⟩
theorem d_C_heldWithin_3 : cd_D 3 b_C_heldWithin 3 (.invokestatic 130) 6 := ⟨by decide +kernel, rfl⟩
theorem d_C_heldWithin_6 : cd_D 3 b_C_heldWithin 6 (.invokestatic 284) 9 := ⟨by decide +kernel, rfl⟩
theorem d_C_heldWithin_9 : cd_D 1 b_C_heldWithin 9 .ireturn 10 := ⟨by decide +kernel, rfl⟩
theorem c_C_heldWithin {l : Launch} {w : cd_WT} {S : cd_Sp} {I : cd_Mem} (v most : Int32) : cd_C l w m_C_heldWithin 1 0 0 [.int v, .int most] S I (cd_Fi S (cd_mx (nI 0) (cd_mn v most)) I) := by
  refine cd_intro (by decide) (by simp [Value.category]) (Nat.le_of_ble_eq_true rfl) ?_
  intro X hO hE
  show cd_J w X 0 0 S I 0 [some (.int v), some (.int most)] []
  refine r_k hO d_C_heldWithin_0 ?_
  refine r_iload hO d_C_heldWithin_1 rfl ?_
  refine r_iload hO d_C_heldWithin_2 rfl ?_
  refine r_mmin hO hE lk_C_130 cd_mmin (by omega) rfl (Nat.le_of_ble_eq_true rfl) (Nat.zero_le _) (Nat.zero_le _) d_C_heldWithin_3 ?_
  refine r_mmax hO hE lk_C_284 cd_mmax (by omega) rfl (Nat.le_of_ble_eq_true rfl) (Nat.zero_le _) (Nat.zero_le _) d_C_heldWithin_6 ?_
  refine r_iret hO hE (Nat.zero_le _) (Nat.zero_le _) d_C_heldWithin_9 ?_
  exact ⟨rfl, rfl, rfl⟩
theorem d_C_isWithin_0 : cd_D_iload b_C_isWithin 0 0 1 := Or.inr ⟨0, ⟨by decide +kernel, rfl⟩, rfl⟩
theorem d_C_isWithin_1 : cd_D_if_lt b_C_isWithin 1 13 4 := ⟨12, by decide +kernel, by decide, rfl⟩
theorem d_C_isWithin_4 : cd_D_iload b_C_isWithin 4 0 5 := Or.inr ⟨0, ⟨by decide +kernel, rfl⟩, rfl⟩
theorem d_C_isWithin_5 : cd_D_iload b_C_isWithin 5 1 6 := Or.inr ⟨1, ⟨by decide +kernel, rfl⟩, rfl⟩
theorem d_C_isWithin_6 : cd_D_icmp_gt b_C_isWithin 6 13 9 := ⟨7, by decide +kernel, by decide, rfl⟩
theorem d_C_isWithin_9 : cd_Dk b_C_isWithin 9 (nI 1) 10 := Or.inl ⟨1, ⟨by decide +kernel, rfl⟩, by decide +kernel⟩
theorem d_C_isWithin_10 : cd_D_goto b_C_isWithin 10 14 := ⟨4, by decide +kernel, by decide⟩
theorem d_C_isWithin_13 : cd_Dk b_C_isWithin 13 (nI 0) 14 := Or.inl ⟨0, ⟨by decide +kernel, rfl⟩, by decide +kernel⟩
theorem d_C_isWithin_14 : cd_D 1 b_C_isWithin 14 .ireturn 15 := ⟨by decide +kernel, rfl⟩
theorem c_C_isWithin {l : Launch} {w : cd_WT} {S : cd_Sp} {I : cd_Mem} (v most : Int32) : cd_C l w m_C_isWithin 0 0 0 [.int v, .int most] S I (cd_Fi S (cd_bI (nI 0 ≤ v ∧ v ≤ most)) I) := by
  refine cd_intro (by decide) (by simp [Value.category]) (Nat.le_of_ble_eq_true rfl) ?_
  intro X hO hE
  show cd_J w X 0 0 S I 0 [some (.int v), some (.int most)] []
  refine r_iload hO d_C_isWithin_0 rfl ?_
  refine r_if_lt hO d_C_isWithin_1 (fun c_1 => ?_) (fun c_1 => ?_)
  · refine r_k hO d_C_isWithin_13 ?_
    refine r_zret hO hE (by first | exact Or.inl rfl | exact Or.inr rfl) (Nat.zero_le _) (Nat.zero_le _) d_C_isWithin_14 ?_
    first | exact cd_ret1 ⟨cd_le0 c_1, (by simp only [Int32.lt_iff_toInt_lt, Int32.le_iff_toInt_le] at *; omega)⟩ | exact cd_ret0 (by rintro ⟨q1, q2⟩; have e0 : (nI 0).toInt = 0 := rfl; have e1 : (0 : Int32).toInt = 0 := rfl; simp only [Int32.lt_iff_toInt_lt, Int32.le_iff_toInt_le] at *; omega)
  · refine r_iload hO d_C_isWithin_4 rfl ?_
    refine r_iload hO d_C_isWithin_5 rfl ?_
    refine r_icmp_gt hO d_C_isWithin_6 (fun c_6 => ?_) (fun c_6 => ?_)
    · refine r_k hO d_C_isWithin_13 ?_
      refine r_zret hO hE (by first | exact Or.inl rfl | exact Or.inr rfl) (Nat.zero_le _) (Nat.zero_le _) d_C_isWithin_14 ?_
      first | exact cd_ret1 ⟨cd_le0 c_1, (by simp only [Int32.lt_iff_toInt_lt, Int32.le_iff_toInt_le] at *; omega)⟩ | exact cd_ret0 (by rintro ⟨q1, q2⟩; have e0 : (nI 0).toInt = 0 := rfl; have e1 : (0 : Int32).toInt = 0 := rfl; simp only [Int32.lt_iff_toInt_lt, Int32.le_iff_toInt_le] at *; omega)
    · refine r_k hO d_C_isWithin_9 ?_
      refine r_goto hO d_C_isWithin_10 ?_
      refine r_zret hO hE (by first | exact Or.inl rfl | exact Or.inr rfl) (Nat.zero_le _) (Nat.zero_le _) d_C_isWithin_14 ?_
      first | exact cd_ret1 ⟨cd_le0 c_1, (by simp only [Int32.lt_iff_toInt_lt, Int32.le_iff_toInt_le] at *; omega)⟩ | exact cd_ret0 (by rintro ⟨q1, q2⟩; have e0 : (nI 0).toInt = 0 := rfl; have e1 : (0 : Int32).toInt = 0 := rfl; simp only [Int32.lt_iff_toInt_lt, Int32.le_iff_toInt_le] at *; omega)
