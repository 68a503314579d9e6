section CDAX
variable {l : Launch} {w : cd_WT} {X : cd_XT} {cc : ByteArray} {own : String} {d mc ms : Nat} {k n : Nat} {S : cd_Sp} {I : cd_Mem} {pc pc' tgt : Nat} {lv : List (Option Value)} {st : List Value}
theorem r_aastX (hO : cd_O w X cc own d mc ms l) {a j N v : Nat} (hs : S.2.1 a = (7, N)) (hv : S.2.1 v = (1, 5)) (ha : w.1 ≤ a) (hj : j < N) (hN : N < 2 ^ 31) (hd : cd_D 1 cc pc .aastore pc') (kk : cd_J w X k n (cd_sr S a j v) I pc' lv st) : cd_J w X k n S I pc lv (.ref v :: .int (nI j) :: .ref a :: st) :=
  r_aast (t := 5) (c := 5) (r := cd_cls[5]) hO hs (by decide) (by decide) rfl rfl hv ha hj hN hd kk
end CDAX
/-- the shapes are the same but for the row of texts of the house h -/
def cd_ss (S S' : cd_Sp) (h : Nat) : Prop := S'.1 = S.1 ∧ S'.2.1 = S.2.1 ∧ ∀ b, b ≠ h + 4 → S'.2.2 b = S.2.2 b
theorem cd_ss.rf (S : cd_Sp) (h : Nat) : cd_ss S S h := ⟨rfl, rfl, fun _ _ => rfl⟩
theorem cd_ss.tr {S S1 S2 : cd_Sp} {h : Nat} (a : cd_ss S S1 h) (b : cd_ss S1 S2 h) : cd_ss S S2 h := ⟨b.1.trans a.1, b.2.1.trans a.2.1, fun q hq => (b.2.2 q hq).trans (a.2.2 q hq)⟩
theorem cd_ss.sr (S : cd_Sp) (h j v : Nat) : cd_ss S (cd_sr S (h + 4) j v) h := ⟨rfl, rfl, fun _ hb => if_neg hb⟩
theorem cd_HO.ss {w : cd_WT} {S S' : cd_Sp} {h g : Nat} (H : cd_HO w S g) (hs : cd_ss S S' h) (hd : g = h ∨ h + 18 ≤ g ∨ g + 18 ≤ h) : cd_HO w S' g := by
  obtain ⟨a1, a2, a3, a4, a5, a6, a7, a8⟩ := H
  have e := hs.2.1
  unfold cd_HO
  rw [e, hs.2.2 g (by omega), hs.2.2 (g + 3) (by omega)]
  exact ⟨a1, a2, a3, a4, a5, a6, a7, a8⟩
theorem cd_XO.ss {w : cd_WT} {S S' : cd_Sp} {h x cx sx n v : Nat} (H : cd_XO w S x cx sx n v) (hs : cd_ss S S' h) (hx : x ≠ h + 4) : cd_XO w S' x cx sx n v := by
  unfold cd_XO
  rw [hs.2.1, hs.2.2 x hx]
  exact H
theorem cd_TA.ss {w : cd_WT} {S S' : cd_Sp} {I : cd_Mem} {N : Nat → Int32} {h t q : Nat} (H : cd_TA w S I N t q) (hs : cd_ss S S' h) (hh : h + 18 ≤ w.1 + 112) : cd_TA w S' I N t q := by
  obtain ⟨n, v, a1, a2⟩ := H
  exact ⟨n, v, a1.ss hs (by omega), a2⟩
/-- another house is as it was -/
theorem cd_HG.ss {w : cd_WT} {S S' : cd_Sp} {I I' : cd_Mem} {h g mm tc : Nat} {N : Nat → Int32} (H : cd_HG w S I g N mm tc) (hs : cd_ss S S' h) (hd : h + 18 ≤ g ∨ g + 18 ≤ h) (hh : h + 18 ≤ w.1 + 112) (ho : cd_ofh w h I I') : cd_HG w S' I' g N mm tc := by
  obtain ⟨a1, a2, a3, a4, a5⟩ := H
  have hm := a3.2.1
  have e1 : ∀ b, g ≤ b → b < g + 18 → I' b = I b := fun b h1 h2 => ho b (fun q => by rcases q with q | q <;> omega)
  refine ⟨a1.ss hs (Or.inr hd), a2, a3, a4, fun j hj => ?_, fun t ht => ?_, fun k hk => ?_⟩
  · have hin := cd_lx_in (h := g) (j := j) (by omega)
    unfold cd_vw
    rw [e1 _ hin.1 hin.2.1]
    exact a5.1 j hj
  · obtain ⟨q, q1, q2⟩ := a5.2.1 t ht
    refine ⟨q, by rw [hs.2.2 _ (by omega)]; exact q1, (q2.ss hs hh).cg (ho _ (fun z => by rcases z with z | z <;> omega)) (ho _ (fun z => by rcases z with z | z <;> omega))⟩
  · rw [e1 _ (by omega) (by omega)]
    exact a5.2.2 k hk
/-- how far a house has taken another's numbers -/
def cd_tn1 (I I2 : cd_Mem) (h g mm i : Nat) : Prop := (∀ b, ¬ (h ≤ b ∧ b < h + 18) → I2 b = I b) ∧ (∀ k, k < 7 → I2 (h + 1) k = I (g + 1) k) ∧ (∀ k, k < 5 → I2 (h + 2) k = I (g + 2) k) ∧ (∀ k, k < 3 → I2 (h + 5) k = I (g + 5) k) ∧ I2 h 3 = nI mm ∧ ∀ a, a < i → ∀ q, q < 5 → I2 (h + 6 + a) q = I (g + 6 + a) q
theorem cd_tn1_0 {I : cd_Mem} {h g mm : Nat} : cd_tn1 I (cd_set (cd_set (cd_set (cd_set I (h + 1) (va_cpy (I (g + 1)) (I (h + 1)) 0 0 7)) (h + 2) (va_cpy (I (g + 2)) (I (h + 2)) 0 0 5)) (h + 5) (va_cpy (I (g + 5)) (I (h + 5)) 0 0 3)) h (upd (I h) 3 (nI mm))) h g mm 0 := by
  refine ⟨fun b hb => ?_, fun k hk => ?_, fun k hk => ?_, fun k hk => ?_, ?_, fun a ha => by omega⟩
  · rw [cd_set_ne _ _ (by omega), cd_set_ne _ _ (by omega), cd_set_ne _ _ (by omega), cd_set_ne _ _ (by omega)]
  · rw [cd_set_ne _ _ (by omega), cd_set_ne _ _ (by omega), cd_set_ne _ _ (by omega), cd_set_eq]
    exact sb_cpy0 hk
  · rw [cd_set_ne _ _ (by omega), cd_set_ne _ _ (by omega), cd_set_eq]
    exact sb_cpy0 hk
  · rw [cd_set_ne _ _ (by omega), cd_set_eq]
    exact sb_cpy0 hk
  · rw [cd_set_eq]
    rfl
theorem cd_tk_at (r r' : Nat → Int32) {q : Nat} (hq : q < 5) : cd_tk r r' q = r' q := by
  unfold cd_tk
  rcases (show q = 0 ∨ q = 1 ∨ q = 2 ∨ q = 3 ∨ q = 4 by omega) with rfl | rfl | rfl | rfl | rfl <;> rfl
theorem cd_tn1_s {I I2 : cd_Mem} {h g mm i : Nat} (H : cd_tn1 I I2 h g mm i) (hi : i < 12) (hd : h + 18 ≤ g ∨ g + 18 ≤ h) : cd_tn1 I (cd_set I2 (h + 6 + i) (cd_tk (I2 (h + 6 + i)) (I2 (g + 6 + i)))) h g mm (i + 1) := by
  obtain ⟨a1, a2, a3, a4, a5, a6⟩ := H
  refine ⟨fun b hb => ?_, fun k hk => ?_, fun k hk => ?_, fun k hk => ?_, ?_, fun a ha q hq => ?_⟩
  · rw [cd_set_ne _ _ (by omega)]
    exact a1 b hb
  · rw [cd_set_ne _ _ (by omega)]
    exact a2 k hk
  · rw [cd_set_ne _ _ (by omega)]
    exact a3 k hk
  · rw [cd_set_ne _ _ (by omega)]
    exact a4 k hk
  · rw [cd_set_ne _ _ (by omega)]
    exact a5
  · by_cases hai : a = i
    · subst hai
      rw [cd_set_eq, cd_tk_at _ _ hq, a1 _ (by omega)]
    · rw [cd_set_ne _ _ (by omega)]
      exact a6 a (by omega) q hq
theorem cd_tn1_end {w : cd_WT} {S S2 : cd_Sp} {I I2 : cd_Mem} {h g mm tc : Nat} {N : Nat → Int32} (hG : cd_HG w S I g N mm tc) (hH : cd_HO w S h) (hh : h + 18 ≤ w.1 + 112) (hd : h + 18 ≤ g ∨ g + 18 ≤ h) (H : cd_tn1 I I2 h g mm mm) (hs : cd_ss S S2 h) (ht : ∀ t, t < tc → S2.2.2 (h + 4) t = S.2.2 (g + 4) t) : cd_HG w S2 (cd_set I2 h (upd (upd (upd (I2 h) 4 (I g 4)) 5 (I g 5)) 7 (I g 7))) h N mm tc := by
  obtain ⟨g1, g2, g3, g4, g5, g6, g7⟩ := hG
  obtain ⟨a1, a2, a3, a4, a5, a6⟩ := H
  have hm := g3.2.1
  have b := fun j hj => g5 j hj
  refine ⟨hH.ss hs (Or.inl rfl), hh, g3, g4, fun j hj => ?_, fun t htt => ?_, fun k hk => ?_⟩
  · have hb := b j hj
    unfold cd_vw at hb ⊢
    rw [← hb]
    by_cases h16 : 16 ≤ j
    · obtain ⟨i, q, hq, hi, rfl⟩ : ∃ i q, q < 5 ∧ i < mm ∧ j = 16 + 5 * i + q := ⟨(j - 16) / 5, (j - 16) % 5, by omega, by omega, by omega⟩
      rw [cd_lx_a hq, cd_lx_a hq, cd_lk_a hq, cd_set_ne _ _ (by omega)]
      exact a6 i hi q hq
    · by_cases hj10 : 10 ≤ j
      · by_cases hj15 : j = 15
        · subst hj15
          rw [show cd_lx h 15 = h from rfl, show cd_lx g 15 = g from rfl, cd_set_eq]
          rfl
        · have e1 : ∀ z, cd_lx z j = z + 2 := fun z => by unfold cd_lx; rw [if_neg (by omega), if_neg (by omega), if_pos (by omega)]
          have e2 : cd_lk j = j - 10 := by unfold cd_lk; rw [if_neg (by omega), if_neg (by omega), if_neg (by omega), if_pos (by omega)]
          rw [e1, e1, e2, cd_set_ne _ _ (by omega)]
          exact a3 _ (by omega)
      · by_cases hj3 : 3 ≤ j
        · have e1 : ∀ z, cd_lx z j = z + 1 := fun z => by unfold cd_lx; rw [if_neg (by omega), if_pos (by omega)]
          have e2 : cd_lk j = j - 3 := by unfold cd_lk; rw [if_neg (by omega), if_neg (by omega), if_pos (by omega)]
          rw [e1, e1, e2, cd_set_ne _ _ (by omega)]
          exact a2 _ (by omega)
        · rcases (show j = 0 ∨ j = 1 ∨ j = 2 by omega) with rfl | rfl | rfl
          · rw [show cd_lx h 0 = h from rfl, show cd_lx g 0 = g from rfl, cd_set_eq]
            rfl
          · rw [show cd_lx h 1 = h from rfl, cd_set_eq, hb, g3.1]
            exact a5
          · rw [show cd_lx h 2 = h from rfl, show cd_lx g 2 = g from rfl, cd_set_eq]
            rfl
  · obtain ⟨q, q1, q2⟩ := g6 t htt
    refine ⟨q, (ht t htt).trans q1, (q2.ss hs hh).cg ?_ ?_⟩
    · rw [cd_set_ne _ _ (by omega)]
      exact a1 _ (by omega)
    · rw [cd_set_ne _ _ (by omega)]
      exact a1 _ (by omega)
  · rw [cd_set_ne _ _ (by omega), a4 k hk]
    exact g7 k hk
theorem d_H_takes_0 : cd_D_aload b_H_takes 0 1 1 := Or.inr ⟨1, ⟨by decide +kernel, rfl⟩, rfl⟩
theorem d_H_takes_1 : cd_D 3 b_H_takes 1 (.getfield 9) 4 := ⟨by decide +kernel, rfl⟩
theorem d_H_takes_4 : cd_Dk b_H_takes 4 (nI 0) 5 := Or.inl ⟨0, ⟨by decide +kernel, rfl⟩, by decide +kernel⟩
theorem d_H_takes_5 : cd_D_aload b_H_takes 5 0 6 := Or.inr ⟨0, ⟨by decide +kernel, rfl⟩, rfl⟩
theorem d_H_takes_6 : cd_D 3 b_H_takes 6 (.getfield 9) 9 := ⟨by decide +kernel, rfl⟩
theorem d_H_takes_9 : cd_Dk b_H_takes 9 (nI 0) 10 := Or.inl ⟨0, ⟨by decide +kernel, rfl⟩, by decide +kernel⟩
theorem d_H_takes_10 : cd_Dk b_H_takes 10 (nI 7) 12 := Or.inr (Or.inl ⟨7, ⟨by decide +kernel, rfl⟩, by decide +kernel⟩)
theorem d_H_takes_12 : cd_D 3 b_H_takes 12 (.invokestatic 48) 15 := ⟨by decide +kernel, rfl⟩
theorem d_H_takes_15 : cd_D_aload b_H_takes 15 1 16 := Or.inr ⟨1, ⟨by decide +kernel, rfl⟩, rfl⟩
theorem d_H_takes_16 : cd_D 3 b_H_takes 16 (.getfield 15) 19 := ⟨by decide +kernel, rfl⟩
theorem d_H_takes_19 : cd_Dk b_H_takes 19 (nI 0) 20 := Or.inl ⟨0, ⟨by decide +kernel, rfl⟩, by decide +kernel⟩
theorem d_H_takes_20 : cd_D_aload b_H_takes 20 0 21 := Or.inr ⟨0, ⟨by decide +kernel, rfl⟩, rfl⟩
theorem d_H_takes_21 : cd_D 3 b_H_takes 21 (.getfield 15) 24 := ⟨by decide +kernel, rfl⟩
theorem d_H_takes_24 : cd_Dk b_H_takes 24 (nI 0) 25 := Or.inl ⟨0, ⟨by decide +kernel, rfl⟩, by decide +kernel⟩
theorem d_H_takes_25 : cd_Dk b_H_takes 25 (nI 5) 26 := Or.inl ⟨5, ⟨by decide +kernel, rfl⟩, by decide +kernel⟩
theorem d_H_takes_26 : cd_D 3 b_H_takes 26 (.invokestatic 48) 29 := ⟨by decide +kernel, rfl⟩
theorem d_H_takes_29 : cd_D_aload b_H_takes 29 1 30 := Or.inr ⟨1, ⟨by decide +kernel, rfl⟩, rfl⟩
theorem d_H_takes_30 : cd_D 3 b_H_takes 30 (.getfield 44) 33 := ⟨by decide +kernel, rfl⟩
theorem d_H_takes_33 : cd_Dk b_H_takes 33 (nI 0) 34 := Or.inl ⟨0, ⟨by decide +kernel, rfl⟩, by decide +kernel⟩
theorem d_H_takes_34 : cd_D_aload b_H_takes 34 0 35 := Or.inr ⟨0, ⟨by decide +kernel, rfl⟩, rfl⟩
theorem d_H_takes_35 : cd_D 3 b_H_takes 35 (.getfield 44) 38 := ⟨by decide +kernel, rfl⟩
theorem d_H_takes_38 : cd_Dk b_H_takes 38 (nI 0) 39 := Or.inl ⟨0, ⟨by decide +kernel, rfl⟩, by decide +kernel⟩
theorem d_H_takes_39 : cd_Dk b_H_takes 39 (nI 3) 40 := Or.inl ⟨3, ⟨by decide +kernel, rfl⟩, by decide +kernel⟩
theorem d_H_takes_40 : cd_D 3 b_H_takes 40 (.invokestatic 48) 43 := ⟨by decide +kernel, rfl⟩
theorem d_H_takes_43 : cd_D_aload b_H_takes 43 0 44 := Or.inr ⟨0, ⟨by decide +kernel, rfl⟩, rfl⟩
theorem d_H_takes_44 : cd_D_aload b_H_takes 44 1 45 := Or.inr ⟨1, ⟨by decide +kernel, rfl⟩, rfl⟩
theorem d_H_takes_45 : cd_D 3 b_H_takes 45 (.getfield 24) 48 := ⟨by decide +kernel, rfl⟩
theorem d_H_takes_48 : cd_D 3 b_H_takes 48 (.putfield 24) 51 := ⟨by decide +kernel, rfl⟩
theorem d_H_takes_51 : cd_Dk b_H_takes 51 (nI 0) 52 := Or.inl ⟨0, ⟨by decide +kernel, rfl⟩, by decide +kernel⟩
theorem d_H_takes_52 : cd_D_istore b_H_takes 52 2 53 := Or.inr ⟨2, ⟨by decide +kernel, rfl⟩, rfl⟩
theorem d_H_takes_53 : cd_D_iload b_H_takes 53 2 54 := Or.inr ⟨2, ⟨by decide +kernel, rfl⟩, rfl⟩
theorem d_H_takes_54 : cd_D_aload b_H_takes 54 0 55 := Or.inr ⟨0, ⟨by decide +kernel, rfl⟩, rfl⟩
theorem d_H_takes_55 : cd_D 3 b_H_takes 55 (.getfield 24) 58 := ⟨by decide +kernel, rfl⟩
theorem d_H_takes_58 : cd_D_icmp_ge b_H_takes 58 82 61 := ⟨24, by decide +kernel, by decide, rfl⟩
theorem d_H_takes_61 : cd_D_aload b_H_takes 61 0 62 := Or.inr ⟨0, ⟨by decide +kernel, rfl⟩, rfl⟩
theorem d_H_takes_62 : cd_D 3 b_H_takes 62 (.getfield 20) 65 := ⟨by decide +kernel, rfl⟩
theorem d_H_takes_65 : cd_D_iload b_H_takes 65 2 66 := Or.inr ⟨2, ⟨by decide +kernel, rfl⟩, rfl⟩
theorem d_H_takes_66 : cd_D 1 b_H_takes 66 .aaload 67 := ⟨by decide +kernel, rfl⟩
theorem d_H_takes_67 : cd_D_aload b_H_takes 67 1 68 := Or.inr ⟨1, ⟨by decide +kernel, rfl⟩, rfl⟩
theorem d_H_takes_68 : cd_D 3 b_H_takes 68 (.getfield 20) 71 := ⟨by decide +kernel, rfl⟩
theorem d_H_takes_71 : cd_D_iload b_H_takes 71 2 72 := Or.inr ⟨2, ⟨by decide +kernel, rfl⟩, rfl⟩
theorem d_H_takes_72 : cd_D 1 b_H_takes 72 .aaload 73 := ⟨by decide +kernel, rfl⟩
theorem d_H_takes_73 : cd_D 3 b_H_takes 73 (.invokevirtual 54) 76 := ⟨by decide +kernel, rfl⟩
theorem d_H_takes_76 : cd_D 3 b_H_takes 76 (.iinc 2 (1)) 79 := ⟨by decide +kernel, rfl⟩
theorem d_H_takes_79 : cd_D_goto b_H_takes 79 53 := ⟨-26, by decide +kernel, by decide⟩
theorem d_H_takes_82 : cd_D_aload b_H_takes 82 0 83 := Or.inr ⟨0, ⟨by decide +kernel, rfl⟩, rfl⟩
theorem d_H_takes_83 : cd_D_aload b_H_takes 83 1 84 := Or.inr ⟨1, ⟨by decide +kernel, rfl⟩, rfl⟩
theorem d_H_takes_84 : cd_D 3 b_H_takes 84 (.getfield 28) 87 := ⟨by decide +kernel, rfl⟩
theorem d_H_takes_87 : cd_D 3 b_H_takes 87 (.putfield 28) 90 := ⟨by decide +kernel, rfl⟩
theorem d_H_takes_90 : cd_D_aload b_H_takes 90 0 91 := Or.inr ⟨0, ⟨by decide +kernel, rfl⟩, rfl⟩
theorem d_H_takes_91 : cd_D_aload b_H_takes 91 1 92 := Or.inr ⟨1, ⟨by decide +kernel, rfl⟩, rfl⟩
theorem d_H_takes_92 : cd_D 3 b_H_takes 92 (.getfield 31) 95 := ⟨by decide +kernel, rfl⟩
theorem d_H_takes_95 : cd_D 3 b_H_takes 95 (.putfield 31) 98 := ⟨by decide +kernel, rfl⟩
theorem d_H_takes_98 : cd_D_aload b_H_takes 98 0 99 := Or.inr ⟨0, ⟨by decide +kernel, rfl⟩, rfl⟩
theorem d_H_takes_99 : cd_D_aload b_H_takes 99 1 100 := Or.inr ⟨1, ⟨by decide +kernel, rfl⟩, rfl⟩
theorem d_H_takes_100 : cd_D 3 b_H_takes 100 (.getfield 40) 103 := ⟨by decide +kernel, rfl⟩
theorem d_H_takes_103 : cd_D 3 b_H_takes 103 (.putfield 40) 106 := ⟨by decide +kernel, rfl⟩
theorem d_H_takes_106 : cd_Dk b_H_takes 106 (nI 0) 107 := Or.inl ⟨0, ⟨by decide +kernel, rfl⟩, by decide +kernel⟩
theorem d_H_takes_107 : cd_D_istore b_H_takes 107 2 108 := Or.inr ⟨2, ⟨by decide +kernel, rfl⟩, rfl⟩
theorem d_H_takes_108 : cd_D_iload b_H_takes 108 2 109 := Or.inr ⟨2, ⟨by decide +kernel, rfl⟩, rfl⟩
theorem d_H_takes_109 : cd_D_aload b_H_takes 109 0 110 := Or.inr ⟨0, ⟨by decide +kernel, rfl⟩, rfl⟩
theorem d_H_takes_110 : cd_D 3 b_H_takes 110 (.getfield 40) 113 := ⟨by decide +kernel, rfl⟩
theorem d_H_takes_113 : cd_D_icmp_ge b_H_takes 113 134 116 := ⟨21, by decide +kernel, by decide, rfl⟩
theorem d_H_takes_116 : cd_D_aload b_H_takes 116 0 117 := Or.inr ⟨0, ⟨by decide +kernel, rfl⟩, rfl⟩
theorem d_H_takes_117 : cd_D 3 b_H_takes 117 (.getfield 36) 120 := ⟨by decide +kernel, rfl⟩
theorem d_H_takes_120 : cd_D_iload b_H_takes 120 2 121 := Or.inr ⟨2, ⟨by decide +kernel, rfl⟩, rfl⟩
theorem d_H_takes_121 : cd_D_aload b_H_takes 121 1 122 := Or.inr ⟨1, ⟨by decide +kernel, rfl⟩, rfl⟩
theorem d_H_takes_122 : cd_D 3 b_H_takes 122 (.getfield 36) 125 := ⟨by decide +kernel, rfl⟩
theorem d_H_takes_125 : cd_D_iload b_H_takes 125 2 126 := Or.inr ⟨2, ⟨by decide +kernel, rfl⟩, rfl⟩
theorem d_H_takes_126 : cd_D 1 b_H_takes 126 .aaload 127 := ⟨by decide +kernel, rfl⟩
theorem d_H_takes_127 : cd_D 1 b_H_takes 127 .aastore 128 := ⟨by decide +kernel, rfl⟩
theorem d_H_takes_128 : cd_D 3 b_H_takes 128 (.iinc 2 (1)) 131 := ⟨by decide +kernel, rfl⟩
theorem d_H_takes_131 : cd_D_goto b_H_takes 131 108 := ⟨-23, by decide +kernel, by decide⟩
theorem d_H_takes_134 : cd_D 1 b_H_takes 134 .return_ 135 := ⟨by decide +kernel, rfl⟩
theorem c_H_takes {l : Launch} {w : cd_WT} {S : cd_Sp} {I : cd_Mem} {h g mm tc : Nat} {N : Nat → Int32} (hG : cd_HG w S I g N mm tc) (hH : cd_HO w S h) (hhd : h + 18 ≤ w.1 + 112) (hdis : h + 18 ≤ g ∨ g + 18 ≤ h) : cd_C l w m_H_takes 1 0 0 [.ref h, .ref g] S I (fun r S' I' => r = none ∧ cd_ss S S' h ∧ cd_HG w S' I' h N mm tc ∧ ∀ b, ¬ (h ≤ b ∧ b < h + 18) → I' b = I b) := by
  refine cd_intro (by decide) (by simp [Value.category]) (Nat.le_of_ble_eq_true rfl) ?_
  intro X hO hE
  show cd_J w X 0 0 S I 0 [some (.ref h), some (.ref g), none] []
  obtain ⟨hK, hkd, hV, hIV, hR⟩ := id hG
  have hmm := hV.2.1
  have htc := hV.2.2.2.1
  have hm1 : I g 3 = nI mm := (hR.at 1 (by omega) rfl rfl).trans hV.1
  have hm7 : I g 7 = nI tc := (hR.at 15 (by omega) rfl rfl).trans hV.2.2.1
  have loop2 : ∀ (I3 : cd_Mem), I3 h 7 = nI tc → (∀ S2, cd_ss S S2 h → (∀ t, t < tc → S2.2.2 (h + 4) t = S.2.2 (g + 4) t) → cd_HG w S2 I3 h N mm tc) → (∀ b, ¬ (h ≤ b ∧ b < h + 18) → I3 b = I b) → ∀ (r i : Nat) (S2 : cd_Sp), i + r = tc → cd_ss S S2 h → (∀ t, t < i → S2.2.2 (h + 4) t = S.2.2 (g + 4) t) → cd_J w X 0 0 S2 I3 108 [some (.ref h), some (.ref g), some (.int (nI i))] [] := by
    intro I3 h7 hE3 ho3 r
    induction r with
    | zero =>
      intro i S2 hi hs ht
      have him : i = tc := by omega
      subst him
      have hH2 : cd_HO w S2 h := hH.ss hs (Or.inl rfl)
      refine r_iload hO d_H_takes_108 rfl ?_
      refine r_aload hO d_H_takes_109 rfl ?_
      refine r_getI hO f_H_40 rfl hH2.2.1 d_H_takes_110 ?_
      refine r_tops h7 ?_
      refine r_icmp_ge hO d_H_takes_113 (fun c_113 => ?_) (fun c_113 => ?_)
      · refine r_vret hO hE (Nat.zero_le _) (Nat.zero_le _) d_H_takes_134 ?_
        exact ⟨rfl, hs, hE3 S2 hs ht, ho3⟩
      · exact absurd (nI_le (Nat.le_refl _) (by omega)) c_113
    | succ r ih =>
      intro i S2 hi hs ht
      have hH2 : cd_HO w S2 h := hH.ss hs (Or.inl rfl)
      have hK2 : cd_HO w S2 g := hK.ss hs (Or.inr hdis)
      obtain ⟨q, hq, nq, vq, hXq, -⟩ := hR.2.1 i (by omega)
      have hxq : S2.2.2 (g + 4) i = some (w.1 + 112 + 3 * q + 1) := by rw [hs.2.2 _ (by omega)]; exact hq
      have hxs : S2.2.1 (w.1 + 112 + 3 * q + 1) = (1, 5) := by rw [hs.2.1]; exact hXq.1
      refine r_iload hO d_H_takes_108 rfl ?_
      refine r_aload hO d_H_takes_109 rfl ?_
      refine r_getI hO f_H_40 rfl hH2.2.1 d_H_takes_110 ?_
      refine r_tops h7 ?_
      refine r_icmp_ge hO d_H_takes_113 (fun c_113 => ?_) (fun c_113 => ?_)
      · exact absurd c_113 (nI_ge (by omega) (by omega))
      · refine r_aload hO d_H_takes_116 rfl ?_
        refine r_getR hO f_H_36 rfl hH2.2.1 hH2.2.2.2.2.2.1.1 d_H_takes_117 ?_
        refine r_iload hO d_H_takes_120 rfl ?_
        refine r_aload hO d_H_takes_121 rfl ?_
        refine r_getR hO f_H_36 rfl hK2.2.1 hK2.2.2.2.2.2.1.1 d_H_takes_122 ?_
        refine r_iload hO d_H_takes_125 rfl ?_
        refine r_aald (t := 5) hO hK2.2.2.2.2.2.1.2 (by decide) (by decide) (by omega) (by decide) hxq d_H_takes_126 ?_
        refine r_aastX hO hH2.2.2.2.2.2.1.2 hxs (Nat.le_trans hH2.1 (Nat.le_add_right _ _)) (by omega) (by decide) d_H_takes_127 ?_
        refine r_incN2 hO d_H_takes_128 rfl ?_
        refine r_goto hO d_H_takes_131 ?_
        refine ih (i + 1) _ (by omega) (hs.tr (cd_ss.sr _ _ _ _)) (fun t ht2 => ?_)
        have e5 : (cd_sr S2 (h + 4) i (w.1 + 112 + 3 * q + 1)).2.2 (h + 4) = va_up (S2.2.2 (h + 4)) i (some (w.1 + 112 + 3 * q + 1)) := if_pos rfl
        rw [e5]
        by_cases hti : t = i
        · subst hti
          rw [hq]
          simp [va_up]
        · simp only [va_up, hti, if_false]
          exact ht t (by omega)
  have loop : ∀ (r i : Nat) (I2 : cd_Mem), i + r = mm → cd_tn1 I I2 h g mm i → cd_J w X 0 0 S I2 53 [some (.ref h), some (.ref g), some (.int (nI i))] [] := by
    intro r
    induction r with
    | zero =>
      intro i I2 hi ht
      have him : i = mm := by omega
      subst him
      have hm3 := ht.2.2.2.2.1
      have hIg : I2 g = I g := ht.1 _ (by omega)
      refine r_iload hO d_H_takes_53 rfl ?_
      refine r_aload hO d_H_takes_54 rfl ?_
      refine r_getI hO f_H_24 rfl hH.2.1 d_H_takes_55 ?_
      refine r_tops hm3 ?_
      refine r_icmp_ge hO d_H_takes_58 (fun c_58 => ?_) (fun c_58 => ?_)
      · refine r_aload hO d_H_takes_82 rfl ?_
        refine r_aload hO d_H_takes_83 rfl ?_
        refine r_getI hO f_H_28 rfl hK.2.1 d_H_takes_84 ?_
        rw [hIg]
        refine r_putI hO f_H_28 rfl hH.2.1 hH.1 d_H_takes_87 ?_
        refine r_aload hO d_H_takes_90 rfl ?_
        refine r_aload hO d_H_takes_91 rfl ?_
        refine r_getI hO f_H_31 rfl hK.2.1 d_H_takes_92 ?_
        simp (disch := omega) only [cd_set_eq, cd_set_ne, cd_set_set]
        rw [hIg]
        refine r_putI hO f_H_31 rfl hH.2.1 hH.1 d_H_takes_95 ?_
        simp (disch := omega) only [cd_set_eq, cd_set_ne, cd_set_set]
        refine r_aload hO d_H_takes_98 rfl ?_
        refine r_aload hO d_H_takes_99 rfl ?_
        refine r_getI hO f_H_40 rfl hK.2.1 d_H_takes_100 ?_
        simp (disch := omega) only [cd_set_eq, cd_set_ne, cd_set_set]
        rw [hIg]
        refine r_putI hO f_H_40 rfl hH.2.1 hH.1 d_H_takes_103 ?_
        simp (disch := omega) only [cd_set_eq, cd_set_ne, cd_set_set]
        refine r_k hO d_H_takes_106 ?_
        refine r_sI2 hO d_H_takes_107 rfl ?_
        refine loop2 _ (by rw [cd_set_eq]; exact hm7) (fun S2 hs ht2 => cd_tn1_end hG hH hhd hdis ht hs ht2) (fun b hb => ?_) tc 0 S (by omega) (cd_ss.rf _ _) (fun t ht => by omega)
        rw [cd_set_ne _ _ (by omega)]
        exact ht.1 b hb
      · exact absurd (nI_le (Nat.le_refl _) (by omega)) c_58
    | succ r ih =>
      intro i I2 hi ht
      have hm3 := ht.2.2.2.2.1
      refine r_iload hO d_H_takes_53 rfl ?_
      refine r_aload hO d_H_takes_54 rfl ?_
      refine r_getI hO f_H_24 rfl hH.2.1 d_H_takes_55 ?_
      refine r_tops hm3 ?_
      refine r_icmp_ge hO d_H_takes_58 (fun c_58 => ?_) (fun c_58 => ?_)
      · exact absurd c_58 (nI_ge (by omega) (by omega))
      · refine r_aload hO d_H_takes_61 rfl ?_
        refine r_getR hO f_H_20 rfl hH.2.1 hH.2.2.2.2.1.1 d_H_takes_62 ?_
        refine r_iload hO d_H_takes_65 rfl ?_
        refine r_aald (t := 4) hO hH.2.2.2.2.1.2 (by decide) (by decide) (by omega) (by decide) (hH.2.2.2.2.2.2.2 _ (by omega)).1 d_H_takes_66 ?_
        refine r_aload hO d_H_takes_67 rfl ?_
        refine r_getR hO f_H_20 rfl hK.2.1 hK.2.2.2.2.1.1 d_H_takes_68 ?_
        refine r_iload hO d_H_takes_71 rfl ?_
        refine r_aald (t := 4) hO hK.2.2.2.2.1.2 (by decide) (by decide) (by omega) (by decide) (hK.2.2.2.2.2.2.2 _ (by omega)).1 d_H_takes_72 ?_
        refine r_cV1fv hO hE (c_A_takes (hH.2.2.2.2.2.2.2 _ (by omega)).2 (Nat.le_trans hH.1 (by omega)) (hK.2.2.2.2.2.2.2 _ (by omega)).2 (by omega)) mf_A_takes lk_H_54 (hH.2.2.2.2.2.2.2 _ (by omega)).2 rfl (by decide) rfl (Nat.le_of_ble_eq_true rfl) d_H_takes_73 (Nat.zero_le _) (Nat.zero_le _) ?_
        refine r_incN2 hO d_H_takes_76 rfl ?_
        refine r_goto hO d_H_takes_79 ?_
        exact ih (i + 1) _ (by omega) (cd_tn1_s ht (by omega) hdis)
  refine r_aload hO d_H_takes_0 rfl ?_
  refine r_getR hO f_H_9 rfl hK.2.1 hK.2.2.1.1 d_H_takes_1 ?_
  refine r_k hO d_H_takes_4 ?_
  refine r_aload hO d_H_takes_5 rfl ?_
  refine r_getR hO f_H_9 rfl hH.2.1 hH.2.2.1.1 d_H_takes_6 ?_
  refine r_k hO d_H_takes_9 ?_
  refine r_k hO d_H_takes_10 ?_
  refine r_copy hO hE lk_H_48 hK.2.2.1.2 hH.2.2.1.2 (Nat.le_trans hH.1 (Nat.le_add_right _ _)) (sp := 0) (dp := 0) (q := 7) (by decide) (by decide) (by decide) (by decide) (by decide) rfl (Nat.le_of_ble_eq_true rfl) d_H_takes_12 ?_
  try simp (disch := omega) only [cd_set_eq, cd_set_ne, cd_set_set]
  refine r_aload hO d_H_takes_15 rfl ?_
  refine r_getR hO f_H_15 rfl hK.2.1 hK.2.2.2.1.1 d_H_takes_16 ?_
  refine r_k hO d_H_takes_19 ?_
  refine r_aload hO d_H_takes_20 rfl ?_
  refine r_getR hO f_H_15 rfl hH.2.1 hH.2.2.2.1.1 d_H_takes_21 ?_
  refine r_k hO d_H_takes_24 ?_
  refine r_k hO d_H_takes_25 ?_
  refine r_copy hO hE lk_H_48 hK.2.2.2.1.2 hH.2.2.2.1.2 (Nat.le_trans hH.1 (Nat.le_add_right _ _)) (sp := 0) (dp := 0) (q := 5) (by decide) (by decide) (by decide) (by decide) (by decide) rfl (Nat.le_of_ble_eq_true rfl) d_H_takes_26 ?_
  try simp (disch := omega) only [cd_set_eq, cd_set_ne, cd_set_set]
  refine r_aload hO d_H_takes_29 rfl ?_
  refine r_getR hO f_H_44 rfl hK.2.1 hK.2.2.2.2.2.2.1.1 d_H_takes_30 ?_
  refine r_k hO d_H_takes_33 ?_
  refine r_aload hO d_H_takes_34 rfl ?_
  refine r_getR hO f_H_44 rfl hH.2.1 hH.2.2.2.2.2.2.1.1 d_H_takes_35 ?_
  refine r_k hO d_H_takes_38 ?_
  refine r_k hO d_H_takes_39 ?_
  refine r_copy hO hE lk_H_48 hK.2.2.2.2.2.2.1.2 hH.2.2.2.2.2.2.1.2 (Nat.le_trans hH.1 (Nat.le_add_right _ _)) (sp := 0) (dp := 0) (q := 3) (by decide) (by decide) (by decide) (by decide) (by decide) rfl (Nat.le_of_ble_eq_true rfl) d_H_takes_40 ?_
  try simp (disch := omega) only [cd_set_eq, cd_set_ne, cd_set_set]
  refine r_aload hO d_H_takes_43 rfl ?_
  refine r_aload hO d_H_takes_44 rfl ?_
  refine r_getI hO f_H_24 rfl hK.2.1 d_H_takes_45 ?_
  simp (disch := omega) only [cd_set_eq, cd_set_ne, cd_set_set]
  rw [hm1]
  refine r_putI hO f_H_24 rfl hH.2.1 hH.1 d_H_takes_48 ?_
  simp (disch := omega) only [cd_set_eq, cd_set_ne, cd_set_set]
  refine r_k hO d_H_takes_51 ?_
  refine r_sI2 hO d_H_takes_52 rfl ?_
  exact loop mm 0 _ (by omega) cd_tn1_0
