/-- sheets: each has 0 to 24 places, and is missing, of shorts, or of floats -/
def cd_VS (so sz : Nat → Int32) : Prop := ∀ s, s < 4 → ∃ n, n ≤ 24 ∧ sz s = nI n ∧ (so s = -1 ∨ so s = nI 0 ∨ so s = nI 1)
def cd_Plg (S : cd_Sp) (P : Int64 → cd_Mem → Prop) : cd_Pt := fun r S' I' => ∃ x, r = some (.long x) ∧ S' = S ∧ P x I'
section CDL
variable {l : Launch} {w : cd_WT} {X : cd_XT} {cc : ByteArray} {own : String} {d mc ms : Nat} {k n : Nat} {S : cd_Sp} {I : cd_Mem} {pc pc' tgt : Nat} {lv : List (Option Value)} {st : List Value} {nL : Nat} {rt : Option FieldType} {nm : String} {post : cd_Pt}
theorem r_cV2l (hO : cd_O w X cc own d mc ms l) (hE : cd_E w X nL rt mc ms nm post) {m : cd_MT} {d' index b c : Nat} {v1 v2 : Value} {P : Int64 → cd_Mem → Prop} (hc : cd_C l w m d' 0 0 (.ref b :: [v1, v2]) S I (cd_Plg S P)) (hm : cd_MV m 2) (hlk : Cond.methodLink own index m.1 ∈ cd_ws) (hs : S.2.1 b = (1, c)) (hcl : (cd_cls[c]?).map (·.1) = some m.1.cls) (hdd : d' + 1 ≤ d) (hlv : lv.length = nL) (hcat : (st.map fun v => v.category).sum ≤ 8) (hd : cd_D 3 cc pc (.invokevirtual index) pc') (hk : k ≤ mc) (hn : n ≤ ms) (kk : ∀ (x : Int64) (I' : cd_Mem), P x I' → cd_J w X k n S I' pc' lv (.long x :: st)) : cd_J w X k n S I pc lv (v2 :: v1 :: .ref b :: st) :=
  cd_callV hO hE.1 hc hm hlk hs hcl hdd rfl hlv rfl hcat hd ⟨hk, hn⟩ (fun r S' I' h => by obtain ⟨x, rfl, rfl, hp⟩ := h; exact kk x I' hp)
end CDL
def cd_ot (ce N : Nat → Int32) (mm tc s a k : Nat) : Int64 := if ce (24 * s + k) = cd_NONE then 0 else if 0 ≤ lg_cmp ((ce (24 * s + k)).toInt64 - (cd_hs N mm tc (24 * k) (16 + 5 * a + 2)).toInt64) 0 then (ce (24 * s + k)).toInt64 - (cd_hs N mm tc (24 * k) (16 + 5 * a + 2)).toInt64 else -((ce (24 * s + k)).toInt64 - (cd_hs N mm tc (24 * k) (16 + 5 * a + 2)).toInt64)
def cd_ol (ce N : Nat → Int32) (mm tc s a : Nat) : Nat → Int64
  | 0 => 0
  | k + 1 => cd_ol ce N mm tc s a k + cd_ot ce N mm tc s a k
def cd_bl (f : Nat → Int64) : Nat → Int32 × Int64
  | 0 => (-1, 0)
  | p + 1 => if (cd_bl f p).1 < 0 then (nI p, f p) else if 0 ≤ lg_cmp (f p) (cd_bl f p).2 then cd_bl f p else (nI p, f p)
theorem cd_bl_a {f : Nat → Int64} {k : Nat} {b : Int32} {l x : Int64} (hb : cd_bl f k = (b, l)) (hx : x = f k) (h : b < 0) : cd_bl f (k + 1) = (nI k, x) := by
  show (if (cd_bl f k).1 < 0 then _ else _) = _
  rw [hb, if_pos h, hx]
theorem cd_bl_b {f : Nat → Int64} {k : Nat} {b : Int32} {l x : Int64} (hb : cd_bl f k = (b, l)) (hx : x = f k) (h : ¬ b < 0) (h2 : 0 ≤ lg_cmp x l) : cd_bl f (k + 1) = (b, l) := by
  show (if (cd_bl f k).1 < 0 then _ else if 0 ≤ lg_cmp (f k) (cd_bl f k).2 then cd_bl f k else _) = _
  rw [hb, if_neg h, if_pos (by rw [← hx]; exact h2)]
theorem cd_bl_c {f : Nat → Int64} {k : Nat} {b : Int32} {l x : Int64} (hb : cd_bl f k = (b, l)) (hx : x = f k) (h : ¬ b < 0) (h2 : ¬ 0 ≤ lg_cmp x l) : cd_bl f (k + 1) = (nI k, x) := by
  show (if (cd_bl f k).1 < 0 then _ else if 0 ≤ lg_cmp (f k) (cd_bl f k).2 then cd_bl f k else _) = _
  rw [hb, if_neg h, if_neg (by rw [← hx]; exact h2), hx]
def sp_taught (N so sz ce : Nat → Int32) (mm tc : Nat) (s q : Int32) : Int32 := if nI 0 ≤ s ∧ s ≤ nI 3 then (if nI 0 ≤ q ∧ q ≤ nI 1 then (if 0 ≤ so (cd_tn s) then (if 0 ≤ (cd_bl (fun a => cd_ol ce N mm tc (cd_tn s) a (min (cd_tn (sz (cd_tn s))) 12)) mm).1 then (if q = 0 then (cd_bl (fun a => cd_ol ce N mm tc (cd_tn s) a (min (cd_tn (sz (cd_tn s))) 12)) mm).1 else (cd_bl (fun a => cd_ol ce N mm tc (cd_tn s) a (min (cd_tn (sz (cd_tn s))) 12)) mm).2.toInt32) else cd_NONE) else cd_NOTHING) else cd_BAD) else cd_BAD
theorem d_M_offBy_0 : cd_D 1 b_M_offBy 0 (.lconst 0) 1 := ⟨by decide +kernel, rfl⟩
theorem d_M_offBy_1 : cd_D_lstore b_M_offBy 1 3 2 := Or.inr ⟨3, ⟨by decide +kernel, rfl⟩, rfl⟩
theorem d_M_offBy_2 : cd_Dk b_M_offBy 2 (nI 0) 3 := Or.inl ⟨0, ⟨by decide +kernel, rfl⟩, by decide +kernel⟩
theorem d_M_offBy_3 : cd_D_istore b_M_offBy 3 5 5 := Or.inl ⟨by decide +kernel, rfl⟩
theorem d_M_offBy_5 : cd_D_iload b_M_offBy 5 5 7 := Or.inl ⟨by decide +kernel, rfl⟩
theorem d_M_offBy_7 : cd_D_aload b_M_offBy 7 0 8 := Or.inr ⟨0, ⟨by decide +kernel, rfl⟩, rfl⟩
theorem d_M_offBy_8 : cd_D 3 b_M_offBy 8 (.getfield 51) 11 := ⟨by decide +kernel, rfl⟩
theorem d_M_offBy_11 : cd_D_iload b_M_offBy 11 1 12 := Or.inr ⟨1, ⟨by decide +kernel, rfl⟩, rfl⟩
theorem d_M_offBy_12 : cd_D 1 b_M_offBy 12 .iaload 13 := ⟨by decide +kernel, rfl⟩
theorem d_M_offBy_13 : cd_D_icmp_ge b_M_offBy 13 91 16 := ⟨78, by decide +kernel, by decide, rfl⟩
theorem d_M_offBy_16 : cd_D_iload b_M_offBy 16 5 18 := Or.inl ⟨by decide +kernel, rfl⟩
theorem d_M_offBy_18 : cd_Dk b_M_offBy 18 (nI 12) 20 := Or.inr (Or.inl ⟨12, ⟨by decide +kernel, rfl⟩, by decide +kernel⟩)
theorem d_M_offBy_20 : cd_D_icmp_ge b_M_offBy 20 91 23 := ⟨71, by decide +kernel, by decide, rfl⟩
theorem d_M_offBy_23 : cd_D_aload b_M_offBy 23 0 24 := Or.inr ⟨0, ⟨by decide +kernel, rfl⟩, rfl⟩
theorem d_M_offBy_24 : cd_D 3 b_M_offBy 24 (.getfield 54) 27 := ⟨by decide +kernel, rfl⟩
theorem d_M_offBy_27 : cd_Dk b_M_offBy 27 (nI 24) 29 := Or.inr (Or.inl ⟨24, ⟨by decide +kernel, rfl⟩, by decide +kernel⟩)
theorem d_M_offBy_29 : cd_D_iload b_M_offBy 29 1 30 := Or.inr ⟨1, ⟨by decide +kernel, rfl⟩, rfl⟩
theorem d_M_offBy_30 : cd_D 1 b_M_offBy 30 .imul 31 := ⟨by decide +kernel, rfl⟩
theorem d_M_offBy_31 : cd_D_iload b_M_offBy 31 5 33 := Or.inl ⟨by decide +kernel, rfl⟩
theorem d_M_offBy_33 : cd_D 1 b_M_offBy 33 .iadd 34 := ⟨by decide +kernel, rfl⟩
theorem d_M_offBy_34 : cd_D 1 b_M_offBy 34 .iaload 35 := ⟨by decide +kernel, rfl⟩
theorem d_M_offBy_35 : cd_D_istore b_M_offBy 35 6 37 := Or.inl ⟨by decide +kernel, rfl⟩
theorem d_M_offBy_37 : cd_D_iload b_M_offBy 37 6 39 := Or.inl ⟨by decide +kernel, rfl⟩
theorem d_M_offBy_39 : cd_D 1 b_M_offBy 39 .i2l 40 := ⟨by decide +kernel, rfl⟩
theorem d_M_offBy_40 : cd_D_aload b_M_offBy 40 0 41 := Or.inr ⟨0, ⟨by decide +kernel, rfl⟩, rfl⟩
theorem d_M_offBy_41 : cd_D_iload b_M_offBy 41 2 42 := Or.inr ⟨2, ⟨by decide +kernel, rfl⟩, rfl⟩
theorem d_M_offBy_42 : cd_Dk b_M_offBy 42 (nI 2) 43 := Or.inl ⟨2, ⟨by decide +kernel, rfl⟩, by decide +kernel⟩
theorem d_M_offBy_43 : cd_D 3 b_M_offBy 43 (.invokevirtual 97) 46 := ⟨by decide +kernel, rfl⟩
theorem d_M_offBy_46 : cd_D 1 b_M_offBy 46 .i2l 47 := ⟨by decide +kernel, rfl⟩
theorem d_M_offBy_47 : cd_D 1 b_M_offBy 47 .lsub 48 := ⟨by decide +kernel, rfl⟩
theorem d_M_offBy_48 : cd_D_lstore b_M_offBy 48 7 50 := Or.inl ⟨by decide +kernel, rfl⟩
theorem d_M_offBy_50 : cd_D_lload b_M_offBy 50 3 51 := Or.inr ⟨3, ⟨by decide +kernel, rfl⟩, rfl⟩
theorem d_M_offBy_51 : cd_D_iload b_M_offBy 51 6 53 := Or.inl ⟨by decide +kernel, rfl⟩
theorem d_M_offBy_53 : cd_D 2 b_M_offBy 53 (.ldc 176) 55 := ⟨by decide +kernel, rfl⟩
theorem d_M_offBy_55 : cd_D_icmp_ne b_M_offBy 55 62 58 := ⟨7, by decide +kernel, by decide, rfl⟩
theorem d_M_offBy_58 : cd_D 1 b_M_offBy 58 (.lconst 0) 59 := ⟨by decide +kernel, rfl⟩
theorem d_M_offBy_59 : cd_D_goto b_M_offBy 59 77 := ⟨18, by decide +kernel, by decide⟩
theorem d_M_offBy_62 : cd_D_lload b_M_offBy 62 7 64 := Or.inl ⟨by decide +kernel, rfl⟩
theorem d_M_offBy_64 : cd_D 1 b_M_offBy 64 (.lconst 0) 65 := ⟨by decide +kernel, rfl⟩
theorem d_M_offBy_65 : cd_D 1 b_M_offBy 65 .lcmp 66 := ⟨by decide +kernel, rfl⟩
theorem d_M_offBy_66 : cd_D_if_ge b_M_offBy 66 75 69 := ⟨9, by decide +kernel, by decide, rfl⟩
theorem d_M_offBy_69 : cd_D_lload b_M_offBy 69 7 71 := Or.inl ⟨by decide +kernel, rfl⟩
theorem d_M_offBy_71 : cd_D 1 b_M_offBy 71 .lneg 72 := ⟨by decide +kernel, rfl⟩
theorem d_M_offBy_72 : cd_D_goto b_M_offBy 72 77 := ⟨5, by decide +kernel, by decide⟩
theorem d_M_offBy_75 : cd_D_lload b_M_offBy 75 7 77 := Or.inl ⟨by decide +kernel, rfl⟩
theorem d_M_offBy_77 : cd_D 1 b_M_offBy 77 .ladd 78 := ⟨by decide +kernel, rfl⟩
theorem d_M_offBy_78 : cd_D_lstore b_M_offBy 78 3 79 := Or.inr ⟨3, ⟨by decide +kernel, rfl⟩, rfl⟩
theorem d_M_offBy_79 : cd_D_aload b_M_offBy 79 0 80 := Or.inr ⟨0, ⟨by decide +kernel, rfl⟩, rfl⟩
theorem d_M_offBy_80 : cd_Dk b_M_offBy 80 (nI 24) 82 := Or.inr (Or.inl ⟨24, ⟨by decide +kernel, rfl⟩, by decide +kernel⟩)
theorem d_M_offBy_82 : cd_D 3 b_M_offBy 82 (.invokevirtual 161) 85 := ⟨by decide +kernel, rfl⟩
theorem d_M_offBy_85 : cd_D 3 b_M_offBy 85 (.iinc 5 (1)) 88 := ⟨by decide +kernel, rfl⟩
theorem d_M_offBy_88 : cd_D_goto b_M_offBy 88 5 := ⟨-83, by decide +kernel, by decide⟩
theorem d_M_offBy_91 : cd_D_aload b_M_offBy 91 0 92 := Or.inr ⟨0, ⟨by decide +kernel, rfl⟩, rfl⟩
theorem d_M_offBy_92 : cd_D 3 b_M_offBy 92 (.invokevirtual 173) 95 := ⟨by decide +kernel, rfl⟩
theorem d_M_offBy_95 : cd_D_lload b_M_offBy 95 3 96 := Or.inr ⟨3, ⟨by decide +kernel, rfl⟩, rfl⟩
theorem d_M_offBy_96 : cd_D 1 b_M_offBy 96 .lreturn 97 := ⟨by decide +kernel, rfl⟩
theorem c_M_offBy {l : Launch} {w : cd_WT} {S : cd_Sp} {I : cd_Mem} {m : Nat} (hM : cd_MO w S m) (mm tc s a n : Nat) (hV : cd_V (I (m + 1)) mm tc) (hs4 : s < 4) (ha : a < 12) (hn : I (m + 14) s = nI n) (hn24 : n ≤ 24) (hB : ∀ j, j < 76 → I (m + 4) j = I (m + 1) j) : cd_C l w m_M_offBy 7 0 0 [.ref m, .int (nI s), .int (nI a)] S I (cd_Plg S (fun x I' => x = cd_ol (I (m + 15)) (I (m + 1)) mm tc s a (min n 12) ∧ I' (m + 1) = I (m + 1) ∧ cd_off I I' [m + 1, m + 11, m + 12])) := by
  refine cd_intro (by decide) (by simp [Value.category]) (Nat.le_of_ble_eq_true rfl) ?_
  intro X hO hE
  show cd_J w X 0 0 S I 0 [some (.ref m), some (.int (nI s)), some (.int (nI a)), none, none, none, none, none, none] []
  have hmm := hV.2.1
  have loop : ∀ (r k : Nat) (I2 : cd_Mem) (sm : Int64) (x6 x7 : Option Value), cd_nl x6 = true → cd_ol (I (m + 15)) (I (m + 1)) mm tc s a k = sm → k + r = min n 12 → I2 (m + 1) = cd_hs (I (m + 1)) mm tc (24 * k) → cd_off I I2 [m + 1, m + 11, m + 12] → cd_J w X 0 0 S I2 5 [some (.ref m), some (.int (nI s)), some (.int (nI a)), some (.long sm), none, some (.int (nI k)), x6, x7, none] [] := by
    intro r
    induction r with
    | zero =>
      intro k I2 sm x6 x7 hx6 hsm hk h2 ho
      have h14 : I2 (m + 14) s = nI n := by rw [ho _ (by simp)]; exact hn
      have hback : cd_cp 76 (I2 (m + 4)) (I2 (m + 1)) = I (m + 1) := by rw [ho (m + 4) (by simp), h2]; exact cd_cp_back hB (fun j hj => kq_hs _ hV.2.1 tc _ j (by omega))
      refine r_iload hO d_M_offBy_5 rfl ?_
      refine r_aload hO d_M_offBy_7 rfl ?_
      refine r_getR hO f_M_51 rfl hM.2.1 (mo_r14 hM) d_M_offBy_8 ?_
      refine r_iload hO d_M_offBy_11 rfl ?_
      refine r_iald hO (mo_s14 hM) (by omega) (by decide) d_M_offBy_12 ?_
      refine r_tops h14 ?_
      refine r_icmp_ge hO d_M_offBy_13 (fun c_13 => ?_) (fun c_13 => ?_)
      · refine r_aload hO d_M_offBy_91 rfl ?_
        refine r_cV0fv hO hE (c_M_putsBack hM) mf_M_putsBack lk_M_173 hM.2.1 rfl (by decide) rfl (Nat.le_of_ble_eq_true rfl) d_M_offBy_92 (Nat.zero_le _) (Nat.zero_le _) ?_
        rw [hback]
        refine r_lload hO d_M_offBy_95 rfl ?_
        refine r_lret hO hE (Nat.zero_le _) (Nat.zero_le _) d_M_offBy_96 ?_
        exact ⟨_, rfl, rfl, by rw [← hsm, show k = min n 12 by omega], cd_set_eq _ _ _, ho.tr (cd_off.set _ _ (by simp))⟩
      · have hkn : k < n := Nat.lt_of_not_le (fun q => c_13 (nI_le q (by omega)))
        refine r_iload hO d_M_offBy_16 rfl ?_
        refine r_k hO d_M_offBy_18 ?_
        refine r_icmp_ge hO d_M_offBy_20 (fun c_20 => ?_) (fun c_20 => ?_)
        · refine r_aload hO d_M_offBy_91 rfl ?_
          refine r_cV0fv hO hE (c_M_putsBack hM) mf_M_putsBack lk_M_173 hM.2.1 rfl (by decide) rfl (Nat.le_of_ble_eq_true rfl) d_M_offBy_92 (Nat.zero_le _) (Nat.zero_le _) ?_
          rw [hback]
          refine r_lload hO d_M_offBy_95 rfl ?_
          refine r_lret hO hE (Nat.zero_le _) (Nat.zero_le _) d_M_offBy_96 ?_
          exact ⟨_, rfl, rfl, by rw [← hsm, show k = min n 12 by omega], cd_set_eq _ _ _, ho.tr (cd_off.set _ _ (by simp))⟩
        · exact absurd (nI_le (show 12 ≤ k by omega) (by omega)) c_20
    | succ r ih =>
      intro k I2 sm x6 x7 hx6 hsm hk h2 ho
      have h14 : I2 (m + 14) s = nI n := by rw [ho _ (by simp)]; exact hn
      have h15 : I2 (m + 15) = I (m + 15) := ho _ (by simp)
      refine r_iload hO d_M_offBy_5 rfl ?_
      refine r_aload hO d_M_offBy_7 rfl ?_
      refine r_getR hO f_M_51 rfl hM.2.1 (mo_r14 hM) d_M_offBy_8 ?_
      refine r_iload hO d_M_offBy_11 rfl ?_
      refine r_iald hO (mo_s14 hM) (by omega) (by decide) d_M_offBy_12 ?_
      refine r_tops h14 ?_
      refine r_icmp_ge hO d_M_offBy_13 (fun c_13 => ?_) (fun c_13 => ?_)
      · exact absurd c_13 (nI_ge (by omega) (by omega))
      · refine r_iload hO d_M_offBy_16 rfl ?_
        refine r_k hO d_M_offBy_18 ?_
        refine r_icmp_ge hO d_M_offBy_20 (fun c_20 => ?_) (fun c_20 => ?_)
        · exact absurd c_20 (nI_ge (by omega) (by decide))
        · refine r_aload hO d_M_offBy_23 rfl ?_
          refine r_getR hO f_M_54 rfl hM.2.1 (mo_r15 hM) d_M_offBy_24 ?_
          refine r_k hO d_M_offBy_27 ?_
          refine r_iload hO d_M_offBy_29 rfl ?_
          refine r_imulN hO d_M_offBy_30 ?_
          refine r_iload hO d_M_offBy_31 rfl ?_
          refine r_iaddN hO d_M_offBy_33 ?_
          refine r_iald hO (mo_s15 hM) (by omega) (by decide) d_M_offBy_34 ?_
          rw [h15]
          refine r_sI6 hO d_M_offBy_35 rfl ?_
          refine r_iload hO d_M_offBy_37 rfl ?_
          refine r_i2l hO d_M_offBy_39 ?_
          refine r_aload hO d_M_offBy_40 rfl ?_
          refine r_iload hO d_M_offBy_41 rfl ?_
          refine r_k hO d_M_offBy_42 ?_
          refine r_cV2fi hO hE (c_M_of hM _ _ (by omega)) mf_M_of lk_M_97 hM.2.1 rfl (by decide) rfl (Nat.le_of_ble_eq_true rfl) d_M_offBy_43 (Nat.zero_le _) (Nat.zero_le _) ?_
          rw [h2]
          refine r_i2l hO d_M_offBy_46 ?_
          refine r_lsub hO d_M_offBy_47 ?_
          refine r_sL7 hO d_M_offBy_48 rfl ?_
          refine r_lload hO d_M_offBy_50 rfl ?_
          refine r_iload hO d_M_offBy_51 rfl ?_
          refine r_ldc hO k_M_176 d_M_offBy_53 ?_
          refine r_icmp_ne hO d_M_offBy_55 (fun c_55 => ?_) (fun c_55 => ?_)
          · refine r_lload hO d_M_offBy_62 rfl ?_
            refine r_lconst0 hO d_M_offBy_64 ?_
            refine r_lcmp hO d_M_offBy_65 ?_
            refine r_if_ge hO d_M_offBy_66 (fun c_66 => ?_) (fun c_66 => ?_)
            · refine r_lload hO d_M_offBy_75 rfl ?_
              refine r_ladd hO d_M_offBy_77 ?_
              refine r_sL3 hO d_M_offBy_78 rfl ?_
              refine r_aload hO d_M_offBy_79 rfl ?_
              refine r_k hO d_M_offBy_80 ?_
              refine r_cV1v hO hE (c_M_goesOn hM mm tc 24 (by decide) (by rw [h2]; exact hV.kq (kq_hs _ hmm tc _))) mf_M_goesOn lk_M_161 hM.2.1 rfl (by decide) rfl (Nat.le_of_ble_eq_true rfl) d_M_offBy_82 (Nat.zero_le _) (Nat.zero_le _) ?_
              rintro I3 ⟨h3, ho3⟩
              rw [h2, cd_hs_add] at h3
              refine r_incN5 hO d_M_offBy_85 rfl ?_
              refine r_goto hO d_M_offBy_88 ?_
              refine ih (k + 1) I3 _ _ _ rfl ?_ (by omega) h3 (ho.tr ho3)
              show cd_ol _ _ _ _ _ _ k + cd_ot _ _ _ _ _ _ k = _
              unfold cd_ot
              rw [if_neg c_55, if_pos c_66, hsm]
            · refine r_lload hO d_M_offBy_69 rfl ?_
              refine r_lneg hO d_M_offBy_71 ?_
              refine r_goto hO d_M_offBy_72 ?_
              refine r_ladd hO d_M_offBy_77 ?_
              refine r_sL3 hO d_M_offBy_78 rfl ?_
              refine r_aload hO d_M_offBy_79 rfl ?_
              refine r_k hO d_M_offBy_80 ?_
              refine r_cV1v hO hE (c_M_goesOn hM mm tc 24 (by decide) (by rw [h2]; exact hV.kq (kq_hs _ hmm tc _))) mf_M_goesOn lk_M_161 hM.2.1 rfl (by decide) rfl (Nat.le_of_ble_eq_true rfl) d_M_offBy_82 (Nat.zero_le _) (Nat.zero_le _) ?_
              rintro I3 ⟨h3, ho3⟩
              rw [h2, cd_hs_add] at h3
              refine r_incN5 hO d_M_offBy_85 rfl ?_
              refine r_goto hO d_M_offBy_88 ?_
              refine ih (k + 1) I3 _ _ _ rfl ?_ (by omega) h3 (ho.tr ho3)
              show cd_ol _ _ _ _ _ _ k + cd_ot _ _ _ _ _ _ k = _
              unfold cd_ot
              rw [if_neg c_55, if_neg c_66, hsm]
          · refine r_lconst0 hO d_M_offBy_58 ?_
            refine r_goto hO d_M_offBy_59 ?_
            refine r_ladd hO d_M_offBy_77 ?_
            refine r_sL3 hO d_M_offBy_78 rfl ?_
            refine r_aload hO d_M_offBy_79 rfl ?_
            refine r_k hO d_M_offBy_80 ?_
            refine r_cV1v hO hE (c_M_goesOn hM mm tc 24 (by decide) (by rw [h2]; exact hV.kq (kq_hs _ hmm tc _))) mf_M_goesOn lk_M_161 hM.2.1 rfl (by decide) rfl (Nat.le_of_ble_eq_true rfl) d_M_offBy_82 (Nat.zero_le _) (Nat.zero_le _) ?_
            rintro I3 ⟨h3, ho3⟩
            rw [h2, cd_hs_add] at h3
            refine r_incN5 hO d_M_offBy_85 rfl ?_
            refine r_goto hO d_M_offBy_88 ?_
            refine ih (k + 1) I3 _ _ _ rfl ?_ (by omega) h3 (ho.tr ho3)
            show cd_ol _ _ _ _ _ _ k + cd_ot _ _ _ _ _ _ k = _
            unfold cd_ot
            rw [if_pos c_55, hsm]
  refine r_lconst0 hO d_M_offBy_0 ?_
  refine r_sL3 hO d_M_offBy_1 rfl ?_
  refine r_k hO d_M_offBy_2 ?_
  refine r_sI5 hO d_M_offBy_3 rfl ?_
  exact loop _ 0 I _ _ _ rfl rfl (Nat.zero_add _) rfl (cd_off.rf _ _)
theorem d_M_taught_0 : cd_D_iload b_M_taught 0 1 1 := Or.inr ⟨1, ⟨by decide +kernel, rfl⟩, rfl⟩
theorem d_M_taught_1 : cd_D 3 b_M_taught 1 (.invokestatic 183) 4 := ⟨by decide +kernel, rfl⟩
theorem d_M_taught_4 : cd_D_if_eq b_M_taught 4 16 7 := ⟨12, by decide +kernel, by decide, rfl⟩
theorem d_M_taught_7 : cd_D_iload b_M_taught 7 2 8 := Or.inr ⟨2, ⟨by decide +kernel, rfl⟩, rfl⟩
theorem d_M_taught_8 : cd_Dk b_M_taught 8 (nI 0) 9 := Or.inl ⟨0, ⟨by decide +kernel, rfl⟩, by decide +kernel⟩
theorem d_M_taught_9 : cd_Dk b_M_taught 9 (nI 1) 10 := Or.inl ⟨1, ⟨by decide +kernel, rfl⟩, by decide +kernel⟩
theorem d_M_taught_10 : cd_D 3 b_M_taught 10 (.invokestatic 75) 13 := ⟨by decide +kernel, rfl⟩
theorem d_M_taught_13 : cd_D_if_ne b_M_taught 13 19 16 := ⟨6, by decide +kernel, by decide, rfl⟩
theorem d_M_taught_16 : cd_D 2 b_M_taught 16 (.ldc 87) 18 := ⟨by decide +kernel, rfl⟩
theorem d_M_taught_18 : cd_D 1 b_M_taught 18 .ireturn 19 := ⟨by decide +kernel, rfl⟩
theorem d_M_taught_19 : cd_D_aload b_M_taught 19 0 20 := Or.inr ⟨0, ⟨by decide +kernel, rfl⟩, rfl⟩
theorem d_M_taught_20 : cd_D 3 b_M_taught 20 (.getfield 48) 23 := ⟨by decide +kernel, rfl⟩
theorem d_M_taught_23 : cd_D_iload b_M_taught 23 1 24 := Or.inr ⟨1, ⟨by decide +kernel, rfl⟩, rfl⟩
theorem d_M_taught_24 : cd_D 1 b_M_taught 24 .iaload 25 := ⟨by decide +kernel, rfl⟩
theorem d_M_taught_25 : cd_D_if_ge b_M_taught 25 31 28 := ⟨6, by decide +kernel, by decide, rfl⟩
theorem d_M_taught_28 : cd_D 2 b_M_taught 28 (.ldc 186) 30 := ⟨by decide +kernel, rfl⟩
theorem d_M_taught_30 : cd_D 1 b_M_taught 30 .ireturn 31 := ⟨by decide +kernel, rfl⟩
theorem d_M_taught_31 : cd_D_aload b_M_taught 31 0 32 := Or.inr ⟨0, ⟨by decide +kernel, rfl⟩, rfl⟩
theorem d_M_taught_32 : cd_D 3 b_M_taught 32 (.invokevirtual 170) 35 := ⟨by decide +kernel, rfl⟩
theorem d_M_taught_35 : cd_Dk b_M_taught 35 (-1) 36 := Or.inl ⟨-1, ⟨by decide +kernel, rfl⟩, by decide +kernel⟩
theorem d_M_taught_36 : cd_D_istore b_M_taught 36 3 37 := Or.inr ⟨3, ⟨by decide +kernel, rfl⟩, rfl⟩
theorem d_M_taught_37 : cd_D 1 b_M_taught 37 (.lconst 0) 38 := ⟨by decide +kernel, rfl⟩
theorem d_M_taught_38 : cd_D_lstore b_M_taught 38 4 40 := Or.inl ⟨by decide +kernel, rfl⟩
theorem d_M_taught_40 : cd_Dk b_M_taught 40 (nI 0) 41 := Or.inl ⟨0, ⟨by decide +kernel, rfl⟩, by decide +kernel⟩
theorem d_M_taught_41 : cd_D_istore b_M_taught 41 6 43 := Or.inl ⟨by decide +kernel, rfl⟩
theorem d_M_taught_43 : cd_D_iload b_M_taught 43 6 45 := Or.inl ⟨by decide +kernel, rfl⟩
theorem d_M_taught_45 : cd_D_aload b_M_taught 45 0 46 := Or.inr ⟨0, ⟨by decide +kernel, rfl⟩, rfl⟩
theorem d_M_taught_46 : cd_D 3 b_M_taught 46 (.getfield 9) 49 := ⟨by decide +kernel, rfl⟩
theorem d_M_taught_49 : cd_Dk b_M_taught 49 (nI 1) 50 := Or.inl ⟨1, ⟨by decide +kernel, rfl⟩, by decide +kernel⟩
theorem d_M_taught_50 : cd_D 1 b_M_taught 50 .iaload 51 := ⟨by decide +kernel, rfl⟩
theorem d_M_taught_51 : cd_D_icmp_ge b_M_taught 51 88 54 := ⟨37, by decide +kernel, by decide, rfl⟩
theorem d_M_taught_54 : cd_D_aload b_M_taught 54 0 55 := Or.inr ⟨0, ⟨by decide +kernel, rfl⟩, rfl⟩
theorem d_M_taught_55 : cd_D_iload b_M_taught 55 1 56 := Or.inr ⟨1, ⟨by decide +kernel, rfl⟩, rfl⟩
theorem d_M_taught_56 : cd_D_iload b_M_taught 56 6 58 := Or.inl ⟨by decide +kernel, rfl⟩
theorem d_M_taught_58 : cd_D 3 b_M_taught 58 (.invokevirtual 187) 61 := ⟨by decide +kernel, rfl⟩
theorem d_M_taught_61 : cd_D_lstore b_M_taught 61 7 63 := Or.inl ⟨by decide +kernel, rfl⟩
theorem d_M_taught_63 : cd_D_iload b_M_taught 63 3 64 := Or.inr ⟨3, ⟨by decide +kernel, rfl⟩, rfl⟩
theorem d_M_taught_64 : cd_D_if_lt b_M_taught 64 75 67 := ⟨11, by decide +kernel, by decide, rfl⟩
theorem d_M_taught_67 : cd_D_lload b_M_taught 67 7 69 := Or.inl ⟨by decide +kernel, rfl⟩
theorem d_M_taught_69 : cd_D_lload b_M_taught 69 4 71 := Or.inl ⟨by decide +kernel, rfl⟩
theorem d_M_taught_71 : cd_D 1 b_M_taught 71 .lcmp 72 := ⟨by decide +kernel, rfl⟩
theorem d_M_taught_72 : cd_D_if_ge b_M_taught 72 82 75 := ⟨10, by decide +kernel, by decide, rfl⟩
theorem d_M_taught_75 : cd_D_iload b_M_taught 75 6 77 := Or.inl ⟨by decide +kernel, rfl⟩
theorem d_M_taught_77 : cd_D_istore b_M_taught 77 3 78 := Or.inr ⟨3, ⟨by decide +kernel, rfl⟩, rfl⟩
theorem d_M_taught_78 : cd_D_lload b_M_taught 78 7 80 := Or.inl ⟨by decide +kernel, rfl⟩
theorem d_M_taught_80 : cd_D_lstore b_M_taught 80 4 82 := Or.inl ⟨by decide +kernel, rfl⟩
theorem d_M_taught_82 : cd_D 3 b_M_taught 82 (.iinc 6 (1)) 85 := ⟨by decide +kernel, rfl⟩
theorem d_M_taught_85 : cd_D_goto b_M_taught 85 43 := ⟨-42, by decide +kernel, by decide⟩
theorem d_M_taught_88 : cd_D_iload b_M_taught 88 3 89 := Or.inr ⟨3, ⟨by decide +kernel, rfl⟩, rfl⟩
theorem d_M_taught_89 : cd_D_if_ge b_M_taught 89 97 92 := ⟨8, by decide +kernel, by decide, rfl⟩
theorem d_M_taught_92 : cd_D 2 b_M_taught 92 (.ldc 176) 94 := ⟨by decide +kernel, rfl⟩
theorem d_M_taught_94 : cd_D_goto b_M_taught 94 108 := ⟨14, by decide +kernel, by decide⟩
theorem d_M_taught_97 : cd_D_iload b_M_taught 97 2 98 := Or.inr ⟨2, ⟨by decide +kernel, rfl⟩, rfl⟩
theorem d_M_taught_98 : cd_D_if_ne b_M_taught 98 105 101 := ⟨7, by decide +kernel, by decide, rfl⟩
theorem d_M_taught_101 : cd_D_iload b_M_taught 101 3 102 := Or.inr ⟨3, ⟨by decide +kernel, rfl⟩, rfl⟩
theorem d_M_taught_102 : cd_D_goto b_M_taught 102 108 := ⟨6, by decide +kernel, by decide⟩
theorem d_M_taught_105 : cd_D_lload b_M_taught 105 4 107 := Or.inl ⟨by decide +kernel, rfl⟩
theorem d_M_taught_107 : cd_D 1 b_M_taught 107 .l2i 108 := ⟨by decide +kernel, rfl⟩
theorem d_M_taught_108 : cd_D 1 b_M_taught 108 .ireturn 109 := ⟨by decide +kernel, rfl⟩
theorem c_M_taught {l : Launch} {w : cd_WT} {S : cd_Sp} {I : cd_Mem} {m : Nat} (hM : cd_MO w S m) (mm tc : Nat) (hV : cd_V (I (m + 1)) mm tc) (hVS : cd_VS (I (m + 13)) (I (m + 14))) (s q : Int32) : cd_C l w m_M_taught 8 0 0 [.ref m, .int s, .int q] S I (cd_Pi S (fun x I' => x = sp_taught (I (m + 1)) (I (m + 13)) (I (m + 14)) (I (m + 15)) mm tc s q ∧ cd_off I I' [m + 4, m + 11, m + 12])) := by
  refine cd_intro (by decide) (by simp [Value.category]) (Nat.le_of_ble_eq_true rfl) ?_
  intro X hO hE
  show cd_J w X 0 0 S I 0 [some (.ref m), some (.int s), some (.int q), none, none, none, none, none, none] []
  have hmm := hV.2.1
  have loop : ∀ (I1 : cd_Mem), I1 (m + 1) = I (m + 1) → (∀ j, j < 76 → I1 (m + 4) j = I (m + 1) j) → cd_off I I1 [m + 4, m + 11, m + 12] → ∀ (z y : Nat) (hz : z < 4) (hy : y ≤ 24) (hyz : I (m + 14) z = nI y) (hp : sp_taught (I (m + 1)) (I (m + 13)) (I (m + 14)) (I (m + 15)) mm tc s q = (if 0 ≤ (cd_bl (fun a => cd_ol (I (m + 15)) (I (m + 1)) mm tc z a (min y 12)) mm).1 then (if q = 0 then (cd_bl (fun a => cd_ol (I (m + 15)) (I (m + 1)) mm tc z a (min y 12)) mm).1 else (cd_bl (fun a => cd_ol (I (m + 15)) (I (m + 1)) mm tc z a (min y 12)) mm).2.toInt32) else cd_NONE)) (r k : Nat) (I2 : cd_Mem) (x7 : Option Value) (bb : Int32) (bl : Int64), cd_bl (fun a => cd_ol (I (m + 15)) (I (m + 1)) mm tc z a (min y 12)) k = (bb, bl) → k + r = mm → I2 (m + 1) = I (m + 1) → cd_off I1 I2 [m + 1, m + 11, m + 12] → cd_J w X 0 0 S I2 43 [some (.ref m), some (.int (nI z)), some (.int q), some (.int bb), some (.long bl), none, some (.int (nI k)), x7, none] [] := by
    intro I1 h1 hB ho1 z y hz hy hyz hp r
    induction r with
    | zero =>
      intro k I2 x7 bb bl hb hk h2 ho
      have hkz : k = mm := by omega
      rw [hkz] at hb
      rw [hkz]
      rw [hb] at hp
      refine r_iload hO d_M_taught_43 rfl ?_
      refine r_aload hO d_M_taught_45 rfl ?_
      refine r_getR hO f_M_9 rfl hM.2.1 (mo_r1 hM) d_M_taught_46 ?_
      refine r_k hO d_M_taught_49 ?_
      refine r_iald hO (mo_s1 hM) (by omega) (by decide) d_M_taught_50 ?_
      rw [h2]
      refine r_tops hV.1 ?_
      refine r_icmp_ge hO d_M_taught_51 (fun c_51 => ?_) (fun c_51 => ?_)
      · refine r_iload hO d_M_taught_88 rfl ?_
        refine r_if_ge hO d_M_taught_89 (fun c_89 => ?_) (fun c_89 => ?_)
        · refine r_iload hO d_M_taught_97 rfl ?_
          refine r_if_ne hO d_M_taught_98 (fun c_98 => ?_) (fun c_98 => ?_)
          · refine r_lload hO d_M_taught_105 rfl ?_
            refine r_l2i hO d_M_taught_107 ?_
            refine r_iret hO hE (Nat.zero_le _) (Nat.zero_le _) d_M_taught_108 ?_
            exact ⟨_, rfl, rfl, by rw [hp, if_pos c_89, if_neg c_98], cd_off_in ho1 h2 ho⟩
          · refine r_iload hO d_M_taught_101 rfl ?_
            refine r_goto hO d_M_taught_102 ?_
            refine r_iret hO hE (Nat.zero_le _) (Nat.zero_le _) d_M_taught_108 ?_
            exact ⟨_, rfl, rfl, by rw [hp, if_pos c_89, if_pos c_98], cd_off_in ho1 h2 ho⟩
        · refine r_ldc hO k_M_176 d_M_taught_92 ?_
          refine r_goto hO d_M_taught_94 ?_
          refine r_iret hO hE (Nat.zero_le _) (Nat.zero_le _) d_M_taught_108 ?_
          exact ⟨_, rfl, rfl, by rw [hp, if_neg c_89], cd_off_in ho1 h2 ho⟩
      · exact absurd (nI_le (Nat.le_refl _) (by omega)) c_51
    | succ r ih =>
      intro k I2 x7 bb bl hb hk h2 ho
      have hB2 : ∀ j, j < 76 → I2 (m + 4) j = I2 (m + 1) j := fun j hj => by rw [ho _ (by simp), h2]; exact hB j hj
      refine r_iload hO d_M_taught_43 rfl ?_
      refine r_aload hO d_M_taught_45 rfl ?_
      refine r_getR hO f_M_9 rfl hM.2.1 (mo_r1 hM) d_M_taught_46 ?_
      refine r_k hO d_M_taught_49 ?_
      refine r_iald hO (mo_s1 hM) (by omega) (by decide) d_M_taught_50 ?_
      rw [h2]
      refine r_tops hV.1 ?_
      refine r_icmp_ge hO d_M_taught_51 (fun c_51 => ?_) (fun c_51 => ?_)
      · exact absurd c_51 (nI_ge (by omega) (by omega))
      · refine r_aload hO d_M_taught_54 rfl ?_
        refine r_iload hO d_M_taught_55 rfl ?_
        refine r_iload hO d_M_taught_56 rfl ?_
        refine r_cV2l hO hE (c_M_offBy hM mm tc z k y (by rw [h2]; exact hV) hz (by omega) (by rw [ho _ (by simp), ho1 _ (by simp)]; exact hyz) hy hB2) mf_M_offBy lk_M_187 hM.2.1 rfl (by decide) rfl (Nat.le_of_ble_eq_true rfl) d_M_taught_58 (Nat.zero_le _) (Nat.zero_le _) ?_
        rintro x I3 ⟨hx, h3, ho3⟩
        rw [ho (m + 15) (by simp), ho1 (m + 15) (by simp), h2] at hx
        rw [h2] at h3
        refine r_sL7 hO d_M_taught_61 rfl ?_
        refine r_iload hO d_M_taught_63 rfl ?_
        refine r_if_lt hO d_M_taught_64 (fun c_64 => ?_) (fun c_64 => ?_)
        · refine r_iload hO d_M_taught_75 rfl ?_
          refine r_sI3 hO d_M_taught_77 rfl ?_
          refine r_lload hO d_M_taught_78 rfl ?_
          refine r_sL4 hO d_M_taught_80 rfl ?_
          refine r_incN6 hO d_M_taught_82 rfl ?_
          refine r_goto hO d_M_taught_85 ?_
          exact ih (k + 1) I3 _ _ _ (cd_bl_a hb hx c_64) (by omega) h3 (ho.tr ho3)
        · refine r_lload hO d_M_taught_67 rfl ?_
          refine r_lload hO d_M_taught_69 rfl ?_
          refine r_lcmp hO d_M_taught_71 ?_
          refine r_if_ge hO d_M_taught_72 (fun c_72 => ?_) (fun c_72 => ?_)
          · refine r_incN6 hO d_M_taught_82 rfl ?_
            refine r_goto hO d_M_taught_85 ?_
            exact ih (k + 1) I3 _ _ _ (cd_bl_b hb hx c_64 c_72) (by omega) h3 (ho.tr ho3)
          · refine r_iload hO d_M_taught_75 rfl ?_
            refine r_sI3 hO d_M_taught_77 rfl ?_
            refine r_lload hO d_M_taught_78 rfl ?_
            refine r_sL4 hO d_M_taught_80 rfl ?_
            refine r_incN6 hO d_M_taught_82 rfl ?_
            refine r_goto hO d_M_taught_85 ?_
            exact ih (k + 1) I3 _ _ _ (cd_bl_c hb hx c_64 c_72) (by omega) h3 (ho.tr ho3)
  refine r_iload hO d_M_taught_0 rfl ?_
  refine r_cS1fi hO hE (c_M_isSheet _) mf_M_isSheet lk_M_183 (by decide) rfl (Nat.le_of_ble_eq_true rfl) d_M_taught_1 (Nat.zero_le _) (Nat.zero_le _) ?_
  refine r_if_eqB hO d_M_taught_4 (fun c_4 => ?_) (fun c_4 => ?_)
  · refine r_ldc hO k_M_87 d_M_taught_16 ?_
    refine r_iret hO hE (Nat.zero_le _) (Nat.zero_le _) d_M_taught_18 ?_
    exact ⟨_, rfl, rfl, by unfold sp_taught; rw [if_neg c_4], cd_off.rf _ _⟩
  · obtain ⟨z, hz1, hz2, rfl⟩ := cd_in_ex c_4 (by decide) (by decide)
    obtain ⟨y, hy, hyz, -⟩ := hVS z (by omega)
    refine r_iload hO d_M_taught_7 rfl ?_
    refine r_k hO d_M_taught_8 ?_
    refine r_k hO d_M_taught_9 ?_
    refine r_cS3fi hO hE (c_M_in _ _ _) mf_M_in lk_M_75 (by decide) rfl (Nat.le_of_ble_eq_true rfl) d_M_taught_10 (Nat.zero_le _) (Nat.zero_le _) ?_
    refine r_if_neB hO d_M_taught_13 (fun c_13 => ?_) (fun c_13 => ?_)
    · refine r_aload hO d_M_taught_19 rfl ?_
      refine r_getR hO f_M_48 rfl hM.2.1 (mo_r13 hM) d_M_taught_20 ?_
      refine r_iload hO d_M_taught_23 rfl ?_
      refine r_iald hO (mo_s13 hM) (by omega) (by decide) d_M_taught_24 ?_
      refine r_if_ge hO d_M_taught_25 (fun c_25 => ?_) (fun c_25 => ?_)
      · refine r_aload hO d_M_taught_31 rfl ?_
        refine r_cV0fv hO hE (c_M_thinks hM) mf_M_thinks lk_M_170 hM.2.1 rfl (by decide) rfl (Nat.le_of_ble_eq_true rfl) d_M_taught_32 (Nat.zero_le _) (Nat.zero_le _) ?_
        refine r_gen (fun I1 hI1 => ?_)
        have h1 : I1 (m + 1) = I (m + 1) := by rw [hI1, cd_set_ne _ _ (by omega)]
        have hB : ∀ j, j < 76 → I1 (m + 4) j = I (m + 1) j := fun j hj => by rw [hI1, cd_set_eq]; exact if_pos hj
        have ho1 : cd_off I I1 [m + 4, m + 11, m + 12] := by rw [hI1]; exact cd_off.set _ _ (by simp)
        have hV1 : cd_V (I1 (m + 1)) mm tc := by rw [h1]; exact hV
        refine r_k hO d_M_taught_35 ?_
        refine r_sI3 hO d_M_taught_36 rfl ?_
        refine r_lconst0 hO d_M_taught_37 ?_
        refine r_sL4 hO d_M_taught_38 rfl ?_
        refine r_k hO d_M_taught_40 ?_
        refine r_sI6 hO d_M_taught_41 rfl ?_
        exact loop I1 h1 hB ho1 z y (by omega) hy hyz (by unfold sp_taught; rw [if_pos c_4, if_pos c_13, cd_tn_nI (by omega), if_pos c_25, hyz, cd_tn_nI (by omega)]) mm 0 I1 _ _ _ rfl (Nat.zero_add _) h1 (cd_off.rf _ _)
      · refine r_ldc hO k_M_186 d_M_taught_28 ?_
        refine r_iret hO hE (Nat.zero_le _) (Nat.zero_le _) d_M_taught_30 ?_
        exact ⟨_, rfl, rfl, by unfold sp_taught; rw [if_pos c_4, if_pos c_13, cd_tn_nI (by omega), if_neg c_25], cd_off.rf _ _⟩
    · refine r_ldc hO k_M_87 d_M_taught_16 ?_
      refine r_iret hO hE (Nat.zero_le _) (Nat.zero_le _) d_M_taught_18 ?_
      exact ⟨_, rfl, rfl, by unfold sp_taught; rw [if_pos c_4, if_neg c_13], cd_off.rf _ _⟩
