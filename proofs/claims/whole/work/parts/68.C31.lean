section CDAB
variable {l : Launch} {w : cd_WT} {X : cd_XT} {cc : ByteArray} {own : String} {d mc ms : Nat} {k n : Nat} {S : cd_Sp} {I : cd_Mem} {pc pc' tgt : Nat} {lv : List (Option Value)} {st : List Value} {nL : Nat} {rt : Option FieldType} {nm : String} {post : cd_Pt}
theorem r_mabs (hO : cd_O w X cc own d mc ms l) (hE : cd_E w X nL rt mc ms nm post) {index : Nat} {x : Int32} (hlk : Cond.methodLink own index Lib.Math.abs.name ∈ cd_ws) (hcw : Cond.code Lib.Math.abs.name Lib.Math.abs.code 1 (some .int) ∈ cd_ws ∧ Cond.static Lib.Math.abs.name ∈ cd_ws ∧ Cond.initialized "java/lang/Math" ∈ cd_ws) (hdd : 1 ≤ d) (hlv : lv.length = nL) (hcat : (st.map fun v => v.category).sum ≤ 8) (hk : k ≤ mc) (hn : n ≤ ms) (hd : cd_D 3 cc pc (.invokestatic index) pc') (kk : cd_J w X k n S I pc' lv (.int (if 0 ≤ x then x else 0 - x) :: st)) : cd_J w X k n S I pc lv (.int x :: st) := by
  intro H ls locs hR hL hq
  obtain ⟨hd, rfl⟩ := hd
  have h1 := hO.2.2.2.2.2.1
  have h2 := hO.2.2.2.2.2.2.1
  exact va_mabs hO.1 hO.2.1 (by rw [hE.1, hL.1, hlv]) hO.2.2.1 (hO.2.2.2.1 _ hlk) (hO.2.2.2.1 _ hcw.2.1) (hO.2.2.2.1 _ hcw.2.2) (hO.2.2.2.1 _ hcw.1) (by omega) (by omega) (Nat.le_trans hk hO.2.2.2.2.2.2.2.1) (Nat.le_trans hn hO.2.2.2.2.2.2.2.2.1) hd (kk H ls locs hR hL hq)
end CDAB
/-- cells of sheets are within bounds -/
def cd_VC (ce : Nat → Int32) : Prop := ∀ j, j < 96 → ce j = cd_NONE ∨ (-99999 ≤ (ce j).toInt ∧ (ce j).toInt ≤ 99999)
def px_of (v b : Int32) : Nat := if v = cd_NONE then 0 else (b.toInt - v.toInt).natAbs
def px_oe (ce N : Nat → Int32) (mm tc s a k : Nat) : Nat := px_of (ce (24 * s + k)) (cd_hs N mm tc (24 * k) (16 + 5 * a + 2))
def px_os (ce N : Nat → Int32) (mm tc s a : Nat) : Nat → Nat
  | 0 => 0
  | k + 1 => px_os ce N mm tc s a k + px_oe ce N mm tc s a k
theorem px_of_b {v : Int32} {b : Nat} (hv : v = cd_NONE ∨ (-99999 ≤ v.toInt ∧ v.toInt ≤ 99999)) (hb : b ≤ 99) : px_of v (nI b) ≤ 100098 := by
  unfold px_of
  split
  · omega
  · rename_i q
    rw [nI_toInt (by omega)]
    rcases hv with h | h
    · exact absurd h q
    · omega
theorem px_abs {x : Int32} {z : Int} (hx : x.toInt = z) (h1 : -1000000 < z) (h2 : z < 1000000) : (if 0 ≤ x then x else 0 - x) = nI z.natAbs := by
  have e0 : (0 : Int32).toInt = 0 := rfl
  rw [← Int32.toInt_inj, nI_toInt (by omega)]
  split
  · rename_i q
    rw [Int32.le_iff_toInt_le, hx, e0] at q
    rw [hx]
    omega
  · rename_i q
    rw [Int32.le_iff_toInt_le, hx, e0] at q
    rw [Int32.toInt_sub, hx, e0, Int.bmod_eq_of_le (by omega) (by omega)]
    omega
theorem px_sbI {b : Nat} {v : Int32} (hb : b ≤ 99) (hv : -99999 ≤ v.toInt ∧ v.toInt ≤ 99999) : (nI b - v).toInt = (nI b).toInt - v.toInt := by
  rw [Int32.toInt_sub, nI_toInt (by omega)]
  exact Int.bmod_eq_of_le (by omega) (by omega)
theorem px_ot {ce N : Nat → Int32} {mm tc s a k b : Nat} (hv : ce (24 * s + k) = cd_NONE ∨ (-99999 ≤ (ce (24 * s + k)).toInt ∧ (ce (24 * s + k)).toInt ≤ 99999)) (hb : b ≤ 99) (hh : cd_hs N mm tc (24 * k) (16 + 5 * a + 2) = nI b) : cd_ot ce N mm tc s a k = lN (px_oe ce N mm tc s a k) := by
  unfold cd_ot px_oe px_of
  by_cases hN : ce (24 * s + k) = cd_NONE
  · rw [if_pos hN, if_pos hN]
    rfl
  · rw [if_neg hN, if_neg hN, hh]
    have hv2 := hv.resolve_left hN
    have hbt := nI_toInt (show b < 2 ^ 31 by omega)
    have hz : ((ce (24 * s + k)).toInt64 - (nI b).toInt64).toInt = (ce (24 * s + k)).toInt - b := by
      rw [Int64.toInt_sub, Int32.toInt_toInt64, Int32.toInt_toInt64, hbt]
      exact Int.bmod_eq_of_le (by omega) (by omega)
    generalize (ce (24 * s + k)).toInt64 - (nI b).toInt64 = x at hz ⊢
    have hc : 0 ≤ lg_cmp x 0 ↔ 0 ≤ x.toInt := by
      unfold lg_cmp
      have e0 : (0 : Int64).toInt = 0 := rfl
      (repeat' split) <;> rename_i q <;> simp only [Int64.lt_iff_toInt_lt, ← Int64.toInt_inj, e0] at * <;> first | (constructor <;> intro h <;> first | omega | decide | (exfalso; revert h; decide)) | omega
    rw [hbt, ← Int64.toInt_inj, lN_toInt (by omega)]
    split
    · rename_i q
      rw [hc] at q
      omega
    · rename_i q
      rw [hc] at q
      rw [Int64.toInt_neg, hz, Int.bmod_eq_of_le (by omega) (by omega)]
      omega
theorem px_ol {ce N : Nat → Int32} {mm tc s a : Nat} : ∀ K, (∀ k, k < K → (ce (24 * s + k) = cd_NONE ∨ (-99999 ≤ (ce (24 * s + k)).toInt ∧ (ce (24 * s + k)).toInt ≤ 99999)) ∧ ∃ b, b ≤ 99 ∧ cd_hs N mm tc (24 * k) (16 + 5 * a + 2) = nI b) → cd_ol ce N mm tc s a K = lN (px_os ce N mm tc s a K) ∧ px_os ce N mm tc s a K ≤ 100098 * K
  | 0, _ => ⟨rfl, Nat.le_refl _⟩
  | K + 1, h => by
    obtain ⟨i1, i2⟩ := px_ol K (fun k hk => h k (by omega))
    obtain ⟨hv, b, hb, hh⟩ := h K (by omega)
    have hob := px_of_b hv hb
    rw [← hh] at hob
    have hob2 : px_oe ce N mm tc s a K ≤ 100098 := hob
    refine ⟨?_, ?_⟩
    · show cd_ol ce N mm tc s a K + cd_ot ce N mm tc s a K = lN (px_os ce N mm tc s a K + px_oe ce N mm tc s a K)
      rw [i1, px_ot hv hb hh, lN_add]
    · show px_os ce N mm tc s a K + px_oe ce N mm tc s a K ≤ 100098 * (K + 1)
      omega
def px_best (F : Nat → Nat) : Nat → Nat
  | 0 => 0
  | p + 1 => if p = 0 then 0 else if F p < F (px_best F p) then p else px_best F p
theorem px_best_b (F : Nat → Nat) : ∀ p, px_best F (p + 1) ≤ p
  | 0 => Nat.le_refl _
  | p + 1 => by
    have ih := px_best_b F p
    show (if p + 1 = 0 then 0 else if F (p + 1) < F (px_best F (p + 1)) then p + 1 else px_best F (p + 1)) ≤ p + 1
    split
    · omega
    · split <;> omega
theorem px_cmp {a b : Nat} (ha : a < 2 ^ 31) (hb : b < 2 ^ 31) : 0 ≤ lg_cmp (lN a) (lN b) ↔ b ≤ a := by
  have h1 := lN_toInt ha
  have h2 := lN_toInt hb
  unfold lg_cmp
  (repeat' split) <;> rename_i q <;> simp only [Int64.lt_iff_toInt_lt, ← Int64.toInt_inj, h1, h2] at * <;> first | (constructor <;> intro h <;> first | omega | decide | (exfalso; revert h; decide)) | omega
theorem px_bl {f : Nat → Int64} {F : Nat → Nat} : ∀ p, (∀ a, a < p + 1 → f a = lN (F a) ∧ F a < 2 ^ 31) → p < 12 → cd_bl f (p + 1) = (nI (px_best F (p + 1)), lN (F (px_best F (p + 1))))
  | 0, h, _ => by
    show (if (cd_bl f 0).1 < 0 then (nI 0, f 0) else _) = _
    rw [if_pos (show (cd_bl f 0).1 < 0 from (by decide : (-1 : Int32) < 0)), (h 0 (by omega)).1]
    rfl
  | p + 1, h, hp => by
    have ih := px_bl p (fun a ha => h a (by omega)) (by omega)
    have hbb := px_best_b F p
    have h1 := h (p + 1) (by omega)
    have h2 := h (px_best F (p + 1)) (by omega)
    show (if (cd_bl f (p + 1)).1 < 0 then (nI (p + 1), f (p + 1)) else if 0 ≤ lg_cmp (f (p + 1)) (cd_bl f (p + 1)).2 then cd_bl f (p + 1) else (nI (p + 1), f (p + 1))) = _
    have eb : px_best F (p + 1 + 1) = if F (p + 1) < F (px_best F (p + 1)) then p + 1 else px_best F (p + 1) := if_neg (by omega)
    rw [ih, if_neg (nI_pos (by omega)), h1.1, eb]
    by_cases hc : F (p + 1) < F (px_best F (p + 1))
    · rw [if_pos hc, if_neg (fun q => by rw [px_cmp h1.2 h2.2] at q; omega)]
    · rw [if_neg hc, if_pos ((px_cmp h1.2 h2.2).mpr (by omega))]
/-- only the thought and the differences have changed -/
def cd_TD (w : cd_WT) (S : cd_Sp) (I : cd_Mem) (S1 : cd_Sp) (I1 : cd_Mem) : Prop := cd_ss S S1 (w.1 + 19) ∧ ∀ b, ¬ cd_wr w (w.1 + 19) b → b ≠ w.1 + 61 → I1 b = I b
theorem cd_TD.of {w : cd_WT} {S S1 : cd_Sp} {I I1 I2 : cd_Mem} (a : cd_TD w S I S1 I1) (b : cd_ofh w (w.1 + 19) I1 I2) : cd_TD w S I S1 I2 := ⟨a.1, fun q h1 h2 => (b q h1).trans (a.2 q h1 h2)⟩
theorem cd_TD.d {w : cd_WT} {S S1 : cd_Sp} {I I1 I2 : cd_Mem} (a : cd_TD w S I S1 I1) (b : ∀ q, q ≠ w.1 + 61 → I2 q = I1 q) : cd_TD w S I S1 I2 := ⟨a.1, fun q h1 h2 => (b q h2).trans (a.2 q h1 h2)⟩
theorem cd_TD.hg {w : cd_WT} {S S1 : cd_Sp} {I I1 : cd_Mem} {N : Nat → Int32} {mm tc h : Nat} (a : cd_TD w S I S1 I1) (hG : cd_HG w S I h N mm tc) (hh : h + 18 ≤ w.1 + 19 ∨ h = w.1 + 37) : cd_HG w S1 I1 h N mm tc := by
  have h1 : cd_ofh w (w.1 + 19) I (cd_set I1 (w.1 + 61) (I (w.1 + 61))) := fun b hb => by
    by_cases e : b = w.1 + 61
    · rw [e, cd_set_eq]
    · rw [cd_set_ne _ _ e]; exact a.2 b hb e
  have h2 : cd_HG w S1 (cd_set I1 (w.1 + 61) (I (w.1 + 61))) h N mm tc := hG.ss a.1 (by omega) (by omega) h1
  exact h2.off (fun b _ _ => (cd_set_ne _ _ (by omega)).symm) (fun b _ => (cd_set_ne _ _ (by omega)).symm)
theorem d_C_addDifferences_0 : cd_Dk b_C_addDifferences 0 (nI 0) 1 := Or.inl ⟨0, ⟨by decide +kernel, rfl⟩, by decide +kernel⟩
theorem d_C_addDifferences_1 : cd_D_istore b_C_addDifferences 1 2 2 := Or.inr ⟨2, ⟨by decide +kernel, rfl⟩, rfl⟩
theorem d_C_addDifferences_2 : cd_D_iload b_C_addDifferences 2 2 3 := Or.inr ⟨2, ⟨by decide +kernel, rfl⟩, rfl⟩
theorem d_C_addDifferences_3 : cd_D_aload b_C_addDifferences 3 0 4 := Or.inr ⟨0, ⟨by decide +kernel, rfl⟩, rfl⟩
theorem d_C_addDifferences_4 : cd_D 3 b_C_addDifferences 4 (.getfield 16) 7 := ⟨by decide +kernel, rfl⟩
theorem d_C_addDifferences_7 : cd_D 3 b_C_addDifferences 7 (.getfield 63) 10 := ⟨by decide +kernel, rfl⟩
theorem d_C_addDifferences_10 : cd_D_icmp_ge b_C_addDifferences 10 45 13 := ⟨35, by decide +kernel, by decide, rfl⟩
theorem d_C_addDifferences_13 : cd_D_aload b_C_addDifferences 13 0 14 := Or.inr ⟨0, ⟨by decide +kernel, rfl⟩, rfl⟩
theorem d_C_addDifferences_14 : cd_D 3 b_C_addDifferences 14 (.getfield 53) 17 := ⟨by decide +kernel, rfl⟩
theorem d_C_addDifferences_17 : cd_D_iload b_C_addDifferences 17 2 18 := Or.inr ⟨2, ⟨by decide +kernel, rfl⟩, rfl⟩
theorem d_C_addDifferences_18 : cd_D 1 b_C_addDifferences 18 .dup2 19 := ⟨by decide +kernel, rfl⟩
theorem d_C_addDifferences_19 : cd_D 1 b_C_addDifferences 19 .iaload 20 := ⟨by decide +kernel, rfl⟩
theorem d_C_addDifferences_20 : cd_D_aload b_C_addDifferences 20 0 21 := Or.inr ⟨0, ⟨by decide +kernel, rfl⟩, rfl⟩
theorem d_C_addDifferences_21 : cd_D 3 b_C_addDifferences 21 (.getfield 16) 24 := ⟨by decide +kernel, rfl⟩
theorem d_C_addDifferences_24 : cd_D 3 b_C_addDifferences 24 (.getfield 75) 27 := ⟨by decide +kernel, rfl⟩
theorem d_C_addDifferences_27 : cd_D_iload b_C_addDifferences 27 2 28 := Or.inr ⟨2, ⟨by decide +kernel, rfl⟩, rfl⟩
theorem d_C_addDifferences_28 : cd_D 1 b_C_addDifferences 28 .aaload 29 := ⟨by decide +kernel, rfl⟩
theorem d_C_addDifferences_29 : cd_D 3 b_C_addDifferences 29 (.getfield 87) 32 := ⟨by decide +kernel, rfl⟩
theorem d_C_addDifferences_32 : cd_D_iload b_C_addDifferences 32 1 33 := Or.inr ⟨1, ⟨by decide +kernel, rfl⟩, rfl⟩
theorem d_C_addDifferences_33 : cd_D 1 b_C_addDifferences 33 .isub 34 := ⟨by decide +kernel, rfl⟩
theorem d_C_addDifferences_34 : cd_D 3 b_C_addDifferences 34 (.invokestatic 188) 37 := ⟨by decide +kernel, rfl⟩
theorem d_C_addDifferences_37 : cd_D 1 b_C_addDifferences 37 .iadd 38 := ⟨by decide +kernel, rfl⟩
theorem d_C_addDifferences_38 : cd_D 1 b_C_addDifferences 38 .iastore 39 := ⟨by decide +kernel, rfl⟩
theorem d_C_addDifferences_39 : cd_D 3 b_C_addDifferences 39 (.iinc 2 (1)) 42 := ⟨by decide +kernel, rfl⟩
theorem d_C_addDifferences_42 : cd_D_goto b_C_addDifferences 42 2 := ⟨-40, by decide +kernel, by decide⟩
theorem d_C_addDifferences_45 : cd_D 1 b_C_addDifferences 45 .return_ 46 := ⟨by decide +kernel, rfl⟩
theorem c_C_addDifferences {l : Launch} {w : cd_WT} {S : cd_Sp} {I : cd_Mem} (hC : cd_CD w S) {mm tc : Nat} {N : Nat → Int32} (hG : cd_HG w S I (w.1 + 19) N mm tc) {v : Int32} (hvN : ¬ v = cd_NONE) (hv : -99999 ≤ v.toInt ∧ v.toInt ≤ 99999) : cd_C l w m_C_addDifferences 2 0 0 [.ref w.1, .int v] S I (cd_Pv S (fun I' => (∀ a, a < mm → I' (w.1 + 61) a = I (w.1 + 61) a + nI (px_of v (N (16 + 5 * a + 2)))) ∧ ∀ b, b ≠ w.1 + 61 → I' b = I b)) := by
  refine cd_intro (by decide) (by simp [Value.category]) (Nat.le_of_ble_eq_true rfl) ?_
  intro X hO hE
  show cd_J w X 0 0 S I 0 [some (.ref w.1), some (.int v), none] []
  have hH : cd_HO w S (w.1 + 1) := hC.2.2.2.2.2.2.2.2.2.1
  have hT := hG.1
  have hI : cd_HO w S (w.1 + 37) := hC.2.2.2.2.2.2.2.2.2.2.2.1
  have hmm := hG.2.2.1.2.1
  have hm1 : I (w.1 + 19) 3 = nI mm := (hG.2.2.2.2.at 1 (by omega) rfl rfl).trans hG.2.2.1.1
  have loop : ∀ (r i : Nat) (R : Nat → Int32), i + r = mm → (∀ a, a < mm → R a = if a < i then I (w.1 + 61) a + nI (px_of v (N (16 + 5 * a + 2))) else I (w.1 + 61) a) → cd_J w X 0 0 S (cd_set I (w.1 + 61) R) 2 [some (.ref w.1), some (.int v), some (.int (nI i))] [] := by
    intro r
    induction r with
    | zero =>
      intro i R hi hR
      have him : i = mm := by omega
      subst him
      refine r_iload hO d_C_addDifferences_2 rfl ?_
      refine r_aload hO d_C_addDifferences_3 rfl ?_
      refine r_getR hO f_C_16 rfl hC.1 hC.2.2.1 d_C_addDifferences_4 ?_
      try simp (disch := omega) only [cd_set_eq, cd_set_ne, cd_set_set]
      refine r_getI hO f_C_63 rfl hT.2.1 d_C_addDifferences_7 ?_
      try simp (disch := omega) only [cd_set_eq, cd_set_ne, cd_set_set]
      rw [hm1]
      refine r_icmp_ge hO d_C_addDifferences_10 (fun c_10 => ?_) (fun c_10 => ?_)
      · refine r_vret hO hE (Nat.zero_le _) (Nat.zero_le _) d_C_addDifferences_45 ?_
        exact ⟨rfl, rfl, fun a ha => by rw [cd_set_eq, hR a ha, if_pos ha], fun b hb => cd_set_ne _ _ hb⟩
      · exact absurd (nI_le (Nat.le_refl _) (by omega)) c_10
    | succ r ih =>
      intro i R hi hR
      obtain ⟨b, hb, hbe⟩ := (hG.2.2.2.1.1 i (by omega)).2.2.1
      have hask : I (w.1 + 19 + 6 + i) 2 = N (16 + 5 * i + 2) := hG.2.2.2.2.ask (by omega) 2 (by decide)
      refine r_iload hO d_C_addDifferences_2 rfl ?_
      refine r_aload hO d_C_addDifferences_3 rfl ?_
      refine r_getR hO f_C_16 rfl hC.1 hC.2.2.1 d_C_addDifferences_4 ?_
      try simp (disch := omega) only [cd_set_eq, cd_set_ne, cd_set_set]
      refine r_getI hO f_C_63 rfl hT.2.1 d_C_addDifferences_7 ?_
      try simp (disch := omega) only [cd_set_eq, cd_set_ne, cd_set_set]
      rw [hm1]
      refine r_icmp_ge hO d_C_addDifferences_10 (fun c_10 => ?_) (fun c_10 => ?_)
      · exact absurd c_10 (nI_ge (by omega) (by omega))
      · refine r_aload hO d_C_addDifferences_13 rfl ?_
        refine r_getR hO f_C_53 rfl hC.1 hC.2.2.2.2.2.2.2.2.1 d_C_addDifferences_14 ?_
        try simp (disch := omega) only [cd_set_eq, cd_set_ne, cd_set_set]
        refine r_iload hO d_C_addDifferences_17 rfl ?_
        refine r_dup2 hO d_C_addDifferences_18 rfl rfl ?_
        refine r_iald hO hC.2.2.2.2.2.2.2.2.2.2.2.2.2.2.2.2.1 (by omega) (by decide) d_C_addDifferences_19 ?_
        try simp (disch := omega) only [cd_set_eq, cd_set_ne, cd_set_set]
        refine r_aload hO d_C_addDifferences_20 rfl ?_
        refine r_getR hO f_C_16 rfl hC.1 hC.2.2.1 d_C_addDifferences_21 ?_
        try simp (disch := omega) only [cd_set_eq, cd_set_ne, cd_set_set]
        refine r_getR hO f_C_75 rfl hT.2.1 hT.2.2.2.2.1.1 d_C_addDifferences_24 ?_
        try simp (disch := omega) only [cd_set_eq, cd_set_ne, cd_set_set]
        refine r_iload hO d_C_addDifferences_27 rfl ?_
        refine r_aald (t := 4) hO hT.2.2.2.2.1.2 (by decide) (by decide) (by omega) (by decide) (hT.2.2.2.2.2.2.2 i (by omega)).1 d_C_addDifferences_28 ?_
        refine r_getI hO f_C_87 rfl (hT.2.2.2.2.2.2.2 i (by omega)).2 d_C_addDifferences_29 ?_
        try simp (disch := omega) only [cd_set_eq, cd_set_ne, cd_set_set]
        rw [hask, hbe]
        refine r_iload hO d_C_addDifferences_32 rfl ?_
        refine r_isub hO d_C_addDifferences_33 ?_
        refine r_mabs hO hE lk_C_188 cd_mabs (by omega) rfl (Nat.le_of_ble_eq_true rfl) (Nat.zero_le _) (Nat.zero_le _) d_C_addDifferences_34 ?_
        try simp (disch := omega) only [cd_set_eq, cd_set_ne, cd_set_set]
        refine r_tops (show _ = nI (px_of v (N (16 + 5 * i + 2))) from by
          unfold px_of
          rw [if_neg hvN, hbe]
          exact px_abs (px_sbI hb hv) (by rw [nI_toInt (by omega)]; omega) (by rw [nI_toInt (by omega)]; omega)) ?_
        refine r_iadd hO d_C_addDifferences_37 ?_
        refine r_iast hO hC.2.2.2.2.2.2.2.2.2.2.2.2.2.2.2.2.1 (Nat.le_add_right _ _) (by omega) (by decide) d_C_addDifferences_38 ?_
        try simp (disch := omega) only [cd_set_eq, cd_set_ne, cd_set_set]
        refine r_incN2 hO d_C_addDifferences_39 rfl ?_
        refine r_goto hO d_C_addDifferences_42 ?_
        refine ih (i + 1) _ (by omega) (fun a ha => ?_)
        by_cases e : a = i
        · subst e
          rw [px_ue, hR a ha, if_neg (Nat.lt_irrefl _), if_pos (Nat.lt_succ_self _)]
        · rw [px_un _ _ e, hR a ha]
          by_cases h : a < i
          · rw [if_pos h, if_pos (by omega)]
          · rw [if_neg h, if_neg (by omega)]
  refine r_k hO d_C_addDifferences_0 ?_
  refine r_sI2 hO d_C_addDifferences_1 rfl ?_
  refine r_mem (cd_set_self I (w.1 + 61)).symm ?_
  exact loop mm 0 _ (by omega) (fun a ha => by rw [if_neg (Nat.not_lt_zero _)])
