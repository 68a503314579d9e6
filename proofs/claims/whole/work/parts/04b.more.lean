section CDT
variable {l : Launch} {w : cd_WT} {X : cd_XT} {cc : ByteArray} {own : String} {d mc ms : Nat} {k n : Nat} {S : cd_Sp} {I : cd_Mem} {pc pc' tgt : Nat} {lv : List (Option Value)} {st : List Value} {nL : Nat} {rt : Option FieldType} {nm : String} {post : cd_Pt}
theorem r_tabE (hO : cd_O w X cc own d mc ms l) {dflt lo hi : Int} {offs : Array Int} {len : Nat} {x v : Int32} (hd : decode cc pc = .ok (.tableswitch dflt lo hi offs, len)) (hx : x = v) {off : Int} (h1 : ¬ v.toInt < lo) (h2 : ¬ hi < v.toInt) (ho : offs[(v.toInt - lo).toNat]? = some off) (ht : (pc : Int) + off = (tgt : Int)) (kk : cd_J w X k n S I tgt lv st) : cd_J w X k n S I pc lv (.int x :: st) := by
  subst hx
  exact r_tab hO hd h1 h2 ho ht kk
theorem r_tabN (hO : cd_O w X cc own d mc ms l) {dflt lo hi : Int} {offs : Array Int} {len : Nat} {x : Int32} (hd : decode cc pc = .ok (.tableswitch dflt lo hi offs, len)) (hsz : hi - lo < (offs.size : Int)) (h : ∀ j : Nat, j < offs.size → x ≠ Int32.ofInt (lo + j) ∨ offs[j]? = some dflt) (ht : (pc : Int) + dflt = (tgt : Int)) (kk : cd_J w X k n S I tgt lv st) : cd_J w X k n S I pc lv (.int x :: st) := by
  by_cases h1 : x.toInt < lo
  · exact r_tabO hO hd (Or.inl h1) ht kk
  by_cases h2 : hi < x.toInt
  · exact r_tabO hO hd (Or.inr h2) ht kk
  have hj : (x.toInt - lo).toNat < offs.size := by omega
  rcases h _ hj with q | q
  · exfalso
    apply q
    have e : lo + ((x.toInt - lo).toNat : Int) = x.toInt := by omega
    rw [e, Int32.ofInt_toInt]
  · exact r_tab hO hd h1 h2 q ht kk
theorem r_lookE (hO : cd_O w X cc own d mc ms l) {dflt : Int} {ps : Array (Int × Int)} {len : Nat} {x v : Int32} {off : Int} (hd : decode cc pc = .ok (.lookupswitch dflt ps, len)) (hp : (ps.toList.zip (ps.toList.drop 1)).all (fun (a, next) => a.1 < next.1) = true) (hx : x = v) (ho : Op.lookupswitch.offset ps.toList dflt v.toInt = off) (ht : (pc : Int) + off = (tgt : Int)) (kk : cd_J w X k n S I tgt lv st) : cd_J w X k n S I pc lv (.int x :: st) := by
  subst hx
  exact r_look hO hd hp ho ht kk
theorem r_lookN (hO : cd_O w X cc own d mc ms l) {dflt : Int} {ps : Array (Int × Int)} {len : Nat} {x : Int32} {off : Int} (hd : decode cc pc = .ok (.lookupswitch dflt ps, len)) (hp : (ps.toList.zip (ps.toList.drop 1)).all (fun (a, next) => a.1 < next.1) = true) (ho : Op.lookupswitch.offset ps.toList dflt x.toInt = off) (ht : (pc : Int) + off = (tgt : Int)) (kk : cd_J w X k n S I tgt lv st) : cd_J w X k n S I pc lv (.int x :: st) := r_look hO hd hp ho ht kk
/-- static arrays -/
theorem r_stald (hO : cd_O w X cc own d mc ms l) {i j : Nat} (hi : i < 5) (hj : j < cd_sl i) (hd : cd_D 1 cc pc .iaload pc') (kk : cd_J w X k n S I pc' lv (.int ((cd_sv i).getD j 0) :: st)) : cd_J w X k n S I pc lv (.int (nI j) :: .ref (w.2.2.2.2.1 i) :: st) := by
  intro H ls locs hR hL hq
  obtain ⟨hd, rfl⟩ := hd
  obtain ⟨cell, h1, h2, h3, h4, -, h6, h7⟩ := (hO.2.2.2.2.1.2.1.1 i hi).2
  have hlo : w.2.2.2.2.1 i < w.1 := Nat.not_le.mp h7
  have hsl : cd_sl i < 100 := by unfold cd_sl; split <;> decide
  exact W.iald (v := .int ((cd_sv i).getD j 0)) hO.1 hO.2.1 (by rw [hR.2.2 _ hlo]; exact h1) h2 h3 (fun q => q.elim (nI_pos (by omega)) (fun h => by rw [nI_clamp (by omega)] at h; omega)) (by rw [nI_clamp (by omega)]; exact h6 j hj) rfl rfl hd (kk H ls locs hR hL hq)
theorem r_gets (hO : cd_O w X cc own d mc ms l) {index : Nat} (i : Nat) (hi : i < 5) (hlk : Cond.fieldLink own index "CatDoors" (cd_sn i) "[I" ∈ cd_ws) (hd : cd_D 3 cc pc (.getstatic index) pc') (kk : cd_J w X k n S I pc' lv (.ref (w.2.2.2.2.1 i) :: st)) : cd_J w X k n S I pc lv st := by
  intro H ls locs hR hL hq
  obtain ⟨hd, rfl⟩ := hd
  obtain ⟨cf, kf, fi, f, a, cell, h1, h2, h3, h4, h5, h6, h7, h8⟩ := (hO.2.2.2.2.1.2.1.1 i hi).1
  exact W.gets hO.1 hO.2.1 hO.2.2.1 (hO.2.2.2.1 _ hlk) h1 h2 h3 h4 (by rw [hR.2.2 _ (Nat.not_le.mp h8)]; exact h5) (fun e => by rw [e] at h6; cases h6) h7 rfl hd (kk H ls locs hR hL hq)
theorem r_getsN (hO : cd_O w X cc own d mc ms l) {index : Nat} {host : String} (i : Nat) (hi : i < 5) (hlk : (own, index, "CatDoors", cd_sn i, "[I", host) ∈ cd_nf) (hd : cd_D 3 cc pc (.getstatic index) pc') (kk : cd_J w X k n S I pc' lv (.ref (w.2.2.2.2.1 i) :: st)) : cd_J w X k n S I pc lv st := by
  intro H ls locs hR hL hq
  obtain ⟨hd, rfl⟩ := hd
  obtain ⟨cf, kf, fi, f, a, cell, h1, h2, h3, h4, h5, h6, h7, h8⟩ := (hO.2.2.2.2.1.2.1.1 i hi).1
  exact va_WgetsN hO.1 hO.2.1 hO.2.2.1 ((hO.2.2.2.2.1.2.2.2.1 _ hlk).use rfl) h1 h2 h3 h4 (by rw [hR.2.2 _ (Nat.not_le.mp h8)]; exact h5) (fun e => by rw [e] at h6; cases h6) h7 rfl hd (kk H ls locs hR hL hq)

theorem r_incN0 (hO : cd_O w X cc own d mc ms l) {x : Nat} {t : List (Option Value)} (hd : cd_D 3 cc pc (.iinc 0 1) pc') (kk : cd_J w X k n S I pc' (some (.int (nI (x + 1))) :: t) st) : cd_J w X k n S I pc (some (.int (nI x)) :: t) st := r_inc0 hO hd (show nI x + Int32.ofInt 1 = nI (x + 1) from nI_1 x) kk
theorem r_incN1 (hO : cd_O w X cc own d mc ms l) {x : Nat} {a0 : Option Value} {t : List (Option Value)} (hd : cd_D 3 cc pc (.iinc 1 1) pc') (hn : cd_nl a0 = true) (kk : cd_J w X k n S I pc' (a0 :: some (.int (nI (x + 1))) :: t) st) : cd_J w X k n S I pc (a0 :: some (.int (nI x)) :: t) st := r_inc1 hO hd (show nI x + Int32.ofInt 1 = nI (x + 1) from nI_1 x) hn kk
theorem r_incN2 (hO : cd_O w X cc own d mc ms l) {x : Nat} {a0 a1 : Option Value} {t : List (Option Value)} (hd : cd_D 3 cc pc (.iinc 2 1) pc') (hn : cd_nl a1 = true) (kk : cd_J w X k n S I pc' (a0 :: a1 :: some (.int (nI (x + 1))) :: t) st) : cd_J w X k n S I pc (a0 :: a1 :: some (.int (nI x)) :: t) st := r_inc2 hO hd (show nI x + Int32.ofInt 1 = nI (x + 1) from nI_1 x) hn kk
theorem r_incN3 (hO : cd_O w X cc own d mc ms l) {x : Nat} {a0 a1 a2 : Option Value} {t : List (Option Value)} (hd : cd_D 3 cc pc (.iinc 3 1) pc') (hn : cd_nl a2 = true) (kk : cd_J w X k n S I pc' (a0 :: a1 :: a2 :: some (.int (nI (x + 1))) :: t) st) : cd_J w X k n S I pc (a0 :: a1 :: a2 :: some (.int (nI x)) :: t) st := r_inc3 hO hd (show nI x + Int32.ofInt 1 = nI (x + 1) from nI_1 x) hn kk
theorem r_incN4 (hO : cd_O w X cc own d mc ms l) {x : Nat} {a0 a1 a2 a3 : Option Value} {t : List (Option Value)} (hd : cd_D 3 cc pc (.iinc 4 1) pc') (hn : cd_nl a3 = true) (kk : cd_J w X k n S I pc' (a0 :: a1 :: a2 :: a3 :: some (.int (nI (x + 1))) :: t) st) : cd_J w X k n S I pc (a0 :: a1 :: a2 :: a3 :: some (.int (nI x)) :: t) st := r_inc4 hO hd (show nI x + Int32.ofInt 1 = nI (x + 1) from nI_1 x) hn kk
theorem r_incN5 (hO : cd_O w X cc own d mc ms l) {x : Nat} {a0 a1 a2 a3 a4 : Option Value} {t : List (Option Value)} (hd : cd_D 3 cc pc (.iinc 5 1) pc') (hn : cd_nl a4 = true) (kk : cd_J w X k n S I pc' (a0 :: a1 :: a2 :: a3 :: a4 :: some (.int (nI (x + 1))) :: t) st) : cd_J w X k n S I pc (a0 :: a1 :: a2 :: a3 :: a4 :: some (.int (nI x)) :: t) st := r_inc5 hO hd (show nI x + Int32.ofInt 1 = nI (x + 1) from nI_1 x) hn kk
theorem r_incN6 (hO : cd_O w X cc own d mc ms l) {x : Nat} {a0 a1 a2 a3 a4 a5 : Option Value} {t : List (Option Value)} (hd : cd_D 3 cc pc (.iinc 6 1) pc') (hn : cd_nl a5 = true) (kk : cd_J w X k n S I pc' (a0 :: a1 :: a2 :: a3 :: a4 :: a5 :: some (.int (nI (x + 1))) :: t) st) : cd_J w X k n S I pc (a0 :: a1 :: a2 :: a3 :: a4 :: a5 :: some (.int (nI x)) :: t) st := r_inc6 hO hd (show nI x + Int32.ofInt 1 = nI (x + 1) from nI_1 x) hn kk
theorem r_incN7 (hO : cd_O w X cc own d mc ms l) {x : Nat} {a0 a1 a2 a3 a4 a5 a6 : Option Value} {t : List (Option Value)} (hd : cd_D 3 cc pc (.iinc 7 1) pc') (hn : cd_nl a6 = true) (kk : cd_J w X k n S I pc' (a0 :: a1 :: a2 :: a3 :: a4 :: a5 :: a6 :: some (.int (nI (x + 1))) :: t) st) : cd_J w X k n S I pc (a0 :: a1 :: a2 :: a3 :: a4 :: a5 :: a6 :: some (.int (nI x)) :: t) st := r_inc7 hO hd (show nI x + Int32.ofInt 1 = nI (x + 1) from nI_1 x) hn kk
theorem r_incN8 (hO : cd_O w X cc own d mc ms l) {x : Nat} {a0 a1 a2 a3 a4 a5 a6 a7 : Option Value} {t : List (Option Value)} (hd : cd_D 3 cc pc (.iinc 8 1) pc') (hn : cd_nl a7 = true) (kk : cd_J w X k n S I pc' (a0 :: a1 :: a2 :: a3 :: a4 :: a5 :: a6 :: a7 :: some (.int (nI (x + 1))) :: t) st) : cd_J w X k n S I pc (a0 :: a1 :: a2 :: a3 :: a4 :: a5 :: a6 :: a7 :: some (.int (nI x)) :: t) st := r_inc8 hO hd (show nI x + Int32.ofInt 1 = nI (x + 1) from nI_1 x) hn kk
theorem r_incN9 (hO : cd_O w X cc own d mc ms l) {x : Nat} {a0 a1 a2 a3 a4 a5 a6 a7 a8 : Option Value} {t : List (Option Value)} (hd : cd_D 3 cc pc (.iinc 9 1) pc') (hn : cd_nl a8 = true) (kk : cd_J w X k n S I pc' (a0 :: a1 :: a2 :: a3 :: a4 :: a5 :: a6 :: a7 :: a8 :: some (.int (nI (x + 1))) :: t) st) : cd_J w X k n S I pc (a0 :: a1 :: a2 :: a3 :: a4 :: a5 :: a6 :: a7 :: a8 :: some (.int (nI x)) :: t) st := r_inc9 hO hd (show nI x + Int32.ofInt 1 = nI (x + 1) from nI_1 x) hn kk
theorem r_incN10 (hO : cd_O w X cc own d mc ms l) {x : Nat} {a0 a1 a2 a3 a4 a5 a6 a7 a8 a9 : Option Value} {t : List (Option Value)} (hd : cd_D 3 cc pc (.iinc 10 1) pc') (hn : cd_nl a9 = true) (kk : cd_J w X k n S I pc' (a0 :: a1 :: a2 :: a3 :: a4 :: a5 :: a6 :: a7 :: a8 :: a9 :: some (.int (nI (x + 1))) :: t) st) : cd_J w X k n S I pc (a0 :: a1 :: a2 :: a3 :: a4 :: a5 :: a6 :: a7 :: a8 :: a9 :: some (.int (nI x)) :: t) st := r_inc10 hO hd (show nI x + Int32.ofInt 1 = nI (x + 1) from nI_1 x) hn kk
theorem r_incN11 (hO : cd_O w X cc own d mc ms l) {x : Nat} {a0 a1 a2 a3 a4 a5 a6 a7 a8 a9 a10 : Option Value} {t : List (Option Value)} (hd : cd_D 3 cc pc (.iinc 11 1) pc') (hn : cd_nl a10 = true) (kk : cd_J w X k n S I pc' (a0 :: a1 :: a2 :: a3 :: a4 :: a5 :: a6 :: a7 :: a8 :: a9 :: a10 :: some (.int (nI (x + 1))) :: t) st) : cd_J w X k n S I pc (a0 :: a1 :: a2 :: a3 :: a4 :: a5 :: a6 :: a7 :: a8 :: a9 :: a10 :: some (.int (nI x)) :: t) st := r_inc11 hO hd (show nI x + Int32.ofInt 1 = nI (x + 1) from nI_1 x) hn kk
theorem r_incN12 (hO : cd_O w X cc own d mc ms l) {x : Nat} {a0 a1 a2 a3 a4 a5 a6 a7 a8 a9 a10 a11 : Option Value} {t : List (Option Value)} (hd : cd_D 3 cc pc (.iinc 12 1) pc') (hn : cd_nl a11 = true) (kk : cd_J w X k n S I pc' (a0 :: a1 :: a2 :: a3 :: a4 :: a5 :: a6 :: a7 :: a8 :: a9 :: a10 :: a11 :: some (.int (nI (x + 1))) :: t) st) : cd_J w X k n S I pc (a0 :: a1 :: a2 :: a3 :: a4 :: a5 :: a6 :: a7 :: a8 :: a9 :: a10 :: a11 :: some (.int (nI x)) :: t) st := r_inc12 hO hd (show nI x + Int32.ofInt 1 = nI (x + 1) from nI_1 x) hn kk
theorem r_incN13 (hO : cd_O w X cc own d mc ms l) {x : Nat} {a0 a1 a2 a3 a4 a5 a6 a7 a8 a9 a10 a11 a12 : Option Value} {t : List (Option Value)} (hd : cd_D 3 cc pc (.iinc 13 1) pc') (hn : cd_nl a12 = true) (kk : cd_J w X k n S I pc' (a0 :: a1 :: a2 :: a3 :: a4 :: a5 :: a6 :: a7 :: a8 :: a9 :: a10 :: a11 :: a12 :: some (.int (nI (x + 1))) :: t) st) : cd_J w X k n S I pc (a0 :: a1 :: a2 :: a3 :: a4 :: a5 :: a6 :: a7 :: a8 :: a9 :: a10 :: a11 :: a12 :: some (.int (nI x)) :: t) st := r_inc13 hO hd (show nI x + Int32.ofInt 1 = nI (x + 1) from nI_1 x) hn kk
theorem r_incN14 (hO : cd_O w X cc own d mc ms l) {x : Nat} {a0 a1 a2 a3 a4 a5 a6 a7 a8 a9 a10 a11 a12 a13 : Option Value} {t : List (Option Value)} (hd : cd_D 3 cc pc (.iinc 14 1) pc') (hn : cd_nl a13 = true) (kk : cd_J w X k n S I pc' (a0 :: a1 :: a2 :: a3 :: a4 :: a5 :: a6 :: a7 :: a8 :: a9 :: a10 :: a11 :: a12 :: a13 :: some (.int (nI (x + 1))) :: t) st) : cd_J w X k n S I pc (a0 :: a1 :: a2 :: a3 :: a4 :: a5 :: a6 :: a7 :: a8 :: a9 :: a10 :: a11 :: a12 :: a13 :: some (.int (nI x)) :: t) st := r_inc14 hO hd (show nI x + Int32.ofInt 1 = nI (x + 1) from nI_1 x) hn kk
def cd_st2 (lv : List (Option Value)) (i : Nat) (v : Value) (lv' : List (Option Value)) : Prop := i + 1 < lv.length ∧ lv'.length = lv.length ∧ ∀ (j : Nat) (u : Value), lv'[j]? = some (some u) → (j = i ∧ u = v) ∨ (j ≠ i ∧ j ≠ i + 1 ∧ lv[j]? = some (some u) ∧ (j + 1 = i → u.category = 1))
theorem cd_store2 {ls : Array Slot} {lv lv' : List (Option Value)} {i : Nat} {v : Value} (h : cd_L ls lv) (hs : cd_st2 lv i v lv') (hc : v.category = 2) : ∃ ls', storeLocals ls i v = some ls' ∧ cd_L ls' lv' := by
  have h0 : lv_has ls lv.length [] := ⟨h.1, h.2.1, fun q hq => by cases hq⟩
  obtain ⟨ls', e', h'⟩ := lv_store2 (v := v) h0 hs.1 hc
  refine ⟨ls', e', by rw [hs.2.1]; exact h'.1, h'.2.1, fun j u hj => ?_⟩
  rcases hs.2.2 j u hj with ⟨rfl, rfl⟩ | ⟨hne, hne2, hj, hcat⟩
  · exact h'.2.2 _ List.mem_cons_self
  · have h1 : lv_has ls lv.length [(j, u)] := ⟨h.1, h.2.1, fun q hq => by
      rw [List.mem_singleton.mp hq]
      exact h.2.2 j u hj⟩
    obtain ⟨ls2, e2, h2⟩ := lv_store2 (v := v) h1 hs.1 hc
    have : ls2 = ls' := Option.some.inj (e2.symm.trans e')
    subst this
    refine h2.2.2 (j, u) (List.mem_cons_of_mem _ (List.mem_filter.mpr ⟨List.mem_singleton.mpr rfl, ?_⟩))
    have hb : (j == i) = false := by simpa using hne
    have hb2 : (j == i + 1) = false := by simpa using hne2
    simp only [hb, hb2, Bool.not_false, Bool.true_and, Bool.not_eq_true', Bool.and_eq_false_iff]
    by_cases hji : j + 1 = i
    · exact Or.inr (by rw [hcat hji]; rfl)
    · exact Or.inl (by simpa using hji)
theorem cd_st2_set {lv : List (Option Value)} {i : Nat} {v : Value} (h : i + 1 < lv.length) (hp : ∀ j u, j + 1 = i → lv[j]? = some (some u) → u.category = 1) : cd_st2 lv i v ((lv.set i (some v)).set (i + 1) none) := by
  refine ⟨h, by simp, fun j u hj => ?_⟩
  by_cases hj2 : j = i + 1
  · subst hj2
    rw [List.getElem?_set_self (by simpa using h)] at hj
    cases hj
  · rw [List.getElem?_set_ne (fun q => hj2 q.symm)] at hj
    by_cases hji : j = i
    · subst hji
      rw [List.getElem?_set_self (by omega)] at hj
      cases hj
      exact Or.inl ⟨rfl, rfl⟩
    · rw [List.getElem?_set_ne (fun q => hji q.symm)] at hj
      exact Or.inr ⟨hji, hj2, hj, fun q => hp j u q hj⟩
theorem r_storeL (hO : cd_O w X cc own d mc ms l) {i : Nat} {x : Int64} {lv' : List (Option Value)} (hd : cd_D_lstore cc pc i pc') (hs : cd_st2 lv i (.long x) lv') (kk : cd_J w X k n S I pc' lv' st) : cd_J w X k n S I pc lv (.long x :: st) := by
  intro H ls locs hR hL hq
  obtain ⟨ls', e', hL'⟩ := cd_store2 hL hs rfl
  have kk := kk H ls' locs hR hL' hq
  intro T hT Y
  obtain ⟨t, a, b⟩ := kk T hT Y
  refine ⟨t, ?_, b⟩
  have hx := hO.1
  have hb := hO.2.1
  rcases hd with ⟨hdg, rfl⟩ | ⟨z, ⟨hdg, rfl⟩, rfl⟩
  · jvm_step Y.here [Y.here.top, ↓top_set Y.here.top, hx, hb, hdg, e']
    exact a
  · jvm_step Y.here [Y.here.top, ↓top_set Y.here.top, hx, hb, hdg, e']
    exact a
theorem r_sL3 (hO : cd_O w X cc own d mc ms l) {x : Int64} {a0 a1 a2 a3 a4 : Option Value} {t : List (Option Value)} (hd : cd_D_lstore cc pc 3 pc') (hn : cd_nl a2 = true) (kk : cd_J w X k n S I pc' (a0 :: a1 :: a2 :: some (.long x) :: none :: t) st) : cd_J w X k n S I pc (a0 :: a1 :: a2 :: a3 :: a4 :: t) (.long x :: st) :=
  r_storeL hO hd (cd_st2_set (by simp) (fun j u hj hu => by
    have hj2 : j = 2 := by omega
    subst hj2
    have : a2 = some u := Option.some.inj hu
    subst this
    exact eq_of_beq hn)) kk
theorem r_sL4 (hO : cd_O w X cc own d mc ms l) {x : Int64} {a0 a1 a2 a3 a4 a5 : Option Value} {t : List (Option Value)} (hd : cd_D_lstore cc pc 4 pc') (hn : cd_nl a3 = true) (kk : cd_J w X k n S I pc' (a0 :: a1 :: a2 :: a3 :: some (.long x) :: none :: t) st) : cd_J w X k n S I pc (a0 :: a1 :: a2 :: a3 :: a4 :: a5 :: t) (.long x :: st) :=
  r_storeL hO hd (cd_st2_set (by simp) (fun j u hj hu => by
    have hj2 : j = 3 := by omega
    subst hj2
    have : a3 = some u := Option.some.inj hu
    subst this
    exact eq_of_beq hn)) kk
theorem r_sL7 (hO : cd_O w X cc own d mc ms l) {x : Int64} {a0 a1 a2 a3 a4 a5 a6 a7 a8 : Option Value} {t : List (Option Value)} (hd : cd_D_lstore cc pc 7 pc') (hn : cd_nl a6 = true) (kk : cd_J w X k n S I pc' (a0 :: a1 :: a2 :: a3 :: a4 :: a5 :: a6 :: some (.long x) :: none :: t) st) : cd_J w X k n S I pc (a0 :: a1 :: a2 :: a3 :: a4 :: a5 :: a6 :: a7 :: a8 :: t) (.long x :: st) :=
  r_storeL hO hd (cd_st2_set (by simp) (fun j u hj hu => by
    have hj2 : j = 6 := by omega
    subst hj2
    have : a6 = some u := Option.some.inj hu
    subst this
    exact eq_of_beq hn)) kk
theorem r_jn2 {pcJ : Nat} {u v : Value} (P : Int32 → Prop) (h : ∀ x, P x → cd_J w X k n S I pcJ lv (.int x :: st)) (hb : (∀ x, P x → cd_J w X k n S I pcJ lv (.int x :: st)) → cd_J w X k n S I pc lv (u :: v :: st)) : cd_J w X k n S I pc lv (u :: v :: st) := hb h
theorem r_jn1 {pcJ : Nat} {u : Value} (P : Int32 → Prop) (h : ∀ x, P x → cd_J w X k n S I pcJ lv (.int x :: st)) (hb : (∀ x, P x → cd_J w X k n S I pcJ lv (.int x :: st)) → cd_J w X k n S I pc lv (u :: st)) : cd_J w X k n S I pc lv (u :: st) := hb h
theorem r_jn0 {pcJ : Nat} (P : Int32 → Prop) (h : ∀ x, P x → cd_J w X k n S I pcJ lv (.int x :: st)) (hb : (∀ x, P x → cd_J w X k n S I pcJ lv (.int x :: st)) → cd_J w X k n S I pc lv st) : cd_J w X k n S I pc lv st := hb h
theorem r_jnL {pcJ : Nat} {u v : Value} (P : Int64 → Prop) (h : ∀ x, P x → cd_J w X k n S I pcJ lv (.long x :: st)) (hb : (∀ x, P x → cd_J w X k n S I pcJ lv (.long x :: st)) → cd_J w X k n S I pc lv (u :: v :: st)) : cd_J w X k n S I pc lv (u :: v :: st) := hb h
theorem r_gen (h : ∀ J : cd_Mem, J = I → cd_J w X k n S J pc lv st) : cd_J w X k n S I pc lv st := h I rfl
theorem cd_ret1 {S : cd_Sp} {I : cd_Mem} {c : Prop} [Decidable c] (h : c) : cd_Fi S (cd_bI c) I (some (.int (nI 1))) S I := ⟨by rw [cd_bI, if_pos h]; rfl, rfl, rfl⟩
theorem cd_ret0 {S : cd_Sp} {I : cd_Mem} {c : Prop} [Decidable c] (h : ¬ c) : cd_Fi S (cd_bI c) I (some (.int (nI 0))) S I := ⟨by rw [cd_bI, if_neg h]; rfl, rfl, rfl⟩
end CDT
