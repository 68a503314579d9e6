section CDR
variable {l : Launch} {w : cd_WT} {X : cd_XT} {cc : ByteArray} {own : String} {d mc ms : Nat} {k n : Nat} {S : cd_Sp} {I : cd_Mem} {pc pc' tgt : Nat} {lv : List (Option Value)} {st : List Value}
/-- an instruction of n bytes at pc; the next one is at pc' -/
def cd_D (n : Nat) (cc : ByteArray) (pc : Nat) (i : Instr) (pc' : Nat) : Prop := decode cc pc = .ok (i, n) ∧ pc + n = pc'
def cd_Dk (cc : ByteArray) (pc : Nat) (v : Int32) (pc' : Nat) : Prop := (∃ n, cd_D 1 cc pc (.iconst n) pc' ∧ Int32.ofInt n = v) ∨ (∃ n, cd_D 2 cc pc (.bipush n) pc' ∧ (Int8.ofInt n).toInt32 = v) ∨ ∃ n, cd_D 3 cc pc (.sipush n) pc' ∧ (Int16.ofInt n).toInt32 = v

def cd_D_iload (cc : ByteArray) (pc i pc' : Nat) : Prop := cd_D 2 cc pc (.iload i) pc' ∨ ∃ k : Fin 4, cd_D 1 cc pc (.iload_n k) pc' ∧ (k : Nat) = i
def cd_D_aload (cc : ByteArray) (pc i pc' : Nat) : Prop := cd_D 2 cc pc (.aload i) pc' ∨ ∃ k : Fin 4, cd_D 1 cc pc (.aload_n k) pc' ∧ (k : Nat) = i
def cd_D_istore (cc : ByteArray) (pc i pc' : Nat) : Prop := cd_D 2 cc pc (.istore i) pc' ∨ ∃ k : Fin 4, cd_D 1 cc pc (.istore_n k) pc' ∧ (k : Nat) = i
def cd_D_astore (cc : ByteArray) (pc i pc' : Nat) : Prop := cd_D 2 cc pc (.astore i) pc' ∨ ∃ k : Fin 4, cd_D 1 cc pc (.astore_n k) pc' ∧ (k : Nat) = i
def cd_D_lload (cc : ByteArray) (pc i pc' : Nat) : Prop := cd_D 2 cc pc (.lload i) pc' ∨ ∃ k : Fin 4, cd_D 1 cc pc (.lload_n k) pc' ∧ (k : Nat) = i
def cd_D_lstore (cc : ByteArray) (pc i pc' : Nat) : Prop := cd_D 2 cc pc (.lstore i) pc' ∨ ∃ k : Fin 4, cd_D 1 cc pc (.lstore_n k) pc' ∧ (k : Nat) = i
def cd_D_icmp_eq (cc : ByteArray) (pc tgt pc' : Nat) : Prop := ∃ off : Int, decode cc pc = .ok (.if_icmp .eq off, 3) ∧ (pc : Int) + off = (tgt : Int) ∧ pc + 3 = pc'
def cd_D_if_eq (cc : ByteArray) (pc tgt pc' : Nat) : Prop := ∃ off : Int, decode cc pc = .ok (.ifCond .eq off, 3) ∧ (pc : Int) + off = (tgt : Int) ∧ pc + 3 = pc'
def cd_D_icmp_ne (cc : ByteArray) (pc tgt pc' : Nat) : Prop := ∃ off : Int, decode cc pc = .ok (.if_icmp .ne off, 3) ∧ (pc : Int) + off = (tgt : Int) ∧ pc + 3 = pc'
def cd_D_if_ne (cc : ByteArray) (pc tgt pc' : Nat) : Prop := ∃ off : Int, decode cc pc = .ok (.ifCond .ne off, 3) ∧ (pc : Int) + off = (tgt : Int) ∧ pc + 3 = pc'
def cd_D_icmp_lt (cc : ByteArray) (pc tgt pc' : Nat) : Prop := ∃ off : Int, decode cc pc = .ok (.if_icmp .lt off, 3) ∧ (pc : Int) + off = (tgt : Int) ∧ pc + 3 = pc'
def cd_D_if_lt (cc : ByteArray) (pc tgt pc' : Nat) : Prop := ∃ off : Int, decode cc pc = .ok (.ifCond .lt off, 3) ∧ (pc : Int) + off = (tgt : Int) ∧ pc + 3 = pc'
def cd_D_icmp_ge (cc : ByteArray) (pc tgt pc' : Nat) : Prop := ∃ off : Int, decode cc pc = .ok (.if_icmp .ge off, 3) ∧ (pc : Int) + off = (tgt : Int) ∧ pc + 3 = pc'
def cd_D_if_ge (cc : ByteArray) (pc tgt pc' : Nat) : Prop := ∃ off : Int, decode cc pc = .ok (.ifCond .ge off, 3) ∧ (pc : Int) + off = (tgt : Int) ∧ pc + 3 = pc'
def cd_D_icmp_gt (cc : ByteArray) (pc tgt pc' : Nat) : Prop := ∃ off : Int, decode cc pc = .ok (.if_icmp .gt off, 3) ∧ (pc : Int) + off = (tgt : Int) ∧ pc + 3 = pc'
def cd_D_if_gt (cc : ByteArray) (pc tgt pc' : Nat) : Prop := ∃ off : Int, decode cc pc = .ok (.ifCond .gt off, 3) ∧ (pc : Int) + off = (tgt : Int) ∧ pc + 3 = pc'
def cd_D_icmp_le (cc : ByteArray) (pc tgt pc' : Nat) : Prop := ∃ off : Int, decode cc pc = .ok (.if_icmp .le off, 3) ∧ (pc : Int) + off = (tgt : Int) ∧ pc + 3 = pc'
def cd_D_if_le (cc : ByteArray) (pc tgt pc' : Nat) : Prop := ∃ off : Int, decode cc pc = .ok (.ifCond .le off, 3) ∧ (pc : Int) + off = (tgt : Int) ∧ pc + 3 = pc'
def cd_D_goto (cc : ByteArray) (pc tgt : Nat) : Prop := ∃ off : Int, decode cc pc = .ok (.goto off, 3) ∧ (pc : Int) + off = (tgt : Int)
def cd_D_ifnn (cc : ByteArray) (pc tgt pc' : Nat) : Prop := ∃ off : Int, decode cc pc = .ok (.ifnonnull off, 3) ∧ (pc : Int) + off = (tgt : Int) ∧ pc + 3 = pc'
theorem r_k (hO : cd_O w X cc own d mc ms l) {v : Int32} (hd : cd_Dk cc pc v pc') (kk : cd_J w X k n S I pc' lv (.int v :: st)) : cd_J w X k n S I pc lv st := by
  intro H ls locs hR hL hq
  rcases hd with ⟨z, ⟨hd, rfl⟩, hv⟩ | ⟨z, ⟨hd, rfl⟩, hv⟩ | ⟨z, ⟨hd, rfl⟩, hv⟩
  · exact lv_iconst hO.1 hO.2.1 hd hv (kk H ls locs hR hL hq)
  · exact lv_bipush hO.1 hO.2.1 hd hv (kk H ls locs hR hL hq)
  · exact lv_sipush hO.1 hO.2.1 hd hv (kk H ls locs hR hL hq)
theorem r_ldc (hO : cd_O w X cc own d mc ms l) {i : Nat} {v : Int32} (hw : Cond.constant own i v ∈ cd_ws) (hd : cd_D 2 cc pc (.ldc i) pc') (kk : cd_J w X k n S I pc' lv (.int v :: st)) : cd_J w X k n S I pc lv st := by
  intro H ls locs hR hL hq
  obtain ⟨hd, rfl⟩ := hd
  exact lv_ldc hO.1 hO.2.1 hO.2.2.1 (hO.2.2.2.1 _ hw) hd (kk H ls locs hR hL hq)
theorem r_ldcw (hO : cd_O w X cc own d mc ms l) {i : Nat} {v : Int32} (hw : Cond.constant own i v ∈ cd_ws) (hd : cd_D 3 cc pc (.ldc_w i) pc') (kk : cd_J w X k n S I pc' lv (.int v :: st)) : cd_J w X k n S I pc lv st := by
  intro H ls locs hR hL hq
  obtain ⟨hd, rfl⟩ := hd
  exact lv_ldcw hO.1 hO.2.1 hO.2.2.1 (hO.2.2.2.1 _ hw) hd (kk H ls locs hR hL hq)
theorem r_lconst0 (hO : cd_O w X cc own d mc ms l) (hd : cd_D 1 cc pc (.lconst 0) pc') (kk : cd_J w X k n S I pc' lv (.long 0 :: st)) : cd_J w X k n S I pc lv st := by
  intro H ls locs hR hL hq
  obtain ⟨hd, rfl⟩ := hd
  exact lv_lconst hO.1 hO.2.1 hd rfl (kk H ls locs hR hL hq)
theorem r_iload (hO : cd_O w X cc own d mc ms l) {i : Nat} {x : Int32} (hd : cd_D_iload cc pc i pc') (hl : lv[i]? = some (some (.int x))) (kk : cd_J w X k n S I pc' lv (.int x :: st)) : cd_J w X k n S I pc lv st := by
  intro H ls locs hR hL hq
  rcases hd with ⟨hd, rfl⟩ | ⟨z, ⟨hd, rfl⟩, hz⟩
  · exact lv_iload hO.1 hO.2.1 hd (hL.2.2 _ _ hl) (kk H ls locs hR hL hq)
  · exact lv_iload_n hO.1 hO.2.1 hd hz (hL.2.2 _ _ hl) (kk H ls locs hR hL hq)
theorem r_aload (hO : cd_O w X cc own d mc ms l) {i x : Nat} (hd : cd_D_aload cc pc i pc') (hl : lv[i]? = some (some (.ref x))) (kk : cd_J w X k n S I pc' lv (.ref x :: st)) : cd_J w X k n S I pc lv st := by
  intro H ls locs hR hL hq
  rcases hd with ⟨hd, rfl⟩ | ⟨z, ⟨hd, rfl⟩, hz⟩
  · exact lv_aload hO.1 hO.2.1 hd (hL.2.2 _ _ hl) (kk H ls locs hR hL hq)
  · exact lv_aload_n hO.1 hO.2.1 hd hz (hL.2.2 _ _ hl) (kk H ls locs hR hL hq)
theorem r_aloadN (hO : cd_O w X cc own d mc ms l) {i : Nat} (hd : cd_D_aload cc pc i pc') (hl : lv[i]? = some (some .null)) (kk : cd_J w X k n S I pc' lv (.null :: st)) : cd_J w X k n S I pc lv st := by
  intro H ls locs hR hL hq
  rcases hd with ⟨hd, rfl⟩ | ⟨z, ⟨hd, rfl⟩, hz⟩
  · exact lv_aloadN hO.1 hO.2.1 hd (hL.2.2 _ _ hl) (kk H ls locs hR hL hq)
  · exact lv_aload_nN hO.1 hO.2.1 hd hz (hL.2.2 _ _ hl) (kk H ls locs hR hL hq)
theorem r_lload (hO : cd_O w X cc own d mc ms l) {i : Nat} {x : Int64} (hd : cd_D_lload cc pc i pc') (hl : lv[i]? = some (some (.long x))) (kk : cd_J w X k n S I pc' lv (.long x :: st)) : cd_J w X k n S I pc lv st := by
  intro H ls locs hR hL hq
  rcases hd with ⟨hd, rfl⟩ | ⟨z, ⟨hd, rfl⟩, hz⟩
  · exact lv_lload hO.1 hO.2.1 hd (hL.2.2 _ _ hl) (kk H ls locs hR hL hq)
  · exact lv_lload_n hO.1 hO.2.1 hd hz (hL.2.2 _ _ hl) (kk H ls locs hR hL hq)
/-- no long stands at the place -/
def cd_nl (a : Option Value) : Bool := match a with
  | some v => v.category == 1
  | none => true
/-- what storing a value of one slot leaves of the locals -/
def cd_st1 (lv : List (Option Value)) (i : Nat) (v : Value) (lv' : List (Option Value)) : Prop := i < lv.length ∧ lv'.length = lv.length ∧ ∀ (j : Nat) (u : Value), lv'[j]? = some (some u) → (j = i ∧ u = v) ∨ (j ≠ i ∧ lv[j]? = some (some u) ∧ (j + 1 = i → u.category = 1))
theorem cd_store1 {ls : Array Slot} {lv lv' : List (Option Value)} {i : Nat} {v : Value} (h : cd_L ls lv) (hs : cd_st1 lv i v lv') (hc : v.category = 1) : ∃ ls', storeLocals ls i v = some ls' ∧ cd_L ls' lv' := by
  have h0 : lv_has ls lv.length [] := ⟨h.1, h.2.1, fun q hq => by cases hq⟩
  obtain ⟨ls', e', h'⟩ := lv_store1 (v := v) h0 hs.1 hc
  refine ⟨ls', e', by rw [hs.2.1]; exact h'.1, h'.2.1, fun j u hj => ?_⟩
  rcases hs.2.2 j u hj with ⟨rfl, rfl⟩ | ⟨hne, hj, hcat⟩
  · exact h'.2.2 _ List.mem_cons_self
  · have h1 : lv_has ls lv.length [(j, u)] := ⟨h.1, h.2.1, fun q hq => by
      rw [List.mem_singleton.mp hq]
      exact h.2.2 j u hj⟩
    obtain ⟨ls2, e2, h2⟩ := lv_store1 (v := v) h1 hs.1 hc
    have : ls2 = ls' := Option.some.inj (e2.symm.trans e')
    subst this
    refine h2.2.2 (j, u) (List.mem_cons_of_mem _ (List.mem_filter.mpr ⟨List.mem_singleton.mpr rfl, ?_⟩))
    have hb : (j == i) = false := by simpa using hne
    simp only [hb, Bool.not_false, Bool.true_and, Bool.not_eq_true', Bool.and_eq_false_iff]
    by_cases hji : j + 1 = i
    · exact Or.inr (by rw [hcat hji]; rfl)
    · exact Or.inl (by simpa using hji)
theorem cd_st1_set {lv : List (Option Value)} {i : Nat} {v : Value} (h : i < lv.length) (hp : ∀ j u, j + 1 = i → lv[j]? = some (some u) → u.category = 1) : cd_st1 lv i v (lv.set i (some v)) := by
  refine ⟨h, by simp, fun j u hj => ?_⟩
  by_cases hji : j = i
  · subst hji
    rw [List.getElem?_set_self h] at hj
    cases hj
    exact Or.inl ⟨rfl, rfl⟩
  · rw [List.getElem?_set_ne (fun q => hji q.symm)] at hj
    exact Or.inr ⟨hji, hj, fun q => hp j u q hj⟩
theorem r_storeI (hO : cd_O w X cc own d mc ms l) {i : Nat} {x : Int32} {lv' : List (Option Value)} (hd : cd_D_istore cc pc i pc') (hs : cd_st1 lv i (.int x) lv') (kk : cd_J w X k n S I pc' lv' st) : cd_J w X k n S I pc lv (.int x :: st) := by
  intro H ls locs hR hL hq
  obtain ⟨ls', e', hL'⟩ := cd_store1 hL hs rfl
  have kk := kk H ls' locs hR hL' hq
  intro T hT Y
  obtain ⟨t, a, b⟩ := kk T hT Y
  refine ⟨t, ?_, b⟩
  have hx := hO.1
  have hb := hO.2.1
  rcases hd with ⟨hdg, rfl⟩ | ⟨z, ⟨hdg, rfl⟩, rfl⟩
  · jvm_step Y.here [Y.here.top, ↓top_set Y.here.top, hx, hb, hdg, e']
    exact a
  · jvm_step Y.here [Y.here.top, ↓top_set Y.here.top, hx, hb, hdg, e']
    exact a
theorem r_storeA (hO : cd_O w X cc own d mc ms l) {i : Nat} {x : Nat} {lv' : List (Option Value)} (hd : cd_D_astore cc pc i pc') (hs : cd_st1 lv i (.ref x) lv') (kk : cd_J w X k n S I pc' lv' st) : cd_J w X k n S I pc lv (.ref x :: st) := by
  intro H ls locs hR hL hq
  obtain ⟨ls', e', hL'⟩ := cd_store1 hL hs rfl
  have kk := kk H ls' locs hR hL' hq
  intro T hT Y
  obtain ⟨t, a, b⟩ := kk T hT Y
  refine ⟨t, ?_, b⟩
  have hx := hO.1
  have hb := hO.2.1
  rcases hd with ⟨hdg, rfl⟩ | ⟨z, ⟨hdg, rfl⟩, rfl⟩
  · jvm_step Y.here [Y.here.top, ↓top_set Y.here.top, hx, hb, hdg, e', Value.isRef]
    exact a
  · jvm_step Y.here [Y.here.top, ↓top_set Y.here.top, hx, hb, hdg, e', Value.isRef]
    exact a
theorem r_storeAN (hO : cd_O w X cc own d mc ms l) {i : Nat} {lv' : List (Option Value)} (hd : cd_D_astore cc pc i pc') (hs : cd_st1 lv i .null lv') (kk : cd_J w X k n S I pc' lv' st) : cd_J w X k n S I pc lv (.null :: st) := by
  intro H ls locs hR hL hq
  obtain ⟨ls', e', hL'⟩ := cd_store1 hL hs rfl
  have kk := kk H ls' locs hR hL' hq
  intro T hT Y
  obtain ⟨t, a, b⟩ := kk T hT Y
  refine ⟨t, ?_, b⟩
  have hx := hO.1
  have hb := hO.2.1
  rcases hd with ⟨hdg, rfl⟩ | ⟨z, ⟨hdg, rfl⟩, rfl⟩
  · jvm_step Y.here [Y.here.top, ↓top_set Y.here.top, hx, hb, hdg, e', Value.isRef]
    exact a
  · jvm_step Y.here [Y.here.top, ↓top_set Y.here.top, hx, hb, hdg, e', Value.isRef]
    exact a
theorem r_inc (hO : cd_O w X cc own d mc ms l) {i : Nat} {z : Int} {x v : Int32} {lv' : List (Option Value)} (hd : cd_D 3 cc pc (.iinc i z) pc') (hl : lv[i]? = some (some (.int x))) (hv : x + Int32.ofInt z = v) (hs : cd_st1 lv i (.int v) lv') (kk : cd_J w X k n S I pc' lv' st) : cd_J w X k n S I pc lv st := by
  intro H ls locs hR hL hq
  subst hv
  have hg := hL.2.2 _ _ hl
  obtain ⟨ls', e', hL'⟩ := cd_store1 hL hs rfl
  have kk := kk H ls' locs hR hL' hq
  intro T hT Y
  obtain ⟨t, a, b⟩ := kk T hT Y
  refine ⟨t, ?_, b⟩
  have hx := hO.1
  have hb := hO.2.1
  obtain ⟨hdg, rfl⟩ := hd
  jvm_step Y.here [Y.here.top, ↓top_set Y.here.top, hx, hb, hdg, hg, e']
  exact a

theorem r_sI0 (hO : cd_O w X cc own d mc ms l) {x : Int32} {a0 : Option Value} {t : List (Option Value)} (hd : cd_D_istore cc pc 0 pc') (kk : cd_J w X k n S I pc' (some (.int x) :: t) st) : cd_J w X k n S I pc (a0 :: t) (.int x :: st) :=
  r_storeI hO hd (cd_st1_set (by simp) (fun j u hj _ => absurd hj (by omega))) kk
theorem r_sA0 (hO : cd_O w X cc own d mc ms l) {x : Nat} {a0 : Option Value} {t : List (Option Value)} (hd : cd_D_astore cc pc 0 pc') (kk : cd_J w X k n S I pc' (some (.ref x) :: t) st) : cd_J w X k n S I pc (a0 :: t) (.ref x :: st) :=
  r_storeA hO hd (cd_st1_set (by simp) (fun j u hj _ => absurd hj (by omega))) kk
theorem r_inc0 (hO : cd_O w X cc own d mc ms l) {x v : Int32} {z : Int} {t : List (Option Value)} (hd : cd_D 3 cc pc (.iinc 0 z) pc') (hv : x + Int32.ofInt z = v) (kk : cd_J w X k n S I pc' (some (.int v) :: t) st) : cd_J w X k n S I pc (some (.int x) :: t) st :=
  r_inc hO hd rfl hv (cd_st1_set (by simp) (fun j u hj _ => absurd hj (by omega))) kk
theorem r_sI1 (hO : cd_O w X cc own d mc ms l) {x : Int32} {a0 a1 : Option Value} {t : List (Option Value)} (hd : cd_D_istore cc pc 1 pc') (hn : cd_nl a0 = true) (kk : cd_J w X k n S I pc' (a0 :: some (.int x) :: t) st) : cd_J w X k n S I pc (a0 :: a1 :: t) (.int x :: st) :=
  r_storeI hO hd (cd_st1_set (by simp) (fun j u hj hu => by
    have hj2 : j = 0 := by omega
    subst hj2
    have : a0 = some u := Option.some.inj hu
    subst this
    exact eq_of_beq hn)) kk
theorem r_sA1 (hO : cd_O w X cc own d mc ms l) {x : Nat} {a0 a1 : Option Value} {t : List (Option Value)} (hd : cd_D_astore cc pc 1 pc') (hn : cd_nl a0 = true) (kk : cd_J w X k n S I pc' (a0 :: some (.ref x) :: t) st) : cd_J w X k n S I pc (a0 :: a1 :: t) (.ref x :: st) :=
  r_storeA hO hd (cd_st1_set (by simp) (fun j u hj hu => by
    have hj2 : j = 0 := by omega
    subst hj2
    have : a0 = some u := Option.some.inj hu
    subst this
    exact eq_of_beq hn)) kk
theorem r_inc1 (hO : cd_O w X cc own d mc ms l) {x v : Int32} {z : Int} {a0 : Option Value} {t : List (Option Value)} (hd : cd_D 3 cc pc (.iinc 1 z) pc') (hv : x + Int32.ofInt z = v) (hn : cd_nl a0 = true) (kk : cd_J w X k n S I pc' (a0 :: some (.int v) :: t) st) : cd_J w X k n S I pc (a0 :: some (.int x) :: t) st :=
  r_inc hO hd rfl hv (cd_st1_set (by simp) (fun j u hj hu => by
    have hj2 : j = 0 := by omega
    subst hj2
    have : a0 = some u := Option.some.inj hu
    subst this
    exact eq_of_beq hn)) kk
theorem r_sI2 (hO : cd_O w X cc own d mc ms l) {x : Int32} {a0 a1 a2 : Option Value} {t : List (Option Value)} (hd : cd_D_istore cc pc 2 pc') (hn : cd_nl a1 = true) (kk : cd_J w X k n S I pc' (a0 :: a1 :: some (.int x) :: t) st) : cd_J w X k n S I pc (a0 :: a1 :: a2 :: t) (.int x :: st) :=
  r_storeI hO hd (cd_st1_set (by simp) (fun j u hj hu => by
    have hj2 : j = 1 := by omega
    subst hj2
    have : a1 = some u := Option.some.inj hu
    subst this
    exact eq_of_beq hn)) kk
theorem r_sA2 (hO : cd_O w X cc own d mc ms l) {x : Nat} {a0 a1 a2 : Option Value} {t : List (Option Value)} (hd : cd_D_astore cc pc 2 pc') (hn : cd_nl a1 = true) (kk : cd_J w X k n S I pc' (a0 :: a1 :: some (.ref x) :: t) st) : cd_J w X k n S I pc (a0 :: a1 :: a2 :: t) (.ref x :: st) :=
  r_storeA hO hd (cd_st1_set (by simp) (fun j u hj hu => by
    have hj2 : j = 1 := by omega
    subst hj2
    have : a1 = some u := Option.some.inj hu
    subst this
    exact eq_of_beq hn)) kk
theorem r_inc2 (hO : cd_O w X cc own d mc ms l) {x v : Int32} {z : Int} {a0 a1 : Option Value} {t : List (Option Value)} (hd : cd_D 3 cc pc (.iinc 2 z) pc') (hv : x + Int32.ofInt z = v) (hn : cd_nl a1 = true) (kk : cd_J w X k n S I pc' (a0 :: a1 :: some (.int v) :: t) st) : cd_J w X k n S I pc (a0 :: a1 :: some (.int x) :: t) st :=
  r_inc hO hd rfl hv (cd_st1_set (by simp) (fun j u hj hu => by
    have hj2 : j = 1 := by omega
    subst hj2
    have : a1 = some u := Option.some.inj hu
    subst this
    exact eq_of_beq hn)) kk
theorem r_sI3 (hO : cd_O w X cc own d mc ms l) {x : Int32} {a0 a1 a2 a3 : Option Value} {t : List (Option Value)} (hd : cd_D_istore cc pc 3 pc') (hn : cd_nl a2 = true) (kk : cd_J w X k n S I pc' (a0 :: a1 :: a2 :: some (.int x) :: t) st) : cd_J w X k n S I pc (a0 :: a1 :: a2 :: a3 :: t) (.int x :: st) :=
  r_storeI hO hd (cd_st1_set (by simp) (fun j u hj hu => by
    have hj2 : j = 2 := by omega
    subst hj2
    have : a2 = some u := Option.some.inj hu
    subst this
    exact eq_of_beq hn)) kk
theorem r_sA3 (hO : cd_O w X cc own d mc ms l) {x : Nat} {a0 a1 a2 a3 : Option Value} {t : List (Option Value)} (hd : cd_D_astore cc pc 3 pc') (hn : cd_nl a2 = true) (kk : cd_J w X k n S I pc' (a0 :: a1 :: a2 :: some (.ref x) :: t) st) : cd_J w X k n S I pc (a0 :: a1 :: a2 :: a3 :: t) (.ref x :: st) :=
  r_storeA hO hd (cd_st1_set (by simp) (fun j u hj hu => by
    have hj2 : j = 2 := by omega
    subst hj2
    have : a2 = some u := Option.some.inj hu
    subst this
    exact eq_of_beq hn)) kk
theorem r_inc3 (hO : cd_O w X cc own d mc ms l) {x v : Int32} {z : Int} {a0 a1 a2 : Option Value} {t : List (Option Value)} (hd : cd_D 3 cc pc (.iinc 3 z) pc') (hv : x + Int32.ofInt z = v) (hn : cd_nl a2 = true) (kk : cd_J w X k n S I pc' (a0 :: a1 :: a2 :: some (.int v) :: t) st) : cd_J w X k n S I pc (a0 :: a1 :: a2 :: some (.int x) :: t) st :=
  r_inc hO hd rfl hv (cd_st1_set (by simp) (fun j u hj hu => by
    have hj2 : j = 2 := by omega
    subst hj2
    have : a2 = some u := Option.some.inj hu
    subst this
    exact eq_of_beq hn)) kk
theorem r_sI4 (hO : cd_O w X cc own d mc ms l) {x : Int32} {a0 a1 a2 a3 a4 : Option Value} {t : List (Option Value)} (hd : cd_D_istore cc pc 4 pc') (hn : cd_nl a3 = true) (kk : cd_J w X k n S I pc' (a0 :: a1 :: a2 :: a3 :: some (.int x) :: t) st) : cd_J w X k n S I pc (a0 :: a1 :: a2 :: a3 :: a4 :: t) (.int x :: st) :=
  r_storeI hO hd (cd_st1_set (by simp) (fun j u hj hu => by
    have hj2 : j = 3 := by omega
    subst hj2
    have : a3 = some u := Option.some.inj hu
    subst this
    exact eq_of_beq hn)) kk
theorem r_sA4 (hO : cd_O w X cc own d mc ms l) {x : Nat} {a0 a1 a2 a3 a4 : Option Value} {t : List (Option Value)} (hd : cd_D_astore cc pc 4 pc') (hn : cd_nl a3 = true) (kk : cd_J w X k n S I pc' (a0 :: a1 :: a2 :: a3 :: some (.ref x) :: t) st) : cd_J w X k n S I pc (a0 :: a1 :: a2 :: a3 :: a4 :: t) (.ref x :: st) :=
  r_storeA hO hd (cd_st1_set (by simp) (fun j u hj hu => by
    have hj2 : j = 3 := by omega
    subst hj2
    have : a3 = some u := Option.some.inj hu
    subst this
    exact eq_of_beq hn)) kk
theorem r_inc4 (hO : cd_O w X cc own d mc ms l) {x v : Int32} {z : Int} {a0 a1 a2 a3 : Option Value} {t : List (Option Value)} (hd : cd_D 3 cc pc (.iinc 4 z) pc') (hv : x + Int32.ofInt z = v) (hn : cd_nl a3 = true) (kk : cd_J w X k n S I pc' (a0 :: a1 :: a2 :: a3 :: some (.int v) :: t) st) : cd_J w X k n S I pc (a0 :: a1 :: a2 :: a3 :: some (.int x) :: t) st :=
  r_inc hO hd rfl hv (cd_st1_set (by simp) (fun j u hj hu => by
    have hj2 : j = 3 := by omega
    subst hj2
    have : a3 = some u := Option.some.inj hu
    subst this
    exact eq_of_beq hn)) kk
theorem r_sI5 (hO : cd_O w X cc own d mc ms l) {x : Int32} {a0 a1 a2 a3 a4 a5 : Option Value} {t : List (Option Value)} (hd : cd_D_istore cc pc 5 pc') (hn : cd_nl a4 = true) (kk : cd_J w X k n S I pc' (a0 :: a1 :: a2 :: a3 :: a4 :: some (.int x) :: t) st) : cd_J w X k n S I pc (a0 :: a1 :: a2 :: a3 :: a4 :: a5 :: t) (.int x :: st) :=
  r_storeI hO hd (cd_st1_set (by simp) (fun j u hj hu => by
    have hj2 : j = 4 := by omega
    subst hj2
    have : a4 = some u := Option.some.inj hu
    subst this
    exact eq_of_beq hn)) kk
theorem r_sA5 (hO : cd_O w X cc own d mc ms l) {x : Nat} {a0 a1 a2 a3 a4 a5 : Option Value} {t : List (Option Value)} (hd : cd_D_astore cc pc 5 pc') (hn : cd_nl a4 = true) (kk : cd_J w X k n S I pc' (a0 :: a1 :: a2 :: a3 :: a4 :: some (.ref x) :: t) st) : cd_J w X k n S I pc (a0 :: a1 :: a2 :: a3 :: a4 :: a5 :: t) (.ref x :: st) :=
  r_storeA hO hd (cd_st1_set (by simp) (fun j u hj hu => by
    have hj2 : j = 4 := by omega
    subst hj2
    have : a4 = some u := Option.some.inj hu
    subst this
    exact eq_of_beq hn)) kk
theorem r_inc5 (hO : cd_O w X cc own d mc ms l) {x v : Int32} {z : Int} {a0 a1 a2 a3 a4 : Option Value} {t : List (Option Value)} (hd : cd_D 3 cc pc (.iinc 5 z) pc') (hv : x + Int32.ofInt z = v) (hn : cd_nl a4 = true) (kk : cd_J w X k n S I pc' (a0 :: a1 :: a2 :: a3 :: a4 :: some (.int v) :: t) st) : cd_J w X k n S I pc (a0 :: a1 :: a2 :: a3 :: a4 :: some (.int x) :: t) st :=
  r_inc hO hd rfl hv (cd_st1_set (by simp) (fun j u hj hu => by
    have hj2 : j = 4 := by omega
    subst hj2
    have : a4 = some u := Option.some.inj hu
    subst this
    exact eq_of_beq hn)) kk
theorem r_sI6 (hO : cd_O w X cc own d mc ms l) {x : Int32} {a0 a1 a2 a3 a4 a5 a6 : Option Value} {t : List (Option Value)} (hd : cd_D_istore cc pc 6 pc') (hn : cd_nl a5 = true) (kk : cd_J w X k n S I pc' (a0 :: a1 :: a2 :: a3 :: a4 :: a5 :: some (.int x) :: t) st) : cd_J w X k n S I pc (a0 :: a1 :: a2 :: a3 :: a4 :: a5 :: a6 :: t) (.int x :: st) :=
  r_storeI hO hd (cd_st1_set (by simp) (fun j u hj hu => by
    have hj2 : j = 5 := by omega
    subst hj2
    have : a5 = some u := Option.some.inj hu
    subst this
    exact eq_of_beq hn)) kk
theorem r_sA6 (hO : cd_O w X cc own d mc ms l) {x : Nat} {a0 a1 a2 a3 a4 a5 a6 : Option Value} {t : List (Option Value)} (hd : cd_D_astore cc pc 6 pc') (hn : cd_nl a5 = true) (kk : cd_J w X k n S I pc' (a0 :: a1 :: a2 :: a3 :: a4 :: a5 :: some (.ref x) :: t) st) : cd_J w X k n S I pc (a0 :: a1 :: a2 :: a3 :: a4 :: a5 :: a6 :: t) (.ref x :: st) :=
  r_storeA hO hd (cd_st1_set (by simp) (fun j u hj hu => by
    have hj2 : j = 5 := by omega
    subst hj2
    have : a5 = some u := Option.some.inj hu
    subst this
    exact eq_of_beq hn)) kk
theorem r_inc6 (hO : cd_O w X cc own d mc ms l) {x v : Int32} {z : Int} {a0 a1 a2 a3 a4 a5 : Option Value} {t : List (Option Value)} (hd : cd_D 3 cc pc (.iinc 6 z) pc') (hv : x + Int32.ofInt z = v) (hn : cd_nl a5 = true) (kk : cd_J w X k n S I pc' (a0 :: a1 :: a2 :: a3 :: a4 :: a5 :: some (.int v) :: t) st) : cd_J w X k n S I pc (a0 :: a1 :: a2 :: a3 :: a4 :: a5 :: some (.int x) :: t) st :=
  r_inc hO hd rfl hv (cd_st1_set (by simp) (fun j u hj hu => by
    have hj2 : j = 5 := by omega
    subst hj2
    have : a5 = some u := Option.some.inj hu
    subst this
    exact eq_of_beq hn)) kk
theorem r_sI7 (hO : cd_O w X cc own d mc ms l) {x : Int32} {a0 a1 a2 a3 a4 a5 a6 a7 : Option Value} {t : List (Option Value)} (hd : cd_D_istore cc pc 7 pc') (hn : cd_nl a6 = true) (kk : cd_J w X k n S I pc' (a0 :: a1 :: a2 :: a3 :: a4 :: a5 :: a6 :: some (.int x) :: t) st) : cd_J w X k n S I pc (a0 :: a1 :: a2 :: a3 :: a4 :: a5 :: a6 :: a7 :: t) (.int x :: st) :=
  r_storeI hO hd (cd_st1_set (by simp) (fun j u hj hu => by
    have hj2 : j = 6 := by omega
    subst hj2
    have : a6 = some u := Option.some.inj hu
    subst this
    exact eq_of_beq hn)) kk
theorem r_sA7 (hO : cd_O w X cc own d mc ms l) {x : Nat} {a0 a1 a2 a3 a4 a5 a6 a7 : Option Value} {t : List (Option Value)} (hd : cd_D_astore cc pc 7 pc') (hn : cd_nl a6 = true) (kk : cd_J w X k n S I pc' (a0 :: a1 :: a2 :: a3 :: a4 :: a5 :: a6 :: some (.ref x) :: t) st) : cd_J w X k n S I pc (a0 :: a1 :: a2 :: a3 :: a4 :: a5 :: a6 :: a7 :: t) (.ref x :: st) :=
  r_storeA hO hd (cd_st1_set (by simp) (fun j u hj hu => by
    have hj2 : j = 6 := by omega
    subst hj2
    have : a6 = some u := Option.some.inj hu
    subst this
    exact eq_of_beq hn)) kk
theorem r_inc7 (hO : cd_O w X cc own d mc ms l) {x v : Int32} {z : Int} {a0 a1 a2 a3 a4 a5 a6 : Option Value} {t : List (Option Value)} (hd : cd_D 3 cc pc (.iinc 7 z) pc') (hv : x + Int32.ofInt z = v) (hn : cd_nl a6 = true) (kk : cd_J w X k n S I pc' (a0 :: a1 :: a2 :: a3 :: a4 :: a5 :: a6 :: some (.int v) :: t) st) : cd_J w X k n S I pc (a0 :: a1 :: a2 :: a3 :: a4 :: a5 :: a6 :: some (.int x) :: t) st :=
  r_inc hO hd rfl hv (cd_st1_set (by simp) (fun j u hj hu => by
    have hj2 : j = 6 := by omega
    subst hj2
    have : a6 = some u := Option.some.inj hu
    subst this
    exact eq_of_beq hn)) kk
theorem r_sI8 (hO : cd_O w X cc own d mc ms l) {x : Int32} {a0 a1 a2 a3 a4 a5 a6 a7 a8 : Option Value} {t : List (Option Value)} (hd : cd_D_istore cc pc 8 pc') (hn : cd_nl a7 = true) (kk : cd_J w X k n S I pc' (a0 :: a1 :: a2 :: a3 :: a4 :: a5 :: a6 :: a7 :: some (.int x) :: t) st) : cd_J w X k n S I pc (a0 :: a1 :: a2 :: a3 :: a4 :: a5 :: a6 :: a7 :: a8 :: t) (.int x :: st) :=
  r_storeI hO hd (cd_st1_set (by simp) (fun j u hj hu => by
    have hj2 : j = 7 := by omega
    subst hj2
    have : a7 = some u := Option.some.inj hu
    subst this
    exact eq_of_beq hn)) kk
theorem r_sA8 (hO : cd_O w X cc own d mc ms l) {x : Nat} {a0 a1 a2 a3 a4 a5 a6 a7 a8 : Option Value} {t : List (Option Value)} (hd : cd_D_astore cc pc 8 pc') (hn : cd_nl a7 = true) (kk : cd_J w X k n S I pc' (a0 :: a1 :: a2 :: a3 :: a4 :: a5 :: a6 :: a7 :: some (.ref x) :: t) st) : cd_J w X k n S I pc (a0 :: a1 :: a2 :: a3 :: a4 :: a5 :: a6 :: a7 :: a8 :: t) (.ref x :: st) :=
  r_storeA hO hd (cd_st1_set (by simp) (fun j u hj hu => by
    have hj2 : j = 7 := by omega
    subst hj2
    have : a7 = some u := Option.some.inj hu
    subst this
    exact eq_of_beq hn)) kk
theorem r_inc8 (hO : cd_O w X cc own d mc ms l) {x v : Int32} {z : Int} {a0 a1 a2 a3 a4 a5 a6 a7 : Option Value} {t : List (Option Value)} (hd : cd_D 3 cc pc (.iinc 8 z) pc') (hv : x + Int32.ofInt z = v) (hn : cd_nl a7 = true) (kk : cd_J w X k n S I pc' (a0 :: a1 :: a2 :: a3 :: a4 :: a5 :: a6 :: a7 :: some (.int v) :: t) st) : cd_J w X k n S I pc (a0 :: a1 :: a2 :: a3 :: a4 :: a5 :: a6 :: a7 :: some (.int x) :: t) st :=
  r_inc hO hd rfl hv (cd_st1_set (by simp) (fun j u hj hu => by
    have hj2 : j = 7 := by omega
    subst hj2
    have : a7 = some u := Option.some.inj hu
    subst this
    exact eq_of_beq hn)) kk
theorem r_sI9 (hO : cd_O w X cc own d mc ms l) {x : Int32} {a0 a1 a2 a3 a4 a5 a6 a7 a8 a9 : Option Value} {t : List (Option Value)} (hd : cd_D_istore cc pc 9 pc') (hn : cd_nl a8 = true) (kk : cd_J w X k n S I pc' (a0 :: a1 :: a2 :: a3 :: a4 :: a5 :: a6 :: a7 :: a8 :: some (.int x) :: t) st) : cd_J w X k n S I pc (a0 :: a1 :: a2 :: a3 :: a4 :: a5 :: a6 :: a7 :: a8 :: a9 :: t) (.int x :: st) :=
  r_storeI hO hd (cd_st1_set (by simp) (fun j u hj hu => by
    have hj2 : j = 8 := by omega
    subst hj2
    have : a8 = some u := Option.some.inj hu
    subst this
    exact eq_of_beq hn)) kk
theorem r_sA9 (hO : cd_O w X cc own d mc ms l) {x : Nat} {a0 a1 a2 a3 a4 a5 a6 a7 a8 a9 : Option Value} {t : List (Option Value)} (hd : cd_D_astore cc pc 9 pc') (hn : cd_nl a8 = true) (kk : cd_J w X k n S I pc' (a0 :: a1 :: a2 :: a3 :: a4 :: a5 :: a6 :: a7 :: a8 :: some (.ref x) :: t) st) : cd_J w X k n S I pc (a0 :: a1 :: a2 :: a3 :: a4 :: a5 :: a6 :: a7 :: a8 :: a9 :: t) (.ref x :: st) :=
  r_storeA hO hd (cd_st1_set (by simp) (fun j u hj hu => by
    have hj2 : j = 8 := by omega
    subst hj2
    have : a8 = some u := Option.some.inj hu
    subst this
    exact eq_of_beq hn)) kk
theorem r_inc9 (hO : cd_O w X cc own d mc ms l) {x v : Int32} {z : Int} {a0 a1 a2 a3 a4 a5 a6 a7 a8 : Option Value} {t : List (Option Value)} (hd : cd_D 3 cc pc (.iinc 9 z) pc') (hv : x + Int32.ofInt z = v) (hn : cd_nl a8 = true) (kk : cd_J w X k n S I pc' (a0 :: a1 :: a2 :: a3 :: a4 :: a5 :: a6 :: a7 :: a8 :: some (.int v) :: t) st) : cd_J w X k n S I pc (a0 :: a1 :: a2 :: a3 :: a4 :: a5 :: a6 :: a7 :: a8 :: some (.int x) :: t) st :=
  r_inc hO hd rfl hv (cd_st1_set (by simp) (fun j u hj hu => by
    have hj2 : j = 8 := by omega
    subst hj2
    have : a8 = some u := Option.some.inj hu
    subst this
    exact eq_of_beq hn)) kk
theorem r_sI10 (hO : cd_O w X cc own d mc ms l) {x : Int32} {a0 a1 a2 a3 a4 a5 a6 a7 a8 a9 a10 : Option Value} {t : List (Option Value)} (hd : cd_D_istore cc pc 10 pc') (hn : cd_nl a9 = true) (kk : cd_J w X k n S I pc' (a0 :: a1 :: a2 :: a3 :: a4 :: a5 :: a6 :: a7 :: a8 :: a9 :: some (.int x) :: t) st) : cd_J w X k n S I pc (a0 :: a1 :: a2 :: a3 :: a4 :: a5 :: a6 :: a7 :: a8 :: a9 :: a10 :: t) (.int x :: st) :=
  r_storeI hO hd (cd_st1_set (by simp) (fun j u hj hu => by
    have hj2 : j = 9 := by omega
    subst hj2
    have : a9 = some u := Option.some.inj hu
    subst this
    exact eq_of_beq hn)) kk
theorem r_sA10 (hO : cd_O w X cc own d mc ms l) {x : Nat} {a0 a1 a2 a3 a4 a5 a6 a7 a8 a9 a10 : Option Value} {t : List (Option Value)} (hd : cd_D_astore cc pc 10 pc') (hn : cd_nl a9 = true) (kk : cd_J w X k n S I pc' (a0 :: a1 :: a2 :: a3 :: a4 :: a5 :: a6 :: a7 :: a8 :: a9 :: some (.ref x) :: t) st) : cd_J w X k n S I pc (a0 :: a1 :: a2 :: a3 :: a4 :: a5 :: a6 :: a7 :: a8 :: a9 :: a10 :: t) (.ref x :: st) :=
  r_storeA hO hd (cd_st1_set (by simp) (fun j u hj hu => by
    have hj2 : j = 9 := by omega
    subst hj2
    have : a9 = some u := Option.some.inj hu
    subst this
    exact eq_of_beq hn)) kk
theorem r_inc10 (hO : cd_O w X cc own d mc ms l) {x v : Int32} {z : Int} {a0 a1 a2 a3 a4 a5 a6 a7 a8 a9 : Option Value} {t : List (Option Value)} (hd : cd_D 3 cc pc (.iinc 10 z) pc') (hv : x + Int32.ofInt z = v) (hn : cd_nl a9 = true) (kk : cd_J w X k n S I pc' (a0 :: a1 :: a2 :: a3 :: a4 :: a5 :: a6 :: a7 :: a8 :: a9 :: some (.int v) :: t) st) : cd_J w X k n S I pc (a0 :: a1 :: a2 :: a3 :: a4 :: a5 :: a6 :: a7 :: a8 :: a9 :: some (.int x) :: t) st :=
  r_inc hO hd rfl hv (cd_st1_set (by simp) (fun j u hj hu => by
    have hj2 : j = 9 := by omega
    subst hj2
    have : a9 = some u := Option.some.inj hu
    subst this
    exact eq_of_beq hn)) kk
theorem r_sI11 (hO : cd_O w X cc own d mc ms l) {x : Int32} {a0 a1 a2 a3 a4 a5 a6 a7 a8 a9 a10 a11 : Option Value} {t : List (Option Value)} (hd : cd_D_istore cc pc 11 pc') (hn : cd_nl a10 = true) (kk : cd_J w X k n S I pc' (a0 :: a1 :: a2 :: a3 :: a4 :: a5 :: a6 :: a7 :: a8 :: a9 :: a10 :: some (.int x) :: t) st) : cd_J w X k n S I pc (a0 :: a1 :: a2 :: a3 :: a4 :: a5 :: a6 :: a7 :: a8 :: a9 :: a10 :: a11 :: t) (.int x :: st) :=
  r_storeI hO hd (cd_st1_set (by simp) (fun j u hj hu => by
    have hj2 : j = 10 := by omega
    subst hj2
    have : a10 = some u := Option.some.inj hu
    subst this
    exact eq_of_beq hn)) kk
theorem r_sA11 (hO : cd_O w X cc own d mc ms l) {x : Nat} {a0 a1 a2 a3 a4 a5 a6 a7 a8 a9 a10 a11 : Option Value} {t : List (Option Value)} (hd : cd_D_astore cc pc 11 pc') (hn : cd_nl a10 = true) (kk : cd_J w X k n S I pc' (a0 :: a1 :: a2 :: a3 :: a4 :: a5 :: a6 :: a7 :: a8 :: a9 :: a10 :: some (.ref x) :: t) st) : cd_J w X k n S I pc (a0 :: a1 :: a2 :: a3 :: a4 :: a5 :: a6 :: a7 :: a8 :: a9 :: a10 :: a11 :: t) (.ref x :: st) :=
  r_storeA hO hd (cd_st1_set (by simp) (fun j u hj hu => by
    have hj2 : j = 10 := by omega
    subst hj2
    have : a10 = some u := Option.some.inj hu
    subst this
    exact eq_of_beq hn)) kk
theorem r_inc11 (hO : cd_O w X cc own d mc ms l) {x v : Int32} {z : Int} {a0 a1 a2 a3 a4 a5 a6 a7 a8 a9 a10 : Option Value} {t : List (Option Value)} (hd : cd_D 3 cc pc (.iinc 11 z) pc') (hv : x + Int32.ofInt z = v) (hn : cd_nl a10 = true) (kk : cd_J w X k n S I pc' (a0 :: a1 :: a2 :: a3 :: a4 :: a5 :: a6 :: a7 :: a8 :: a9 :: a10 :: some (.int v) :: t) st) : cd_J w X k n S I pc (a0 :: a1 :: a2 :: a3 :: a4 :: a5 :: a6 :: a7 :: a8 :: a9 :: a10 :: some (.int x) :: t) st :=
  r_inc hO hd rfl hv (cd_st1_set (by simp) (fun j u hj hu => by
    have hj2 : j = 10 := by omega
    subst hj2
    have : a10 = some u := Option.some.inj hu
    subst this
    exact eq_of_beq hn)) kk
theorem r_sI12 (hO : cd_O w X cc own d mc ms l) {x : Int32} {a0 a1 a2 a3 a4 a5 a6 a7 a8 a9 a10 a11 a12 : Option Value} {t : List (Option Value)} (hd : cd_D_istore cc pc 12 pc') (hn : cd_nl a11 = true) (kk : cd_J w X k n S I pc' (a0 :: a1 :: a2 :: a3 :: a4 :: a5 :: a6 :: a7 :: a8 :: a9 :: a10 :: a11 :: some (.int x) :: t) st) : cd_J w X k n S I pc (a0 :: a1 :: a2 :: a3 :: a4 :: a5 :: a6 :: a7 :: a8 :: a9 :: a10 :: a11 :: a12 :: t) (.int x :: st) :=
  r_storeI hO hd (cd_st1_set (by simp) (fun j u hj hu => by
    have hj2 : j = 11 := by omega
    subst hj2
    have : a11 = some u := Option.some.inj hu
    subst this
    exact eq_of_beq hn)) kk
theorem r_sA12 (hO : cd_O w X cc own d mc ms l) {x : Nat} {a0 a1 a2 a3 a4 a5 a6 a7 a8 a9 a10 a11 a12 : Option Value} {t : List (Option Value)} (hd : cd_D_astore cc pc 12 pc') (hn : cd_nl a11 = true) (kk : cd_J w X k n S I pc' (a0 :: a1 :: a2 :: a3 :: a4 :: a5 :: a6 :: a7 :: a8 :: a9 :: a10 :: a11 :: some (.ref x) :: t) st) : cd_J w X k n S I pc (a0 :: a1 :: a2 :: a3 :: a4 :: a5 :: a6 :: a7 :: a8 :: a9 :: a10 :: a11 :: a12 :: t) (.ref x :: st) :=
  r_storeA hO hd (cd_st1_set (by simp) (fun j u hj hu => by
    have hj2 : j = 11 := by omega
    subst hj2
    have : a11 = some u := Option.some.inj hu
    subst this
    exact eq_of_beq hn)) kk
theorem r_inc12 (hO : cd_O w X cc own d mc ms l) {x v : Int32} {z : Int} {a0 a1 a2 a3 a4 a5 a6 a7 a8 a9 a10 a11 : Option Value} {t : List (Option Value)} (hd : cd_D 3 cc pc (.iinc 12 z) pc') (hv : x + Int32.ofInt z = v) (hn : cd_nl a11 = true) (kk : cd_J w X k n S I pc' (a0 :: a1 :: a2 :: a3 :: a4 :: a5 :: a6 :: a7 :: a8 :: a9 :: a10 :: a11 :: some (.int v) :: t) st) : cd_J w X k n S I pc (a0 :: a1 :: a2 :: a3 :: a4 :: a5 :: a6 :: a7 :: a8 :: a9 :: a10 :: a11 :: some (.int x) :: t) st :=
  r_inc hO hd rfl hv (cd_st1_set (by simp) (fun j u hj hu => by
    have hj2 : j = 11 := by omega
    subst hj2
    have : a11 = some u := Option.some.inj hu
    subst this
    exact eq_of_beq hn)) kk
theorem r_sI13 (hO : cd_O w X cc own d mc ms l) {x : Int32} {a0 a1 a2 a3 a4 a5 a6 a7 a8 a9 a10 a11 a12 a13 : Option Value} {t : List (Option Value)} (hd : cd_D_istore cc pc 13 pc') (hn : cd_nl a12 = true) (kk : cd_J w X k n S I pc' (a0 :: a1 :: a2 :: a3 :: a4 :: a5 :: a6 :: a7 :: a8 :: a9 :: a10 :: a11 :: a12 :: some (.int x) :: t) st) : cd_J w X k n S I pc (a0 :: a1 :: a2 :: a3 :: a4 :: a5 :: a6 :: a7 :: a8 :: a9 :: a10 :: a11 :: a12 :: a13 :: t) (.int x :: st) :=
  r_storeI hO hd (cd_st1_set (by simp) (fun j u hj hu => by
    have hj2 : j = 12 := by omega
    subst hj2
    have : a12 = some u := Option.some.inj hu
    subst this
    exact eq_of_beq hn)) kk
theorem r_sA13 (hO : cd_O w X cc own d mc ms l) {x : Nat} {a0 a1 a2 a3 a4 a5 a6 a7 a8 a9 a10 a11 a12 a13 : Option Value} {t : List (Option Value)} (hd : cd_D_astore cc pc 13 pc') (hn : cd_nl a12 = true) (kk : cd_J w X k n S I pc' (a0 :: a1 :: a2 :: a3 :: a4 :: a5 :: a6 :: a7 :: a8 :: a9 :: a10 :: a11 :: a12 :: some (.ref x) :: t) st) : cd_J w X k n S I pc (a0 :: a1 :: a2 :: a3 :: a4 :: a5 :: a6 :: a7 :: a8 :: a9 :: a10 :: a11 :: a12 :: a13 :: t) (.ref x :: st) :=
  r_storeA hO hd (cd_st1_set (by simp) (fun j u hj hu => by
    have hj2 : j = 12 := by omega
    subst hj2
    have : a12 = some u := Option.some.inj hu
    subst this
    exact eq_of_beq hn)) kk
theorem r_inc13 (hO : cd_O w X cc own d mc ms l) {x v : Int32} {z : Int} {a0 a1 a2 a3 a4 a5 a6 a7 a8 a9 a10 a11 a12 : Option Value} {t : List (Option Value)} (hd : cd_D 3 cc pc (.iinc 13 z) pc') (hv : x + Int32.ofInt z = v) (hn : cd_nl a12 = true) (kk : cd_J w X k n S I pc' (a0 :: a1 :: a2 :: a3 :: a4 :: a5 :: a6 :: a7 :: a8 :: a9 :: a10 :: a11 :: a12 :: some (.int v) :: t) st) : cd_J w X k n S I pc (a0 :: a1 :: a2 :: a3 :: a4 :: a5 :: a6 :: a7 :: a8 :: a9 :: a10 :: a11 :: a12 :: some (.int x) :: t) st :=
  r_inc hO hd rfl hv (cd_st1_set (by simp) (fun j u hj hu => by
    have hj2 : j = 12 := by omega
    subst hj2
    have : a12 = some u := Option.some.inj hu
    subst this
    exact eq_of_beq hn)) kk
theorem r_sI14 (hO : cd_O w X cc own d mc ms l) {x : Int32} {a0 a1 a2 a3 a4 a5 a6 a7 a8 a9 a10 a11 a12 a13 a14 : Option Value} {t : List (Option Value)} (hd : cd_D_istore cc pc 14 pc') (hn : cd_nl a13 = true) (kk : cd_J w X k n S I pc' (a0 :: a1 :: a2 :: a3 :: a4 :: a5 :: a6 :: a7 :: a8 :: a9 :: a10 :: a11 :: a12 :: a13 :: some (.int x) :: t) st) : cd_J w X k n S I pc (a0 :: a1 :: a2 :: a3 :: a4 :: a5 :: a6 :: a7 :: a8 :: a9 :: a10 :: a11 :: a12 :: a13 :: a14 :: t) (.int x :: st) :=
  r_storeI hO hd (cd_st1_set (by simp) (fun j u hj hu => by
    have hj2 : j = 13 := by omega
    subst hj2
    have : a13 = some u := Option.some.inj hu
    subst this
    exact eq_of_beq hn)) kk
theorem r_sA14 (hO : cd_O w X cc own d mc ms l) {x : Nat} {a0 a1 a2 a3 a4 a5 a6 a7 a8 a9 a10 a11 a12 a13 a14 : Option Value} {t : List (Option Value)} (hd : cd_D_astore cc pc 14 pc') (hn : cd_nl a13 = true) (kk : cd_J w X k n S I pc' (a0 :: a1 :: a2 :: a3 :: a4 :: a5 :: a6 :: a7 :: a8 :: a9 :: a10 :: a11 :: a12 :: a13 :: some (.ref x) :: t) st) : cd_J w X k n S I pc (a0 :: a1 :: a2 :: a3 :: a4 :: a5 :: a6 :: a7 :: a8 :: a9 :: a10 :: a11 :: a12 :: a13 :: a14 :: t) (.ref x :: st) :=
  r_storeA hO hd (cd_st1_set (by simp) (fun j u hj hu => by
    have hj2 : j = 13 := by omega
    subst hj2
    have : a13 = some u := Option.some.inj hu
    subst this
    exact eq_of_beq hn)) kk
theorem r_inc14 (hO : cd_O w X cc own d mc ms l) {x v : Int32} {z : Int} {a0 a1 a2 a3 a4 a5 a6 a7 a8 a9 a10 a11 a12 a13 : Option Value} {t : List (Option Value)} (hd : cd_D 3 cc pc (.iinc 14 z) pc') (hv : x + Int32.ofInt z = v) (hn : cd_nl a13 = true) (kk : cd_J w X k n S I pc' (a0 :: a1 :: a2 :: a3 :: a4 :: a5 :: a6 :: a7 :: a8 :: a9 :: a10 :: a11 :: a12 :: a13 :: some (.int v) :: t) st) : cd_J w X k n S I pc (a0 :: a1 :: a2 :: a3 :: a4 :: a5 :: a6 :: a7 :: a8 :: a9 :: a10 :: a11 :: a12 :: a13 :: some (.int x) :: t) st :=
  r_inc hO hd rfl hv (cd_st1_set (by simp) (fun j u hj hu => by
    have hj2 : j = 13 := by omega
    subst hj2
    have : a13 = some u := Option.some.inj hu
    subst this
    exact eq_of_beq hn)) kk
theorem r_iadd (hO : cd_O w X cc own d mc ms l) {x y : Int32} (hd : cd_D 1 cc pc .iadd pc') (kk : cd_J w X k n S I pc' lv (.int (x + y) :: st)) : cd_J w X k n S I pc lv (.int y :: .int x :: st) := by
  intro H ls locs hR hL hq
  obtain ⟨hd, rfl⟩ := hd
  exact lv_iadd hO.1 hO.2.1 hd (kk H ls locs hR hL hq)
theorem r_isub (hO : cd_O w X cc own d mc ms l) {x y : Int32} (hd : cd_D 1 cc pc .isub pc') (kk : cd_J w X k n S I pc' lv (.int (x - y) :: st)) : cd_J w X k n S I pc lv (.int y :: .int x :: st) := by
  intro H ls locs hR hL hq
  obtain ⟨hd, rfl⟩ := hd
  exact lv_isub hO.1 hO.2.1 hd (kk H ls locs hR hL hq)
theorem r_imul (hO : cd_O w X cc own d mc ms l) {x y : Int32} (hd : cd_D 1 cc pc .imul pc') (kk : cd_J w X k n S I pc' lv (.int (x * y) :: st)) : cd_J w X k n S I pc lv (.int y :: .int x :: st) := by
  intro H ls locs hR hL hq
  obtain ⟨hd, rfl⟩ := hd
  exact lv_imul hO.1 hO.2.1 hd (kk H ls locs hR hL hq)
theorem r_iand (hO : cd_O w X cc own d mc ms l) {x y : Int32} (hd : cd_D 1 cc pc .iand pc') (kk : cd_J w X k n S I pc' lv (.int (x &&& y) :: st)) : cd_J w X k n S I pc lv (.int y :: .int x :: st) := by
  intro H ls locs hR hL hq
  obtain ⟨hd, rfl⟩ := hd
  exact lv_iand hO.1 hO.2.1 hd (kk H ls locs hR hL hq)
theorem r_ior (hO : cd_O w X cc own d mc ms l) {x y : Int32} (hd : cd_D 1 cc pc .ior pc') (kk : cd_J w X k n S I pc' lv (.int (x ||| y) :: st)) : cd_J w X k n S I pc lv (.int y :: .int x :: st) := by
  intro H ls locs hR hL hq
  obtain ⟨hd, rfl⟩ := hd
  exact lv_ior hO.1 hO.2.1 hd (kk H ls locs hR hL hq)
theorem r_ishl (hO : cd_O w X cc own d mc ms l) {x y : Int32} (hd : cd_D 1 cc pc .ishl pc') (kk : cd_J w X k n S I pc' lv (.int (x <<< (y &&& 31)) :: st)) : cd_J w X k n S I pc lv (.int y :: .int x :: st) := by
  intro H ls locs hR hL hq
  obtain ⟨hd, rfl⟩ := hd
  exact lv_ishl hO.1 hO.2.1 hd (kk H ls locs hR hL hq)
theorem r_ishr (hO : cd_O w X cc own d mc ms l) {x y : Int32} (hd : cd_D 1 cc pc .ishr pc') (kk : cd_J w X k n S I pc' lv (.int (x >>> (y &&& 31)) :: st)) : cd_J w X k n S I pc lv (.int y :: .int x :: st) := by
  intro H ls locs hR hL hq
  obtain ⟨hd, rfl⟩ := hd
  exact lv_ishr hO.1 hO.2.1 hd (kk H ls locs hR hL hq)
def cd_rem (x y : Int32) : Int32 := x - x / y * y
def cd_ush (x y : Int32) : Int32 := (x.toUInt32 >>> (y.toUInt32 &&& Int32.toUInt32 31)).toInt32
theorem r_idiv (hO : cd_O w X cc own d mc ms l) {x y : Int32} (hd : cd_D 1 cc pc .idiv pc') (hne : ¬ y = 0) (kk : cd_J w X k n S I pc' lv (.int (x / y) :: st)) : cd_J w X k n S I pc lv (.int y :: .int x :: st) := by
  intro H ls locs hR hL hq
  obtain ⟨hd, rfl⟩ := hd
  exact lv_idiv hO.1 hO.2.1 hd hne (kk H ls locs hR hL hq)
theorem r_irem (hO : cd_O w X cc own d mc ms l) {x y : Int32} (hd : cd_D 1 cc pc .irem pc') (hne : ¬ y = 0) (kk : cd_J w X k n S I pc' lv (.int (cd_rem x y) :: st)) : cd_J w X k n S I pc lv (.int y :: .int x :: st) := by
  intro H ls locs hR hL hq
  obtain ⟨hd, rfl⟩ := hd
  exact lv_irem hO.1 hO.2.1 hd hne (kk H ls locs hR hL hq)
theorem r_iushr (hO : cd_O w X cc own d mc ms l) {x y : Int32} (hd : cd_D 1 cc pc .iushr pc') (kk : cd_J w X k n S I pc' lv (.int (cd_ush x y) :: st)) : cd_J w X k n S I pc lv (.int y :: .int x :: st) := by
  intro H ls locs hR hL hq
  obtain ⟨hd, rfl⟩ := hd
  exact lv_iushr hO.1 hO.2.1 hd rfl (kk H ls locs hR hL hq)
theorem r_ineg (hO : cd_O w X cc own d mc ms l) {x : Int32} (hd : cd_D 1 cc pc .ineg pc') (kk : cd_J w X k n S I pc' lv (.int (-x) :: st)) : cd_J w X k n S I pc lv (.int x :: st) := by
  intro H ls locs hR hL hq
  obtain ⟨hd, rfl⟩ := hd
  exact lv_ineg hO.1 hO.2.1 hd (kk H ls locs hR hL hq)
theorem r_i2s (hO : cd_O w X cc own d mc ms l) {x : Int32} (hd : cd_D 1 cc pc .i2s pc') (kk : cd_J w X k n S I pc' lv (.int x.toInt16.toInt32 :: st)) : cd_J w X k n S I pc lv (.int x :: st) := by
  intro H ls locs hR hL hq
  obtain ⟨hd, rfl⟩ := hd
  exact lv_i2s hO.1 hO.2.1 hd rfl (kk H ls locs hR hL hq)
theorem r_i2b (hO : cd_O w X cc own d mc ms l) {x : Int32} (hd : cd_D 1 cc pc .i2b pc') (kk : cd_J w X k n S I pc' lv (.int x.toInt8.toInt32 :: st)) : cd_J w X k n S I pc lv (.int x :: st) := by
  intro H ls locs hR hL hq
  obtain ⟨hd, rfl⟩ := hd
  exact lv_i2b hO.1 hO.2.1 hd rfl (kk H ls locs hR hL hq)
theorem r_i2c (hO : cd_O w X cc own d mc ms l) {x : Int32} (hd : cd_D 1 cc pc .i2c pc') (kk : cd_J w X k n S I pc' lv (.int (x.toUInt32 % 65536).toInt32 :: st)) : cd_J w X k n S I pc lv (.int x :: st) := by
  intro H ls locs hR hL hq
  obtain ⟨hd, rfl⟩ := hd
  exact lv_i2c hO.1 hO.2.1 hd rfl (kk H ls locs hR hL hq)
theorem r_i2l (hO : cd_O w X cc own d mc ms l) {x : Int32} (hd : cd_D 1 cc pc .i2l pc') (kk : cd_J w X k n S I pc' lv (.long x.toInt64 :: st)) : cd_J w X k n S I pc lv (.int x :: st) := by
  intro H ls locs hR hL hq
  obtain ⟨hd, rfl⟩ := hd
  exact lv_i2l hO.1 hO.2.1 hd rfl (kk H ls locs hR hL hq)
theorem r_l2i (hO : cd_O w X cc own d mc ms l) {x : Int64} (hd : cd_D 1 cc pc .l2i pc') (kk : cd_J w X k n S I pc' lv (.int x.toInt32 :: st)) : cd_J w X k n S I pc lv (.long x :: st) := by
  intro H ls locs hR hL hq
  obtain ⟨hd, rfl⟩ := hd
  exact lv_l2i hO.1 hO.2.1 hd rfl (kk H ls locs hR hL hq)
theorem r_lneg (hO : cd_O w X cc own d mc ms l) {x : Int64} (hd : cd_D 1 cc pc .lneg pc') (kk : cd_J w X k n S I pc' lv (.long (-x) :: st)) : cd_J w X k n S I pc lv (.long x :: st) := by
  intro H ls locs hR hL hq
  obtain ⟨hd, rfl⟩ := hd
  exact lv_lneg hO.1 hO.2.1 hd (kk H ls locs hR hL hq)
theorem r_ladd (hO : cd_O w X cc own d mc ms l) {x y : Int64} (hd : cd_D 1 cc pc .ladd pc') (kk : cd_J w X k n S I pc' lv (.long (x + y) :: st)) : cd_J w X k n S I pc lv (.long y :: .long x :: st) := by
  intro H ls locs hR hL hq
  obtain ⟨hd, rfl⟩ := hd
  exact lv_ladd hO.1 hO.2.1 hd (kk H ls locs hR hL hq)
theorem r_lsub (hO : cd_O w X cc own d mc ms l) {x y : Int64} (hd : cd_D 1 cc pc .lsub pc') (kk : cd_J w X k n S I pc' lv (.long (x - y) :: st)) : cd_J w X k n S I pc lv (.long y :: .long x :: st) := by
  intro H ls locs hR hL hq
  obtain ⟨hd, rfl⟩ := hd
  exact lv_lsub hO.1 hO.2.1 hd (kk H ls locs hR hL hq)
theorem r_lcmp (hO : cd_O w X cc own d mc ms l) {x y : Int64} (hd : cd_D 1 cc pc .lcmp pc') (kk : cd_J w X k n S I pc' lv (.int (lg_cmp x y) :: st)) : cd_J w X k n S I pc lv (.long y :: .long x :: st) := by
  intro H ls locs hR hL hq
  obtain ⟨hd, rfl⟩ := hd
  exact W.lcmp hO.1 hO.2.1 hd (kk H ls locs hR hL hq)
theorem r_dup (hO : cd_O w X cc own d mc ms l) {v : Value} (hd : cd_D 1 cc pc .dup pc') (hv : v.category = 1) (kk : cd_J w X k n S I pc' lv (v :: v :: st)) : cd_J w X k n S I pc lv (v :: st) := by
  intro H ls locs hR hL hq
  obtain ⟨hd, rfl⟩ := hd
  exact lv_dup hO.1 hO.2.1 hd hv (kk H ls locs hR hL hq)
theorem r_dup2 (hO : cd_O w X cc own d mc ms l) {u v : Value} (hd : cd_D 1 cc pc .dup2 pc') (hu : u.category = 1) (hv : v.category = 1) (kk : cd_J w X k n S I pc' lv (u :: v :: u :: v :: st)) : cd_J w X k n S I pc lv (u :: v :: st) := by
  intro H ls locs hR hL hq
  obtain ⟨hd, rfl⟩ := hd
  exact lv_dup2_11 hO.1 hO.2.1 hd hu hv (kk H ls locs hR hL hq)
theorem r_pop (hO : cd_O w X cc own d mc ms l) {v : Value} (hd : cd_D 1 cc pc .pop pc') (hv : v.category = 1) (kk : cd_J w X k n S I pc' lv st) : cd_J w X k n S I pc lv (v :: st) := by
  intro H ls locs hR hL hq
  obtain ⟨hd, rfl⟩ := hd
  exact lv_pop hO.1 hO.2.1 hd hv (kk H ls locs hR hL hq)
theorem r_null (hO : cd_O w X cc own d mc ms l) (hd : cd_D 1 cc pc .aconst_null pc') (kk : cd_J w X k n S I pc' lv (.null :: st)) : cd_J w X k n S I pc lv st := by
  intro H ls locs hR hL hq
  obtain ⟨hd, rfl⟩ := hd
  exact lv_null hO.1 hO.2.1 hd (kk H ls locs hR hL hq)
theorem r_goto (hO : cd_O w X cc own d mc ms l) (hd : cd_D_goto cc pc tgt) (kk : cd_J w X k n S I tgt lv st) : cd_J w X k n S I pc lv st := by
  intro H ls locs hR hL hq
  obtain ⟨off, hd, ht⟩ := hd
  exact lv_goto hO.1 hO.2.1 hd ht (kk H ls locs hR hL hq)
def cd_bI (c : Prop) [Decidable c] : Int32 := if c then 1 else 0
theorem cd_bI0 {c : Prop} [Decidable c] : cd_bI c = 0 ↔ ¬ c := by
  unfold cd_bI
  by_cases h : c <;> simp [h]
theorem cd_bI1 {c : Prop} [Decidable c] : cd_bI c = 1 ↔ c := by
  unfold cd_bI
  by_cases h : c <;> simp [h]

theorem r_if_eq (hO : cd_O w X cc own d mc ms l) {x : Int32} (hd : cd_D_if_eq cc pc tgt pc') (kt : x = 0 → cd_J w X k n S I tgt lv st) (kf : ¬ x = 0 → cd_J w X k n S I pc' lv st) : cd_J w X k n S I pc lv (.int x :: st) := by
  intro H ls locs hR hL hq
  obtain ⟨off, hd, ht, rfl⟩ := hd
  exact lv_if_eq hO.1 hO.2.1 hd ht (fun h => kt h H ls locs hR hL hq) (fun h => kf h H ls locs hR hL hq)
theorem r_icmp_eq (hO : cd_O w X cc own d mc ms l) {x y : Int32} (hd : cd_D_icmp_eq cc pc tgt pc') (kt : x = y → cd_J w X k n S I tgt lv st) (kf : ¬ x = y → cd_J w X k n S I pc' lv st) : cd_J w X k n S I pc lv (.int y :: .int x :: st) := by
  intro H ls locs hR hL hq
  obtain ⟨off, hd, ht, rfl⟩ := hd
  exact lv_icmp_eq hO.1 hO.2.1 hd ht (fun h => kt h H ls locs hR hL hq) (fun h => kf h H ls locs hR hL hq)
theorem r_if_ne (hO : cd_O w X cc own d mc ms l) {x : Int32} (hd : cd_D_if_ne cc pc tgt pc') (kt : ¬ x = 0 → cd_J w X k n S I tgt lv st) (kf : x = 0 → cd_J w X k n S I pc' lv st) : cd_J w X k n S I pc lv (.int x :: st) := by
  intro H ls locs hR hL hq
  obtain ⟨off, hd, ht, rfl⟩ := hd
  exact lv_if_ne hO.1 hO.2.1 hd ht (fun h => kt h H ls locs hR hL hq) (fun h => kf h H ls locs hR hL hq)
theorem r_icmp_ne (hO : cd_O w X cc own d mc ms l) {x y : Int32} (hd : cd_D_icmp_ne cc pc tgt pc') (kt : ¬ x = y → cd_J w X k n S I tgt lv st) (kf : x = y → cd_J w X k n S I pc' lv st) : cd_J w X k n S I pc lv (.int y :: .int x :: st) := by
  intro H ls locs hR hL hq
  obtain ⟨off, hd, ht, rfl⟩ := hd
  exact lv_icmp_ne hO.1 hO.2.1 hd ht (fun h => kt h H ls locs hR hL hq) (fun h => kf h H ls locs hR hL hq)
theorem r_if_lt (hO : cd_O w X cc own d mc ms l) {x : Int32} (hd : cd_D_if_lt cc pc tgt pc') (kt : x < 0 → cd_J w X k n S I tgt lv st) (kf : ¬ x < 0 → cd_J w X k n S I pc' lv st) : cd_J w X k n S I pc lv (.int x :: st) := by
  intro H ls locs hR hL hq
  obtain ⟨off, hd, ht, rfl⟩ := hd
  exact lv_if_lt hO.1 hO.2.1 hd ht (fun h => kt h H ls locs hR hL hq) (fun h => kf h H ls locs hR hL hq)
theorem r_icmp_lt (hO : cd_O w X cc own d mc ms l) {x y : Int32} (hd : cd_D_icmp_lt cc pc tgt pc') (kt : x < y → cd_J w X k n S I tgt lv st) (kf : ¬ x < y → cd_J w X k n S I pc' lv st) : cd_J w X k n S I pc lv (.int y :: .int x :: st) := by
  intro H ls locs hR hL hq
  obtain ⟨off, hd, ht, rfl⟩ := hd
  exact lv_icmp_lt hO.1 hO.2.1 hd ht (fun h => kt h H ls locs hR hL hq) (fun h => kf h H ls locs hR hL hq)
theorem r_if_ge (hO : cd_O w X cc own d mc ms l) {x : Int32} (hd : cd_D_if_ge cc pc tgt pc') (kt : 0 ≤ x → cd_J w X k n S I tgt lv st) (kf : ¬ 0 ≤ x → cd_J w X k n S I pc' lv st) : cd_J w X k n S I pc lv (.int x :: st) := by
  intro H ls locs hR hL hq
  obtain ⟨off, hd, ht, rfl⟩ := hd
  exact lv_if_ge hO.1 hO.2.1 hd ht (fun h => kt h H ls locs hR hL hq) (fun h => kf h H ls locs hR hL hq)
theorem r_icmp_ge (hO : cd_O w X cc own d mc ms l) {x y : Int32} (hd : cd_D_icmp_ge cc pc tgt pc') (kt : y ≤ x → cd_J w X k n S I tgt lv st) (kf : ¬ y ≤ x → cd_J w X k n S I pc' lv st) : cd_J w X k n S I pc lv (.int y :: .int x :: st) := by
  intro H ls locs hR hL hq
  obtain ⟨off, hd, ht, rfl⟩ := hd
  exact lv_icmp_ge hO.1 hO.2.1 hd ht (fun h => kt h H ls locs hR hL hq) (fun h => kf h H ls locs hR hL hq)
theorem r_if_gt (hO : cd_O w X cc own d mc ms l) {x : Int32} (hd : cd_D_if_gt cc pc tgt pc') (kt : 0 < x → cd_J w X k n S I tgt lv st) (kf : ¬ 0 < x → cd_J w X k n S I pc' lv st) : cd_J w X k n S I pc lv (.int x :: st) := by
  intro H ls locs hR hL hq
  obtain ⟨off, hd, ht, rfl⟩ := hd
  exact lv_if_gt hO.1 hO.2.1 hd ht (fun h => kt h H ls locs hR hL hq) (fun h => kf h H ls locs hR hL hq)
theorem r_icmp_gt (hO : cd_O w X cc own d mc ms l) {x y : Int32} (hd : cd_D_icmp_gt cc pc tgt pc') (kt : y < x → cd_J w X k n S I tgt lv st) (kf : ¬ y < x → cd_J w X k n S I pc' lv st) : cd_J w X k n S I pc lv (.int y :: .int x :: st) := by
  intro H ls locs hR hL hq
  obtain ⟨off, hd, ht, rfl⟩ := hd
  exact lv_icmp_gt hO.1 hO.2.1 hd ht (fun h => kt h H ls locs hR hL hq) (fun h => kf h H ls locs hR hL hq)
theorem r_if_le (hO : cd_O w X cc own d mc ms l) {x : Int32} (hd : cd_D_if_le cc pc tgt pc') (kt : x ≤ 0 → cd_J w X k n S I tgt lv st) (kf : ¬ x ≤ 0 → cd_J w X k n S I pc' lv st) : cd_J w X k n S I pc lv (.int x :: st) := by
  intro H ls locs hR hL hq
  obtain ⟨off, hd, ht, rfl⟩ := hd
  exact lv_if_le hO.1 hO.2.1 hd ht (fun h => kt h H ls locs hR hL hq) (fun h => kf h H ls locs hR hL hq)
theorem r_icmp_le (hO : cd_O w X cc own d mc ms l) {x y : Int32} (hd : cd_D_icmp_le cc pc tgt pc') (kt : x ≤ y → cd_J w X k n S I tgt lv st) (kf : ¬ x ≤ y → cd_J w X k n S I pc' lv st) : cd_J w X k n S I pc lv (.int y :: .int x :: st) := by
  intro H ls locs hR hL hq
  obtain ⟨off, hd, ht, rfl⟩ := hd
  exact lv_icmp_le hO.1 hO.2.1 hd ht (fun h => kt h H ls locs hR hL hq) (fun h => kf h H ls locs hR hL hq)
theorem r_if_eqB (hO : cd_O w X cc own d mc ms l) {c : Prop} [Decidable c] (hd : cd_D_if_eq cc pc tgt pc') (kt : ¬ c → cd_J w X k n S I tgt lv st) (kf : c → cd_J w X k n S I pc' lv st) : cd_J w X k n S I pc lv (.int (cd_bI c) :: st) :=
  r_if_eq hO hd (fun h => kt (cd_bI0.mp h)) (fun h => kf (Decidable.byContradiction fun q => h (cd_bI0.mpr q)))
theorem r_if_neB (hO : cd_O w X cc own d mc ms l) {c : Prop} [Decidable c] (hd : cd_D_if_ne cc pc tgt pc') (kt : c → cd_J w X k n S I tgt lv st) (kf : ¬ c → cd_J w X k n S I pc' lv st) : cd_J w X k n S I pc lv (.int (cd_bI c) :: st) :=
  r_if_ne hO hd (fun h => kt (Decidable.byContradiction fun q => h (cd_bI0.mpr q))) (fun h => kf (cd_bI0.mp h))
theorem r_ifnn (hO : cd_O w X cc own d mc ms l) {x : Nat} (hd : cd_D_ifnn cc pc tgt pc') (kk : cd_J w X k n S I tgt lv st) : cd_J w X k n S I pc lv (.ref x :: st) := by
  intro H ls locs hR hL hq
  obtain ⟨off, hd, ht, rfl⟩ := hd
  exact lv_ifnonnull hO.1 hO.2.1 hd ht (kk H ls locs hR hL hq)
theorem r_ifnnN (hO : cd_O w X cc own d mc ms l) (hd : cd_D_ifnn cc pc tgt pc') (kk : cd_J w X k n S I pc' lv st) : cd_J w X k n S I pc lv (.null :: st) := by
  intro H ls locs hR hL hq
  obtain ⟨off, hd, ht, rfl⟩ := hd
  exact lv_ifnonnullN hO.1 hO.2.1 hd (kk H ls locs hR hL hq)
/-- another picture of the same locals -/
theorem r_sub {lv' : List (Option Value)} (h : lv'.length = lv.length ∧ ∀ (i : Nat) (v : Value), lv'[i]? = some (some v) → lv[i]? = some (some v)) (kk : cd_J w X k n S I pc lv' st) : cd_J w X k n S I pc lv st :=
  fun H ls locs hR hL hq => kk H ls locs hR ⟨hL.1.trans h.1.symm, hL.2.1, fun i v hv => hL.2.2 i v (h.2 i v hv)⟩ hq
theorem r_nI (a b : Nat) : nI a + nI b = nI (a + b) := nI_add a b
/-- numbers -/
theorem r_iaddN (hO : cd_O w X cc own d mc ms l) {a b : Nat} (hd : cd_D 1 cc pc .iadd pc') (kk : cd_J w X k n S I pc' lv (.int (nI (a + b)) :: st)) : cd_J w X k n S I pc lv (.int (nI b) :: .int (nI a) :: st) := r_iadd hO hd (by rw [nI_add]; exact kk)
theorem r_imulN (hO : cd_O w X cc own d mc ms l) {a b : Nat} (hd : cd_D 1 cc pc .imul pc') (kk : cd_J w X k n S I pc' lv (.int (nI (a * b)) :: st)) : cd_J w X k n S I pc lv (.int (nI b) :: .int (nI a) :: st) := r_imul hO hd (by rw [pk_mul]; exact kk)
theorem r_isubN (hO : cd_O w X cc own d mc ms l) {a b : Nat} (hd : cd_D 1 cc pc .isub pc') (h : b ≤ a) (kk : cd_J w X k n S I pc' lv (.int (nI (a - b)) :: st)) : cd_J w X k n S I pc lv (.int (nI b) :: .int (nI a) :: st) := r_isub hO hd (by rw [pk_sub h]; exact kk)
theorem r_iremN (hO : cd_O w X cc own d mc ms l) {a b : Nat} (hd : cd_D 1 cc pc .irem pc') (ha : a < 2 ^ 31) (h0 : 0 < b) (hb : b < 2 ^ 31) (kk : cd_J w X k n S I pc' lv (.int (nI (a % b)) :: st)) : cd_J w X k n S I pc lv (.int (nI b) :: .int (nI a) :: st) := r_irem hO hd (nI_ne0 h0 hb) (by unfold cd_rem; rw [pk_rem ha h0 hb]; exact kk)
theorem r_idivN (hO : cd_O w X cc own d mc ms l) {a b : Nat} (hd : cd_D 1 cc pc .idiv pc') (ha : a < 2 ^ 31) (h0 : 0 < b) (hb : b < 2 ^ 31) (kk : cd_J w X k n S I pc' lv (.int (nI (a / b)) :: st)) : cd_J w X k n S I pc lv (.int (nI b) :: .int (nI a) :: st) := r_idiv hO hd (nI_ne0 h0 hb) (by rw [pk_div ha h0 hb]; exact kk)
theorem r_tops {x y : Int32} (h : x = y) (kk : cd_J w X k n S I pc lv (.int y :: st)) : cd_J w X k n S I pc lv (.int x :: st) := h ▸ kk
theorem r_mem {I' : cd_Mem} (h : I = I') (kk : cd_J w X k n S I' pc lv st) : cd_J w X k n S I pc lv st := h ▸ kk
/-- fields -/
def cd_CI (c : Nat) (C : String) (T : u_T) (N : Nat) (ty : Nat → FieldType) : Prop := cd_cls[c]? = some (C, T, N) ∧ (∀ q ∈ u_ws C T N, q ∈ cd_ws) ∧ (∀ k, k < N → parseFieldDescriptor (T k).2.2.1 = some (ty k)) ∧ ∀ a, a < N → ∀ b, b < N → a ≠ b → (T a).2.1 ≠ (T b).2.1
/-- a field of class c, at place k, of a type, final or not, by its link -/
def cd_F (own : String) (idx c k : Nat) (ty : FieldType) (fin : Bool) : Prop := ∃ (C : String) (T : u_T) (N : Nat) (tys : Nat → FieldType), cd_CI c C T N tys ∧ k < N ∧ Cond.fieldLink own idx (T k).1 (T k).2.1 (T k).2.2.1 ∈ cd_ws ∧ tys k = ty ∧ (T k).2.2.2 = fin ∧ (T k).1 = C
theorem r_get (hO : cd_O w X cc own d mc ms l) {idx c j a : Nat} {ty : FieldType} {fin : Bool} (hf : cd_F own idx c j ty fin) (hs : S.2.1 a = (1, c)) (hd : cd_D 3 cc pc (.getfield idx) pc') (kk : cd_J w X k n S I pc' lv (cd_ov c j (I a j) (S.2.2 a j) :: st)) : cd_J w X k n S I pc lv (.ref a :: st) := by
  intro H ls locs hR hL hq
  obtain ⟨hd, rfl⟩ := hd
  obtain ⟨C, T, N, tys, ⟨hc, hin, hty, hnm⟩, hk, hl, -⟩ := hf
  obtain ⟨q, h1, cell, q1, q2, q3, q4⟩ := cd_obj hR hs
  have hr : q = (C, T, N) := Option.some.inj (h1.symm.trans hc)
  subst hr
  obtain ⟨hS, hfc, kC, hkC, hkind⟩ := hO.2.2.2.2.1.1.1 c _ hc
  obtain ⟨cf, kf, fi, f, hi, hsl⟩ := hS j hk
  refine W.getf hO.1 hO.2.1 hO.2.2.1 (hO.2.2.2.1 _ hl) hi (u_facts hfc hkC (u_lays hO.2.2.2.1 hin hk) hi).1 q1 (by rw [q3]; exact fun h => by cases h) (v := cd_ov c j (I a j) (S.2.2 a j)) ?_ rfl rfl hd (kk H ls locs hR hL hq)
  rw [hsl, q4 j hk]
theorem r_getI (hO : cd_O w X cc own d mc ms l) {idx c j a : Nat} {ty : FieldType} {fin : Bool} (hf : cd_F own idx c j ty fin) (hr : cd_isR c j = false) (hs : S.2.1 a = (1, c)) (hd : cd_D 3 cc pc (.getfield idx) pc') (kk : cd_J w X k n S I pc' lv (.int (I a j) :: st)) : cd_J w X k n S I pc lv (.ref a :: st) :=
  r_get hO hf hs hd (by unfold cd_ov; rw [hr]; exact kk)
theorem r_getR (hO : cd_O w X cc own d mc ms l) {idx c j a b : Nat} {ty : FieldType} {fin : Bool} (hf : cd_F own idx c j ty fin) (hr : cd_isR c j = true) (hs : S.2.1 a = (1, c)) (hv : S.2.2 a j = some b) (hd : cd_D 3 cc pc (.getfield idx) pc') (kk : cd_J w X k n S I pc' lv (.ref b :: st)) : cd_J w X k n S I pc lv (.ref a :: st) :=
  r_get hO hf hs hd (by unfold cd_ov; rw [hr, hv]; exact kk)
theorem cd_put {H H' : Heap} {a c j : Nat} {v : Value} {C : String} {T : u_T} {N : Nat} {tys : Nat → FieldType} {s : State} {args : Array Value} {I' : cd_Mem} {S' : cd_Sp} {cell : Cell} (hR : cd_R w S I H) (hs : S.2.1 a = (1, c)) (hci : cd_CI c C T N tys) (hts : ∀ q ∈ cd_ws, q.before args s = true) (hK : va_K w.2.2.1 cd_cls (cd_tys w) s) (hk : j < N) (hcell : H[a]? = some cell)
    (hsz : S'.1 = S.1) (hsh : S'.2.1 = S.2.1) (hoI : ∀ b, b ≠ a → I' b = I b) (hoR : ∀ b, b ≠ a → S'.2.2 b = S.2.2 b) (hnew : ∀ i, i < N → cd_ov c i (I' a i) (S'.2.2 a i) = updV (fun i => cd_ov c i (I a i) (S.2.2 a i)) j v i)
    (ha : w.1 ≤ a) (e1 : H'[a]? = some (cell.setSlot (w.2.2.1.2 c j) v)) (e2 : H'.size = H.size) (e3 : ∀ q, q ≠ a → H'[q]? = H[q]?) : cd_R w S' I' H' := by
  obtain ⟨hc, hin, hty, hnm⟩ := hci
  have hap := va_apart (own := C) hts hin tys hty hnm hK hc
  refine ⟨fun b => ?_, by rw [e2, hsz]; exact hR.2.1, fun q hq => (e3 q (by omega)).trans (hR.2.2 q hq)⟩
  by_cases hb : b = a
  · subst hb
    obtain ⟨q, h1, cell2, q1, q2, q3, q4⟩ := cd_obj hR hs
    have hr : q = (C, T, N) := Option.some.inj (h1.symm.trans hc)
    subst hr
    have : cell2 = cell := Option.some.inj (q1.symm.trans hcell)
    subst this
    unfold cd_cell
    rw [hsh, hs]
    exact ⟨_, hc, t_OB.to (V := updV (fun i => cd_ov c i (I b i) (S.2.2 b i)) j v) ⟨_, e1, q2, q3, t_set q4 hap hk v⟩ (fun i hi => (hnew i hi).symm)⟩
  · exact cd_cell_kept (hR.1 b) (by rw [hsh]) (hoR b hb) (hoI b hb) (fun _ => e3 b hb)
theorem r_put (hO : cd_O w X cc own d mc ms l) {idx c j a : Nat} {ty : FieldType} {v : Value} {S' : cd_Sp} {I' : cd_Mem} (hf : cd_F own idx c j ty false) (hs : S.2.1 a = (1, c)) (ha : w.1 ≤ a) (hn : narrow ty v = v) (hfit : fits ty v = true)
    (hsz : S'.1 = S.1) (hsh : S'.2.1 = S.2.1) (hoI : ∀ b, b ≠ a → I' b = I b) (hoR : ∀ b, b ≠ a → S'.2.2 b = S.2.2 b) (hnew : ∀ i, cd_ov c i (I' a i) (S'.2.2 a i) = updV (fun i => cd_ov c i (I a i) (S.2.2 a i)) j v i) (hd : cd_D 3 cc pc (.putfield idx) pc') (kk : cd_J w X k n S' I' pc' lv st) : cd_J w X k n S I pc lv (v :: .ref a :: st) := by
  intro H ls locs hR hL hq
  obtain ⟨hd, rfl⟩ := hd
  obtain ⟨C, T, N, tys, hci, hk, hl, rfl, hfin, hC⟩ := hf
  obtain ⟨hc, hin, hty, hnm⟩ := id hci
  obtain ⟨q, h1, cell, q1, q2, q3, q4⟩ := cd_obj hR hs
  have hr : q = (C, T, N) := Option.some.inj (h1.symm.trans hc)
  subst hr
  obtain ⟨hS, hfc, kC, hkC, hkind⟩ := hO.2.2.2.2.1.1.1 c _ hc
  obtain ⟨cf, kf, fi, f, hi, hsl⟩ := hS j hk
  have hlay := hO.2.2.2.1 _ (hin _ (u_in_lay hk))
  unfold u_lay at hlay
  rw [if_neg (by rw [hfin]; decide)] at hlay
  have hst := (u_facts hfc hkC (u_lays hO.2.2.2.1 hin hk) hi).1
  have h6 := u_store hfc hkC hkind hlay hi (hty j hk) hn hfit
  refine W.putK hO.1 hO.2.1 (f := f) ⟨hO.2.2.1, hO.2.2.2.1 _ hl, ⟨_, _, _, hi⟩, hst⟩ (by rw [q2]; exact h6) q1 q3 (by rw [hsl]; exact k2_hasslot (q4 j hk)) rfl rfl hd fun H' e1 e2 e3 => ?_
  rw [hsl] at e1 ⊢
  exact kk H' ls _ (cd_put hR hs hci hO.2.2.2.1 hO.2.2.2.2.1.1 hk q1 hsz hsh hoI hoR (fun i _ => hnew i) ha e1 e2 e3) hL (fun q hq2 => (List.mem_append.mp hq2).elim (hq q) (fun h => by rw [List.mem_singleton.mp h]; exact ha))
theorem cd_new_I {c j a : Nat} (v : Int32) (hr : cd_isR c j = false) (i : Nat) : cd_ov c i (cd_set I a (upd (I a) j v) a i) (S.2.2 a i) = updV (fun i => cd_ov c i (I a i) (S.2.2 a i)) j (.int v) i := by
  rw [cd_set_eq]
  by_cases h : i = j
  · subst h
    simp [updV, upd, cd_ov, hr]
  · simp [updV, upd, h]
theorem r_putI (hO : cd_O w X cc own d mc ms l) {idx c j a : Nat} {v : Int32} (hf : cd_F own idx c j .int false) (hr : cd_isR c j = false) (hs : S.2.1 a = (1, c)) (ha : w.1 ≤ a) (hd : cd_D 3 cc pc (.putfield idx) pc') (kk : cd_J w X k n S (cd_set I a (upd (I a) j v)) pc' lv st) : cd_J w X k n S I pc lv (.int v :: .ref a :: st) :=
  r_put hO hf hs ha rfl rfl rfl rfl (fun b hb => cd_set_ne _ _ hb) (fun _ _ => rfl) (cd_new_I v hr) hd kk
theorem r_putZ (hO : cd_O w X cc own d mc ms l) {idx c j a : Nat} (hf : cd_F own idx c j .boolean false) (hr : cd_isR c j = false) (hs : S.2.1 a = (1, c)) (ha : w.1 ≤ a) (v : Int32) (hv : v = 0 ∨ v = 1) (hd : cd_D 3 cc pc (.putfield idx) pc') (kk : cd_J w X k n S (cd_set I a (upd (I a) j v)) pc' lv st) : cd_J w X k n S I pc lv (.int v :: .ref a :: st) :=
  r_put hO hf hs ha (by rcases hv with rfl | rfl <;> rfl) (by rcases hv with rfl | rfl <;> rfl) rfl rfl (fun b hb => cd_set_ne _ _ hb) (fun _ _ => rfl) (cd_new_I v hr) hd kk
/-- arrays -/

theorem r_iald (hO : cd_O w X cc own d mc ms l) {a j N : Nat} (hs : S.2.1 a = (2, N)) (hj : j < N) (hN : N < 2 ^ 31) (hd : cd_D 1 cc pc .iaload pc') (kk : cd_J w X k n S I pc' lv (.int (I a j) :: st)) : cd_J w X k n S I pc lv (.int (nI j) :: .ref a :: st) := by
  intro H ls locs hR hL hq
  obtain ⟨hd, rfl⟩ := hd
  have hA := (hO.2.2.2.2.1.1.2 0 _ (cd_tys_at w (by decide : 0 < 8))).1
  exact W.iald (v := .int (I a j)) hO.1 hO.2.1 (cd_arr (t := 0) hR hs) (hA _ _) (fun q => by cases q) (by rw [arrV_size]; exact nI_in hj hN) (by rw [nI_clamp (by omega), arrV_read _ _ hj]; rfl) rfl rfl hd (kk H ls locs hR hL hq)
theorem r_bald (hO : cd_O w X cc own d mc ms l) {a j N : Nat} (hs : S.2.1 a = (3, N)) (hj : j < N) (hN : N < 2 ^ 31) (hd : cd_D 1 cc pc .baload pc') (kk : cd_J w X k n S I pc' lv (.int (I a j) :: st)) : cd_J w X k n S I pc lv (.int (nI j) :: .ref a :: st) := by
  intro H ls locs hR hL hq
  obtain ⟨hd, rfl⟩ := hd
  have hA := (hO.2.2.2.2.1.1.2 1 _ (cd_tys_at w (by decide : 1 < 8))).1
  exact W.bald (v := .int (I a j)) hO.1 hO.2.1 (cd_arr (t := 1) hR hs) (hA _ _) (fun q => by cases q) (by rw [arrV_size]; exact nI_in hj hN) (by rw [nI_clamp (by omega), arrV_read _ _ hj]; rfl) rfl rfl hd (kk H ls locs hR hL hq)
theorem r_zald (hO : cd_O w X cc own d mc ms l) {a j N : Nat} (hs : S.2.1 a = (5, N)) (hj : j < N) (hN : N < 2 ^ 31) (hd : cd_D 1 cc pc .baload pc') (kk : cd_J w X k n S I pc' lv (.int (I a j) :: st)) : cd_J w X k n S I pc lv (.int (nI j) :: .ref a :: st) := by
  intro H ls locs hR hL hq
  obtain ⟨hd, rfl⟩ := hd
  have hA := (hO.2.2.2.2.1.1.2 3 _ (cd_tys_at w (by decide : 3 < 8))).1
  exact W.zald (v := .int (I a j)) hO.1 hO.2.1 (cd_arr (t := 3) hR hs) (hA _ _) (fun q => by cases q) (by rw [arrV_size]; exact nI_in hj hN) (by rw [nI_clamp (by omega), arrV_read _ _ hj]; rfl) rfl rfl hd (kk H ls locs hR hL hq)
theorem r_cald (hO : cd_O w X cc own d mc ms l) {a j N : Nat} (hs : S.2.1 a = (4, N)) (hj : j < N) (hN : N < 2 ^ 31) (hd : cd_D 1 cc pc .caload pc') (kk : cd_J w X k n S I pc' lv (.int (I a j) :: st)) : cd_J w X k n S I pc lv (.int (nI j) :: .ref a :: st) := by
  intro H ls locs hR hL hq
  obtain ⟨hd, rfl⟩ := hd
  have hA := (hO.2.2.2.2.1.1.2 2 _ (cd_tys_at w (by decide : 2 < 8))).1
  exact W.cald (v := .int (I a j)) hO.1 hO.2.1 (cd_arr (t := 2) hR hs) (hA _ _) (fun q => by cases q) (by rw [arrV_size]; exact nI_in hj hN) (by rw [nI_clamp (by omega), arrV_read _ _ hj]; rfl) rfl rfl hd (kk H ls locs hR hL hq)
theorem r_aald (hO : cd_O w X cc own d mc ms l) {a j N t b : Nat} (hs : S.2.1 a = (t + 2, N)) (ht : t < 8) (ht4 : 4 ≤ t) (hj : j < N) (hN : N < 2 ^ 31) (hv : S.2.2 a j = some b) (hd : cd_D 1 cc pc .aaload pc') (kk : cd_J w X k n S I pc' lv (.ref b :: st)) : cd_J w X k n S I pc lv (.int (nI j) :: .ref a :: st) := by
  intro H ls locs hR hL hq
  obtain ⟨hd, rfl⟩ := hd
  have hA := (hO.2.2.2.2.1.1.2 t _ (cd_tys_at w ht)).1
  have hav : ∀ i r, cd_av t i r = va_rf r := by
    intro i r
    match t, ht, ht4 with
    | 4, _, _ => rfl
    | 5, _, _ => rfl
    | 6, _, _ => rfl
    | 7, _, _ => rfl
  exact W.aald (v := .ref b) (ty := cd_aty t) hO.1 hO.2.1 (cd_arr hR hs) (hA _ _) (by
    match t, ht, ht4 with
    | 4, _, _ => rfl
    | 5, _, _ => rfl
    | 6, _, _ => rfl
    | 7, _, _ => rfl) (fun q => by cases q) (by rw [arrV_size]; exact nI_in hj hN) (by rw [nI_clamp (by omega), arrV_read _ _ hj, hav, hv]; rfl) rfl rfl hd (kk H ls locs hR hL hq)
theorem r_alen (hO : cd_O w X cc own d mc ms l) {a N t : Nat} (hs : S.2.1 a = (t + 2, N)) (ht : t < 8) (hd : cd_D 1 cc pc .arraylength pc') (kk : cd_J w X k n S I pc' lv (.int (nI N) :: st)) : cd_J w X k n S I pc lv (.ref a :: st) := by
  intro H ls locs hR hL hq
  obtain ⟨hd, rfl⟩ := hd
  have hA := (hO.2.2.2.2.1.1.2 t _ (cd_tys_at w ht)).1
  exact W.alen hO.1 hO.2.1 (cd_arr hR hs) (hA _ _) (by rw [arrV_size]; rfl) rfl rfl hd (kk H ls locs hR hL hq)
theorem cd_stored {H H' : Heap} {a t N j : Nat} {v : Value} {x : Int32} (hR : cd_R w S I H) (hs : S.2.1 a = (t + 2, N)) (ht : t < 4) (hv : v = .int x) (ha : w.1 ≤ a)
    (e1 : H'[a]? = some ((arrV (w.2.2.2.1 t) N (fun j => cd_av t (I a j) (S.2.2 a j))).setSlot j v)) (e2 : H'.size = H.size) (e3 : ∀ q, q ≠ a → H'[q]? = H[q]?) : cd_R w S (cd_set I a (upd (I a) j x)) H' := by
  have hav : ∀ i r, cd_av t i r = .int i := by
    intro i r
    match t, ht with
    | 0, _ => rfl
    | 1, _ => rfl
    | 2, _ => rfl
    | 3, _ => rfl
  refine ⟨fun b => ?_, by rw [e2]; exact hR.2.1, fun q hq => (e3 q (by omega)).trans (hR.2.2 q hq)⟩
  by_cases hb : b = a
  · subst hb
    unfold cd_cell
    rw [hs, cd_set_eq]
    show H'[b]? = _
    rw [e1, arrV_store, hv]
    congr 2
    funext i
    by_cases hi : i = j
    · subst hi
      simp [updV, upd, hav]
    · simp [updV, upd, hi]
  · exact cd_cell_kept (hR.1 b) rfl rfl (cd_set_ne _ _ hb) (fun _ => e3 b hb)

theorem r_iast (hO : cd_O w X cc own d mc ms l) {a j N : Nat} {x : Int32} (hs : S.2.1 a = (2, N)) (ha : w.1 ≤ a) (hj : j < N) (hN : N < 2 ^ 31) (hd : cd_D 1 cc pc .iastore pc') (kk : cd_J w X k n S (cd_set I a (upd (I a) j x)) pc' lv st) : cd_J w X k n S I pc lv (.int x :: .int (nI j) :: .ref a :: st) := by
  intro H ls locs hR hL hq
  obtain ⟨hd, rfl⟩ := hd
  have hA := (hO.2.2.2.2.1.1.2 0 _ (cd_tys_at w (by decide : 0 < 8))).1
  refine W.iast hO.1 hO.2.1 (cd_arr (t := 0) hR hs) (hA _ _) (fun q => by cases q) (by rw [arrV_size]; exact nI_in hj hN) rfl rfl hd fun H1 e z oq => ?_
  rw [nI_clamp (by omega)] at e ⊢
  exact kk H1 ls _ (cd_stored hR hs (by decide) (by rfl) ha e z oq) hL (fun q hq2 => (List.mem_append.mp hq2).elim (hq q) (fun h => by rw [List.mem_singleton.mp h]; exact ha))
theorem r_bast (hO : cd_O w X cc own d mc ms l) {a j N : Nat} {x : Int32} (hs : S.2.1 a = (3, N)) (ha : w.1 ≤ a) (hj : j < N) (hN : N < 2 ^ 31) (hd : cd_D 1 cc pc .bastore pc') (kk : cd_J w X k n S (cd_set I a (upd (I a) j x.toInt8.toInt32)) pc' lv st) : cd_J w X k n S I pc lv (.int x :: .int (nI j) :: .ref a :: st) := by
  intro H ls locs hR hL hq
  obtain ⟨hd, rfl⟩ := hd
  have hA := (hO.2.2.2.2.1.1.2 1 _ (cd_tys_at w (by decide : 1 < 8))).1
  refine W.bast hO.1 hO.2.1 (cd_arr (t := 1) hR hs) (hA _ _) (fun q => by cases q) (by rw [arrV_size]; exact nI_in hj hN) rfl rfl hd fun H1 e z oq => ?_
  rw [nI_clamp (by omega)] at e ⊢
  exact kk H1 ls _ (cd_stored hR hs (by decide) (by rfl) ha e z oq) hL (fun q hq2 => (List.mem_append.mp hq2).elim (hq q) (fun h => by rw [List.mem_singleton.mp h]; exact ha))
theorem r_cast (hO : cd_O w X cc own d mc ms l) {a j N : Nat} {x : Int32} (hs : S.2.1 a = (4, N)) (ha : w.1 ≤ a) (hj : j < N) (hN : N < 2 ^ 31) (hd : cd_D 1 cc pc .castore pc') (kk : cd_J w X k n S (cd_set I a (upd (I a) j (vp_nar .char x))) pc' lv st) : cd_J w X k n S I pc lv (.int x :: .int (nI j) :: .ref a :: st) := by
  intro H ls locs hR hL hq
  obtain ⟨hd, rfl⟩ := hd
  have hA := (hO.2.2.2.2.1.1.2 2 _ (cd_tys_at w (by decide : 2 < 8))).1
  refine W.cast hO.1 hO.2.1 (cd_arr (t := 2) hR hs) (hA _ _) (fun q => by cases q) (by rw [arrV_size]; exact nI_in hj hN) rfl rfl hd fun H1 e z oq => ?_
  rw [nI_clamp (by omega)] at e ⊢
  exact kk H1 ls _ (cd_stored hR hs (by decide) (by rfl) ha e z oq) hL (fun q hq2 => (List.mem_append.mp hq2).elim (hq q) (fun h => by rw [List.mem_singleton.mp h]; exact ha))
theorem r_zast (hO : cd_O w X cc own d mc ms l) {a j N : Nat} {x : Int32} (hs : S.2.1 a = (5, N)) (ha : w.1 ≤ a) (hj : j < N) (hN : N < 2 ^ 31) (hd : cd_D 1 cc pc .bastore pc') (kk : cd_J w X k n S (cd_set I a (upd (I a) j (vp_nar .boolean x))) pc' lv st) : cd_J w X k n S I pc lv (.int x :: .int (nI j) :: .ref a :: st) := by
  intro H ls locs hR hL hq
  obtain ⟨hd, rfl⟩ := hd
  have hA := (hO.2.2.2.2.1.1.2 3 _ (cd_tys_at w (by decide : 3 < 8))).1
  refine W.zast hO.1 hO.2.1 (cd_arr (t := 3) hR hs) (hA _ _) (fun q => by cases q) (by rw [arrV_size]; exact nI_in hj hN) rfl rfl hd fun H1 e z oq => ?_
  rw [nI_clamp (by omega)] at e ⊢
  exact kk H1 ls _ (cd_stored hR hs (by decide) (by rfl) ha e z oq) hL (fun q hq2 => (List.mem_append.mp hq2).elim (hq q) (fun h => by rw [List.mem_singleton.mp h]; exact ha))
end CDR
