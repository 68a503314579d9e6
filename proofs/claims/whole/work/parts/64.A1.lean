section CDN
variable {l : Launch} {w : cd_WT} {X : cd_XT} {cc : ByteArray} {own : String} {d mc ms : Nat} {k n : Nat} {S : cd_Sp} {I : cd_Mem} {pc pc' tgt : Nat} {lv : List (Option Value)} {st : List Value} {nL : Nat} {rt : Option FieldType} {nm : String} {post : cd_Pt}
/-- a cell comes at a -/
def cd_al (S : cd_Sp) (a : Nat) (sh : Nat × Nat) : cd_Sp := (S.1 + 1, fun b => if b = a then sh else S.2.1 b, fun b => if b = a then (fun _ => none) else S.2.2 b)
theorem cd_cell_lt {H : Heap} {a : Nat} (h : cd_cell w S I H a) (h0 : (S.2.1 a).1 ≠ 0) : a < H.size := by
  unfold cd_cell at h
  generalize hz : S.2.1 a = z at h h0
  obtain ⟨z1, z2⟩ := z
  match z1, h, h0 with
  | 0, _, h0 => exact absurd rfl h0
  | 1, h, _ =>
    obtain ⟨q, -, cell, q1, -⟩ := h
    exact (Array.getElem?_eq_some_iff.mp q1).1
  | t + 2, h, _ => exact (Array.getElem?_eq_some_iff.mp h).1
theorem cd_R_al {H H' : Heap} {sh : Nat × Nat} {r : Nat → Int32} (hR : cd_R w S I H) (hs : H'.size = H.size + 1) (ho : ∀ q : Nat, q < H.size → H'[q]? = H[q]?) (hc : cd_cell w (cd_al S (w.1 + S.1) sh) (cd_set I (w.1 + S.1) r) H' (w.1 + S.1)) : cd_R w (cd_al S (w.1 + S.1) sh) (cd_set I (w.1 + S.1) r) H' := by
  refine ⟨fun b => ?_, ?_, fun q hq => ?_⟩
  · by_cases hb : b = w.1 + S.1
    · rw [hb]; exact hc
    · exact cd_cell_kept (hR.1 b) (if_neg hb) (if_neg hb) (cd_set_ne _ _ hb) (fun h0 => ho b (cd_cell_lt (hR.1 b) h0))
  · show H'.size = w.1 + (S.1 + 1)
    rw [hs, hR.2.1]
    omega
  · rw [ho q (by rw [hR.2.1]; omega)]
    exact hR.2.2 q hq
theorem r_new0 (hO : cd_O w X cc own d mc ms l) {N : Nat} (hN : N < 2 ^ 20) (harr : Cond.arrayClass (newarray.typeOf .int) ∈ cd_ws) (hd : cd_D 2 cc pc (.newarray .int) pc') (hk : k + 1 ≤ mc) (hn : n + N ≤ ms) (kk : cd_J w X (k + 1) (n + N) (cd_al S (w.1 + S.1) (2, N)) (cd_set I (w.1 + S.1) (fun _ => nI 0)) pc' lv (.ref (w.1 + S.1) :: st)) : cd_J w X k n S I pc lv (.int (nI N) :: st) := by
  intro H ls locs hR hL hq
  obtain ⟨hd, rfl⟩ := hd
  refine va_newaK (atype := .int) hO.1 hO.2.1 (hO.2.2.2.1 _ harr) rfl hd rfl (nI_pos (by omega)) (nI_clamp (by omega)) (by show N * _ ≤ 536870912; simp [newarray.typeOf, componentBytes]; omega) (Nat.le_trans hk hO.2.2.2.2.2.2.2.1) (Nat.le_trans hn hO.2.2.2.2.2.2.2.2.1) hR.2.1 (fun H' cA e1 z1 o1 hA hNm => ?_)
  have hcA : w.2.2.2.1 0 = cA := Option.some.inj ((show X.2.2.2.2.1.vm.findClass _ = some (w.2.2.2.1 0) from (hO.2.2.2.2.1.1.2 0 _ (cd_tys_at w (by decide : 0 < 8))).2).symm.trans hNm)
  refine kk H' ls locs (cd_R_al hR (by rw [z1, hR.2.1]) (fun q hq => o1 q (by rw [← hR.2.1]; exact hq)) ?_) hL hq
  unfold cd_cell
  rw [show (cd_al S (w.1 + S.1) (2, N)).2.1 (w.1 + S.1) = (0 + 2, N) from if_pos rfl, cd_set_eq]
  show H'[w.1 + S.1]? = some (arrV (w.2.2.2.1 0) N (fun _ => Value.int (nI 0)))
  rw [hcA]
  exact e1
theorem r_new1 (hO : cd_O w X cc own d mc ms l) {N : Nat} (hN : N < 2 ^ 20) (harr : Cond.arrayClass (newarray.typeOf .byte) ∈ cd_ws) (hd : cd_D 2 cc pc (.newarray .byte) pc') (hk : k + 1 ≤ mc) (hn : n + N ≤ ms) (kk : cd_J w X (k + 1) (n + N) (cd_al S (w.1 + S.1) (3, N)) (cd_set I (w.1 + S.1) (fun _ => nI 0)) pc' lv (.ref (w.1 + S.1) :: st)) : cd_J w X k n S I pc lv (.int (nI N) :: st) := by
  intro H ls locs hR hL hq
  obtain ⟨hd, rfl⟩ := hd
  refine va_newaK (atype := .byte) hO.1 hO.2.1 (hO.2.2.2.1 _ harr) rfl hd rfl (nI_pos (by omega)) (nI_clamp (by omega)) (by show N * _ ≤ 536870912; simp [newarray.typeOf, componentBytes]; omega) (Nat.le_trans hk hO.2.2.2.2.2.2.2.1) (Nat.le_trans hn hO.2.2.2.2.2.2.2.2.1) hR.2.1 (fun H' cA e1 z1 o1 hA hNm => ?_)
  have hcA : w.2.2.2.1 1 = cA := Option.some.inj ((show X.2.2.2.2.1.vm.findClass _ = some (w.2.2.2.1 1) from (hO.2.2.2.2.1.1.2 1 _ (cd_tys_at w (by decide : 1 < 8))).2).symm.trans hNm)
  refine kk H' ls locs (cd_R_al hR (by rw [z1, hR.2.1]) (fun q hq => o1 q (by rw [← hR.2.1]; exact hq)) ?_) hL hq
  unfold cd_cell
  rw [show (cd_al S (w.1 + S.1) (3, N)).2.1 (w.1 + S.1) = (1 + 2, N) from if_pos rfl, cd_set_eq]
  show H'[w.1 + S.1]? = some (arrV (w.2.2.2.1 1) N (fun _ => Value.int (nI 0)))
  rw [hcA]
  exact e1
theorem r_new2 (hO : cd_O w X cc own d mc ms l) {N : Nat} (hN : N < 2 ^ 20) (harr : Cond.arrayClass (newarray.typeOf .char) ∈ cd_ws) (hd : cd_D 2 cc pc (.newarray .char) pc') (hk : k + 1 ≤ mc) (hn : n + N ≤ ms) (kk : cd_J w X (k + 1) (n + N) (cd_al S (w.1 + S.1) (4, N)) (cd_set I (w.1 + S.1) (fun _ => nI 0)) pc' lv (.ref (w.1 + S.1) :: st)) : cd_J w X k n S I pc lv (.int (nI N) :: st) := by
  intro H ls locs hR hL hq
  obtain ⟨hd, rfl⟩ := hd
  refine va_newaK (atype := .char) hO.1 hO.2.1 (hO.2.2.2.1 _ harr) rfl hd rfl (nI_pos (by omega)) (nI_clamp (by omega)) (by show N * _ ≤ 536870912; simp [newarray.typeOf, componentBytes]; omega) (Nat.le_trans hk hO.2.2.2.2.2.2.2.1) (Nat.le_trans hn hO.2.2.2.2.2.2.2.2.1) hR.2.1 (fun H' cA e1 z1 o1 hA hNm => ?_)
  have hcA : w.2.2.2.1 2 = cA := Option.some.inj ((show X.2.2.2.2.1.vm.findClass _ = some (w.2.2.2.1 2) from (hO.2.2.2.2.1.1.2 2 _ (cd_tys_at w (by decide : 2 < 8))).2).symm.trans hNm)
  refine kk H' ls locs (cd_R_al hR (by rw [z1, hR.2.1]) (fun q hq => o1 q (by rw [← hR.2.1]; exact hq)) ?_) hL hq
  unfold cd_cell
  rw [show (cd_al S (w.1 + S.1) (4, N)).2.1 (w.1 + S.1) = (2 + 2, N) from if_pos rfl, cd_set_eq]
  show H'[w.1 + S.1]? = some (arrV (w.2.2.2.1 2) N (fun _ => Value.int (nI 0)))
  rw [hcA]
  exact e1
theorem r_new3 (hO : cd_O w X cc own d mc ms l) {N : Nat} (hN : N < 2 ^ 20) (harr : Cond.arrayClass (newarray.typeOf .boolean) ∈ cd_ws) (hd : cd_D 2 cc pc (.newarray .boolean) pc') (hk : k + 1 ≤ mc) (hn : n + N ≤ ms) (kk : cd_J w X (k + 1) (n + N) (cd_al S (w.1 + S.1) (5, N)) (cd_set I (w.1 + S.1) (fun _ => nI 0)) pc' lv (.ref (w.1 + S.1) :: st)) : cd_J w X k n S I pc lv (.int (nI N) :: st) := by
  intro H ls locs hR hL hq
  obtain ⟨hd, rfl⟩ := hd
  refine va_newaK (atype := .boolean) hO.1 hO.2.1 (hO.2.2.2.1 _ harr) rfl hd rfl (nI_pos (by omega)) (nI_clamp (by omega)) (by show N * _ ≤ 536870912; simp [newarray.typeOf, componentBytes]; omega) (Nat.le_trans hk hO.2.2.2.2.2.2.2.1) (Nat.le_trans hn hO.2.2.2.2.2.2.2.2.1) hR.2.1 (fun H' cA e1 z1 o1 hA hNm => ?_)
  have hcA : w.2.2.2.1 3 = cA := Option.some.inj ((show X.2.2.2.2.1.vm.findClass _ = some (w.2.2.2.1 3) from (hO.2.2.2.2.1.1.2 3 _ (cd_tys_at w (by decide : 3 < 8))).2).symm.trans hNm)
  refine kk H' ls locs (cd_R_al hR (by rw [z1, hR.2.1]) (fun q hq => o1 q (by rw [← hR.2.1]; exact hq)) ?_) hL hq
  unfold cd_cell
  rw [show (cd_al S (w.1 + S.1) (5, N)).2.1 (w.1 + S.1) = (3 + 2, N) from if_pos rfl, cd_set_eq]
  show H'[w.1 + S.1]? = some (arrV (w.2.2.2.1 3) N (fun _ => Value.int (nI 0)))
  rw [hcA]
  exact e1
theorem r_anew (hO : cd_O w X cc own d mc ms l) {N t i index : Nat} (hN : N < 2 ^ 20) (hi : i < 4) (ht : t < 8) (hty : cd_aty t = .object (cd_oc i)) (hav : cd_av t (nI 0) none = .null) (hlk : Cond.classLink own index (cd_oc i) ∈ cd_ws) (hd : cd_D 3 cc pc (.anewarray index) pc') (hk : k + 1 ≤ mc) (hn : n + N ≤ ms) (kk : cd_J w X (k + 1) (n + N) (cd_al S (w.1 + S.1) (t + 2, N)) (cd_set I (w.1 + S.1) (fun _ => nI 0)) pc' lv (.ref (w.1 + S.1) :: st)) : cd_J w X k n S I pc lv (.int (nI N) :: st) := by
  intro H ls locs hR hL hq
  obtain ⟨hd, rfl⟩ := hd
  have hcl : (nI N).toNatClampNeg = N := nI_clamp (by omega)
  refine W.anew hO.1 hO.2.1 hO.2.2.1 (hO.2.2.2.1 _ hlk) (va_AO.use (hO.2.2.2.2.1.2.2.2.2.2 i hi)) rfl hd rfl (nI_pos (by omega)) (by rw [hcl]; omega) (Nat.le_trans hk hO.2.2.2.2.2.2.2.1) (by rw [hcl]; exact Nat.le_trans hn hO.2.2.2.2.2.2.2.2.1) (fun cA kA comp f1 f2 f3 f4 => ?_)
  rw [hcl]
  have hsz := hR.2.1
  have hRA : va_RA X.2.2.2.2.1 (w.2.2.2.1 t) (.object (cd_oc i)) := by
    have := (hO.2.2.2.2.1.1.2 t _ (cd_tys_at w ht)).2
    rw [hty] at this
    exact this
  obtain ⟨_, _, -, -, -, hnm⟩ := hRA
  have hcA : w.2.2.2.1 t = cA := Option.some.inj (hnm.symm.trans f1)
  have key := kk (H.push ({ cls := cA, slots := Array.replicate N .null, vm := .none } : Cell)) ls locs (cd_R_al hR (by simp) (fun q hq => by rw [Array.getElem?_push, if_neg (Nat.ne_of_lt hq)]) ?_) hL hq
  · rw [← hsz] at key
    exact key
  · unfold cd_cell
    rw [show (cd_al S (w.1 + S.1) (t + 2, N)).2.1 (w.1 + S.1) = (t + 2, N) from if_pos rfl, cd_set_eq, show (cd_al S (w.1 + S.1) (t + 2, N)).2.2 (w.1 + S.1) = (fun _ => none) from if_pos rfl, ← hsz]
    show (H.push _)[H.size]? = some (arrV (w.2.2.2.1 t) N (fun _ => cd_av t (nI 0) none))
    rw [hav, hcA, Array.getElem?_push_size, ← arrV_new]
theorem r_new (hO : cd_O w X cc own d mc ms l) {c N index : Nat} {C : String} {T : u_T} {tys : Nat → FieldType} (hci : cd_CI c C T N tys) (hdf : ∀ j, j < N → defaultValue (tys j) = cd_ov c j (nI 0) none) (hlk : Cond.classLink own index C ∈ cd_ws) (hin : Cond.instantiable C N ∈ cd_ws) (hini : Cond.initialized C ∈ cd_ws) (hd : cd_D 3 cc pc (.new index) pc') (hk : k + 1 ≤ mc) (hn : n + N ≤ ms) (kk : cd_J w X (k + 1) (n + N) (cd_al S (w.1 + S.1) (1, c)) (cd_set I (w.1 + S.1) (fun _ => nI 0)) pc' lv (.ref (w.1 + S.1) :: st)) : cd_J w X k n S I pc lv st := by
  intro H ls locs hR hL hq
  obtain ⟨hd, rfl⟩ := hd
  obtain ⟨hc, hws, hty, hnm⟩ := id hci
  have hKn := hO.2.2.2.2.1.1.1 c _ hc
  refine W.newcK hO.1 hO.2.1 hO.2.2.1 (hO.2.2.2.1 _ hlk) (hO.2.2.2.1 _ hin) (hO.2.2.2.1 _ hini) rfl hd (Nat.le_trans hk hO.2.2.2.2.2.2.2.1) (Nat.le_trans hn hO.2.2.2.2.2.2.2.2.1) hKn.2.1 hR.2.1 (fun H' kC hkC e1 z1 o1 => ?_)
  refine kk H' ls locs (cd_R_al hR (by rw [z1, hR.2.1]) (fun q hq => o1 q (by rw [← hR.2.1]; exact hq)) ?_) hL hq
  unfold cd_cell
  rw [show (cd_al S (w.1 + S.1) (1, c)).2.1 (w.1 + S.1) = (1, c) from if_pos rfl, cd_set_eq, show (cd_al S (w.1 + S.1) (1, c)).2.2 (w.1 + S.1) = (fun _ => none) from if_pos rfl]
  exact ⟨_, hc, (u_born tys hO.2.2.2.1 hws hKn hkC e1 hty).to hdf⟩
theorem r_putX (hO : cd_O w X cc own d mc ms l) (hE : cd_E w X nL rt mc ms "<init>" post) {idx c j a : Nat} {ty : FieldType} {v : Value} {S' : cd_Sp} {I' : cd_Mem} (hf : cd_F own idx c j ty true) (hcl : (cd_cls[c]?).map (·.1) = some own) (hs : S.2.1 a = (1, c)) (ha : w.1 ≤ a) (hn : narrow ty v = v) (hfit : fits ty v = true)
    (hsz : S'.1 = S.1) (hsh : S'.2.1 = S.2.1) (hoI : ∀ b, b ≠ a → I' b = I b) (hoR : ∀ b, b ≠ a → S'.2.2 b = S.2.2 b) (hnew : ∀ i, cd_ov c i (I' a i) (S'.2.2 a i) = updV (fun i => cd_ov c i (I a i) (S.2.2 a i)) j v i) (hd : cd_D 3 cc pc (.putfield idx) pc') (kk : cd_J w X k n S' I' pc' lv st) : cd_J w X k n S I pc lv (v :: .ref a :: st) := by
  intro H ls locs hR hL hq
  obtain ⟨hd, rfl⟩ := hd
  obtain ⟨C, T, N, tys, hci, hk, hl, rfl, hfin, hC⟩ := hf
  obtain ⟨hc, hin, hty, hnm⟩ := id hci
  have hdecl : (T j).1 = own := by
    rw [hc] at hcl
    rw [hC]
    exact Option.some.inj hcl
  obtain ⟨q, h1, cell, q1, q2, q3, q4⟩ := cd_obj hR hs
  have hr : q = (C, T, N) := Option.some.inj (h1.symm.trans hc)
  subst hr
  obtain ⟨hS, hfc, kC, hkC, hkind⟩ := hO.2.2.2.2.1.1.1 c _ hc
  obtain ⟨cf, kf, fi, f, hi, hsl⟩ := hS j hk
  have hlay := hO.2.2.2.1 _ (hin _ (u_in_lay hk))
  unfold u_lay at hlay
  rw [if_pos hfin] at hlay
  have hst := (u_facts hfc hkC (u_lays hO.2.2.2.1 hin hk) hi).1
  have hcf : X.2.2.2.2.2.1.cls = cf := by
    obtain ⟨_, _, c', _, _, _, -, -, hf', -, -, -, hown2, -⟩ := Cond.laysFinal_spec hlay
    have e1 : c' = cf := by have := hi.symm.trans hf'; simp at this; exact this.1.symm
    rw [hdecl] at hown2
    rw [← e1]
    exact Option.some.inj (hO.2.2.1.symm.trans hown2)
  have h6 := u_fits hfc hkC hkind (Or.inr hlay) hi (hty j hk) hn hfit
  refine W.putFinK hO.1 hO.2.1 hO.2.2.1 (hO.2.2.2.1 _ hl) hi hst hcf hE.2.2.2.1 (by rw [q2]; exact h6) q1 q3 (by rw [hsl]; exact k2_hasslot (q4 j hk)) rfl rfl hd fun H' e1 e2 e3 => ?_
  rw [hsl] at e1 ⊢
  exact kk H' ls _ (cd_put hR hs hci hO.2.2.2.1 hO.2.2.2.2.1.1 hk q1 hsz hsh hoI hoR (fun i _ => hnew i) ha e1 e2 e3) hL (fun q hq2 => (List.mem_append.mp hq2).elim (hq q) (fun h => by rw [List.mem_singleton.mp h]; exact ha))
theorem r_putFI (hO : cd_O w X cc own d mc ms l) (hE : cd_E w X nL rt mc ms "<init>" post) {idx c j a : Nat} {v : Int32} (hf : cd_F own idx c j .int true) (hcl : (cd_cls[c]?).map (·.1) = some own) (hr : cd_isR c j = false) (hs : S.2.1 a = (1, c)) (ha : w.1 ≤ a) (hd : cd_D 3 cc pc (.putfield idx) pc') (kk : cd_J w X k n S (cd_set I a (upd (I a) j v)) pc' lv st) : cd_J w X k n S I pc lv (.int v :: .ref a :: st) :=
  r_putX hO hE hf hcl hs ha rfl rfl rfl rfl (fun b hb => cd_set_ne _ _ hb) (fun _ _ => rfl) (cd_new_I v hr) hd kk
theorem cd_new_R {c j a v : Nat} (hr : cd_isR c j = true) (i : Nat) : cd_ov c i (I a i) ((cd_sr S a j v).2.2 a i) = updV (fun i => cd_ov c i (I a i) (S.2.2 a i)) j (.ref v) i := by
  have e : (cd_sr S a j v).2.2 a = va_up (S.2.2 a) j (some v) := if_pos rfl
  rw [e]
  by_cases h : i = j
  · subst h
    simp [updV, va_up, cd_ov, hr, va_rf]
  · simp [updV, va_up, h]
theorem r_putFR (hO : cd_O w X cc own d mc ms l) (hE : cd_E w X nL rt mc ms "<init>" post) {idx c j a v : Nat} {ty : FieldType} (hf : cd_F own idx c j ty true) (hcl : (cd_cls[c]?).map (·.1) = some own) (hr : cd_isR c j = true) (hn : narrow ty (.ref v) = .ref v) (hfit : fits ty (.ref v) = true) (hs : S.2.1 a = (1, c)) (ha : w.1 ≤ a) (hd : cd_D 3 cc pc (.putfield idx) pc') (kk : cd_J w X k n (cd_sr S a j v) I pc' lv st) : cd_J w X k n S I pc lv (.ref v :: .ref a :: st) :=
  r_putX (S' := cd_sr S a j v) hO hE hf hcl hs ha hn hfit rfl rfl (fun _ _ => rfl) (fun b hb => if_neg hb) (cd_new_R hr) hd kk
theorem r_objI (hO : cd_O w X cc own d mc ms l) (hE : cd_E w X nL rt mc ms nm post) {idx a : Nat} (hlk : Cond.methodLink own idx Lib.objectInit ∈ cd_ws) (hin : Cond.instanceMethod Lib.objectInit ∈ cd_ws) (hco : Cond.code Lib.objectInit ⟨#[0xb1]⟩ 1 none ∈ cd_ws) (hdd : 1 ≤ d) (hlv : lv.length = nL) (hcat : (st.map fun v => v.category).sum ≤ 8) (hd : cd_D 3 cc pc (.invokespecial idx) pc') (kk : cd_J w X k n S I pc' lv st) : cd_J w X k n S I pc lv (.ref a :: st) := by
  intro H ls locs hR hL hq
  obtain ⟨hd, rfl⟩ := hd
  have hf := hO.2.2.2.2.2.1
  have hl := hO.2.2.2.2.2.2.1
  exact W.objInit hO.1 hO.2.1 hO.2.2.1 (hO.2.2.2.1 _ hlk) (hO.2.2.2.1 _ hin) (hO.2.2.2.1 _ hco) rfl (hL.1.trans (hlv.trans hE.1.symm)) rfl hd (by omega) (by show 2 * 0 + _ + 12 ≤ _; omega) (kk H ls locs hR hL hq)
theorem cd_callI (hO : cd_O w X cc own d mc ms l) (hml : X.2.2.2.2.2.2.2.2.2.1.maxLocals = nL) {m : cd_MT} {np d' mc' ms' index b : Nat} {As rest st0 : List Value} {post' : cd_Pt} (hc : cd_C l w m d' mc' ms' (.ref b :: As) S I post') (hm : cd_MI m np) (hlk : Cond.methodLink own index m.1 ∈ cd_ws) (hdd : d' + 1 ≤ d) (hnp : As.length = np) (hlv : lv.length = nL) (hst : st0 = As.reverse ++ .ref b :: rest) (hcat : (rest.map fun v => v.category).sum ≤ 8) (hd : cd_D 3 cc pc (.invokespecial index) pc') (hf : k + mc' ≤ mc ∧ n + ms' ≤ ms)
    (kk : ∀ (r : Option Value) (S' : cd_Sp) (I' : cd_Mem), post' r S' I' → cd_J w X (k + mc') (n + ms') S' I' pc' lv (r.toList ++ rest)) : cd_J w X k n S I pc lv st0 := by
  intro H ls locs hR hL hq
  obtain ⟨hd, rfl⟩ := hd
  have hl9 := hO.2.2.2.2.2.2.2.2.2
  unfold cd_C at hc
  rw [← hl9] at hc
  obtain ⟨m1, m2, m3, m4⟩ := m
  have hr : m4 = none := hm.2.2.2
  subst hr
  exact cd_after (a := #[]) hR hL hq (va_runI (n := np) (As := As) (rest := rest) (b := b) ⟨hO.1, hO.2.1, hml, hO.2.2.1, hO.2.2.2.1⟩ hc ⟨cd_callB hO hm.1 hlk hdd, hm.2.1, hO.2.2.2.1 _ hm.2.2.1⟩ ⟨cd_blind, fun U hU hW => ⟨rfl, by rw [hU]; exact hR, hO.2.2.2.2.1.warm hW⟩⟩ rfl hnp (hL.1.trans hlv) hst (lv_room hcat) hd ⟨Nat.le_trans hf.1 hO.2.2.2.2.2.2.2.1, Nat.le_trans hf.2 hO.2.2.2.2.2.2.2.2.1⟩) kk
theorem cd_callIN (hO : cd_O w X cc own d mc ms l) (hml : X.2.2.2.2.2.2.2.2.2.1.maxLocals = nL) {m : cd_MT} {np d' mc' ms' index b : Nat} {host : String} {As rest st0 : List Value} {post' : cd_Pt} (hc : cd_C l w m d' mc' ms' (.ref b :: As) S I post') (hm : cd_MI m np) (hlk : (own, index, m.1, host) ∈ cd_nn) (hdd : d' + 1 ≤ d) (hnp : As.length = np) (hlv : lv.length = nL) (hst : st0 = As.reverse ++ .ref b :: rest) (hcat : (rest.map fun v => v.category).sum ≤ 8) (hd : cd_D 3 cc pc (.invokespecial index) pc') (hf : k + mc' ≤ mc ∧ n + ms' ≤ ms)
    (kk : ∀ (r : Option Value) (S' : cd_Sp) (I' : cd_Mem), post' r S' I' → cd_J w X (k + mc') (n + ms') S' I' pc' lv (r.toList ++ rest)) : cd_J w X k n S I pc lv st0 := by
  intro H ls locs hR hL hq
  obtain ⟨hd, rfl⟩ := hd
  have hl9 := hO.2.2.2.2.2.2.2.2.2
  unfold cd_C at hc
  rw [← hl9] at hc
  obtain ⟨m1, m2, m3, m4⟩ := m
  have hr : m4 = none := hm.2.2.2
  subst hr
  obtain ⟨h1, h2, h3, h4⟩ := hm.1
  have hfr := hO.2.2.2.2.2.1
  have hlo := hO.2.2.2.2.2.2.1
  have h4' : m3 ≤ 22 := h4
  exact cd_after (a := #[]) hR hL hq (va_runIN (n := np) (As := As) (rest := rest) (b := b) ⟨hO.1, hO.2.1, hml, hO.2.2.1, hO.2.2.2.1⟩ hc ⟨va_cnB (host := host) np hO.2.2.2.1 (cd_goodIn (m := (m1, m2, m3, none)) h1) rfl rfl rfl (hO.2.2.2.2.1.2.2.2.2.1 _ hlk) (hO.2.2.2.1 _ h2) h3 ⟨Nat.le_trans hdd hfr, by show 8 + (m3 + 11) + 41 * d' ≤ _; omega⟩, hm.2.1, hO.2.2.2.1 _ hm.2.2.1⟩ ⟨cd_blind, fun U hU hW => ⟨rfl, by rw [hU]; exact hR, hO.2.2.2.2.1.warm hW⟩⟩ rfl hnp (hL.1.trans hlv) hst (lv_room hcat) hd ⟨Nat.le_trans hf.1 hO.2.2.2.2.2.2.2.1, Nat.le_trans hf.2 hO.2.2.2.2.2.2.2.2.1⟩) kk
end CDN
theorem cl_W_7 : Cond.classLink "CatDoorsLaw" 7 "CatDoors" ∈ cd_ws := cd_mem 70 (by decide +kernel) rfl
theorem in_C : Cond.instantiable "CatDoors" 10 ∈ cd_ws := cd_mem 71 (by decide +kernel) rfl
theorem it_C : Cond.initialized "CatDoors" ∈ cd_ws := cd_mem 55 (by decide +kernel) rfl
theorem oi_i : Cond.instanceMethod Lib.objectInit ∈ cd_ws := cd_mem 76 (by decide +kernel) rfl
set_option maxRecDepth 100000 in
theorem oi_c : Cond.code Lib.objectInit ⟨#[0xb1]⟩ 1 none ∈ cd_ws := cd_mem 77 rfl rfl
theorem cl_C_7 : Cond.classLink "CatDoors" 7 "CatDoors$House" ∈ cd_ws := cd_mem 78 (by decide +kernel) rfl
theorem in_H : Cond.instantiable "CatDoors$House" 9 ∈ cd_ws := cd_mem 79 (by decide +kernel) rfl
theorem it_H : Cond.initialized "CatDoors$House" ∈ cd_ws := cd_mem 56 (by decide +kernel) rfl
theorem cl_H_18 : Cond.classLink "CatDoors$House" 18 "CatDoors$Asking" ∈ cd_ws := cd_mem 84 (by decide +kernel) rfl
theorem cl_H_34 : Cond.classLink "CatDoors$House" 34 "CatDoors$Text" ∈ cd_ws := cd_mem 86 (by decide +kernel) rfl
theorem in_A : Cond.instantiable "CatDoors$Asking" 5 ∈ cd_ws := cd_mem 89 (by decide +kernel) rfl
theorem it_A : Cond.initialized "CatDoors$Asking" ∈ cd_ws := cd_mem 57 (by decide +kernel) rfl
theorem ac_int : Cond.arrayClass (newarray.typeOf .int) ∈ cd_ws := cd_mem 120 (by decide +kernel) rfl
theorem cl_C_26 : Cond.classLink "CatDoors" 26 "CatDoors$Tape" ∈ cd_ws := cd_mem 159 (by decide +kernel) rfl
theorem in_T : Cond.instantiable "CatDoors$Tape" 9 ∈ cd_ws := cd_mem 160 (by decide +kernel) rfl
theorem it_T : Cond.initialized "CatDoors$Tape" ∈ cd_ws := cd_mem 58 (by decide +kernel) rfl
theorem ac_byte : Cond.arrayClass (newarray.typeOf .byte) ∈ cd_ws := cd_mem 195 (by decide +kernel) rfl
theorem cl_C_33 : Cond.classLink "CatDoors" 33 "CatDoors$Sheet" ∈ cd_ws := cd_mem 196 (by decide +kernel) rfl
theorem cl_C_39 : Cond.classLink "CatDoors" 39 "CatDoors$Slot" ∈ cd_ws := cd_mem 198 (by decide +kernel) rfl
theorem in_S : Cond.instantiable "CatDoors$Sheet" 3 ∈ cd_ws := cd_mem 200 (by decide +kernel) rfl
theorem it_S : Cond.initialized "CatDoors$Sheet" ∈ cd_ws := cd_mem 59 (by decide +kernel) rfl
theorem in_L : Cond.instantiable "CatDoors$Slot" 4 ∈ cd_ws := cd_mem 218 (by decide +kernel) rfl
theorem it_L : Cond.initialized "CatDoors$Slot" ∈ cd_ws := cd_mem 60 (by decide +kernel) rfl
theorem cl_L_18 : Cond.classLink "CatDoors$Slot" 18 "CatDoors$Asking" ∈ cd_ws := cd_mem 223 (by decide +kernel) rfl
theorem cl_L_25 : Cond.classLink "CatDoors$Slot" 25 "CatDoors$Sheet" ∈ cd_ws := cd_mem 225 (by decide +kernel) rfl
theorem cl_T_58 : Cond.classLink "CatDoors$Tape" 58 "CatDoors$Text" ∈ cd_ws := cd_mem 706 (by decide +kernel) rfl
theorem in_X : Cond.instantiable "CatDoors$Text" 4 ∈ cd_ws := cd_mem 707 (by decide +kernel) rfl
theorem it_X : Cond.initialized "CatDoors$Text" ∈ cd_ws := cd_mem 62 (by decide +kernel) rfl
theorem cl_W_10 : Cond.classLink "CatDoorsLaw" 10 "CatDoorsModel" ∈ cd_ws := cd_mem 824 (by decide +kernel) rfl
theorem in_M : Cond.instantiable "CatDoorsModel" 33 ∈ cd_ws := cd_mem 825 (by decide +kernel) rfl
theorem it_M : Cond.initialized "CatDoorsModel" ∈ cd_ws := cd_mem 61 (by decide +kernel) rfl
theorem ac_char : Cond.arrayClass (newarray.typeOf .char) ∈ cd_ws := cd_mem 930 (by decide +kernel) rfl
theorem ac_boolean : Cond.arrayClass (newarray.typeOf .boolean) ∈ cd_ws := cd_mem 931 (by decide +kernel) rfl
theorem df_A : ∀ j, j < 5 → defaultValue (cd_t0 j) = cd_ov 0 j (nI 0) none := by
  intro j hj
  rcases (show j = 0 ∨ j = 1 ∨ j = 2 ∨ j = 3 ∨ j = 4 by omega) with rfl | rfl | rfl | rfl | rfl <;> rfl
theorem df_H : ∀ j, j < 9 → defaultValue (cd_t1 j) = cd_ov 1 j (nI 0) none := by
  intro j hj
  rcases (show j = 0 ∨ j = 1 ∨ j = 2 ∨ j = 3 ∨ j = 4 ∨ j = 5 ∨ j = 6 ∨ j = 7 ∨ j = 8 by omega) with rfl | rfl | rfl | rfl | rfl | rfl | rfl | rfl | rfl <;> rfl
theorem df_S : ∀ j, j < 3 → defaultValue (cd_t2 j) = cd_ov 2 j (nI 0) none := by
  intro j hj
  rcases (show j = 0 ∨ j = 1 ∨ j = 2 by omega) with rfl | rfl | rfl <;> rfl
theorem df_L : ∀ j, j < 4 → defaultValue (cd_t3 j) = cd_ov 3 j (nI 0) none := by
  intro j hj
  rcases (show j = 0 ∨ j = 1 ∨ j = 2 ∨ j = 3 by omega) with rfl | rfl | rfl | rfl <;> rfl
theorem df_T : ∀ j, j < 9 → defaultValue (cd_t4 j) = cd_ov 4 j (nI 0) none := by
  intro j hj
  rcases (show j = 0 ∨ j = 1 ∨ j = 2 ∨ j = 3 ∨ j = 4 ∨ j = 5 ∨ j = 6 ∨ j = 7 ∨ j = 8 by omega) with rfl | rfl | rfl | rfl | rfl | rfl | rfl | rfl | rfl <;> rfl
theorem df_X : ∀ j, j < 4 → defaultValue (cd_t5 j) = cd_ov 5 j (nI 0) none := by
  intro j hj
  rcases (show j = 0 ∨ j = 1 ∨ j = 2 ∨ j = 3 by omega) with rfl | rfl | rfl | rfl <;> rfl
theorem df_C : ∀ j, j < 10 → defaultValue (cd_t6 j) = cd_ov 6 j (nI 0) none := by
  intro j hj
  rcases (show j = 0 ∨ j = 1 ∨ j = 2 ∨ j = 3 ∨ j = 4 ∨ j = 5 ∨ j = 6 ∨ j = 7 ∨ j = 8 ∨ j = 9 by omega) with rfl | rfl | rfl | rfl | rfl | rfl | rfl | rfl | rfl | rfl <;> rfl
theorem df_M : ∀ j, j < 33 → defaultValue (cd_t7 j) = cd_ov 7 j (nI 0) none := by
  intro j hj
  rcases (show j = 0 ∨ j = 1 ∨ j = 2 ∨ j = 3 ∨ j = 4 ∨ j = 5 ∨ j = 6 ∨ j = 7 ∨ j = 8 ∨ j = 9 ∨ j = 10 ∨ j = 11 ∨ j = 12 ∨ j = 13 ∨ j = 14 ∨ j = 15 ∨ j = 16 ∨ j = 17 ∨ j = 18 ∨ j = 19 ∨ j = 20 ∨ j = 21 ∨ j = 22 ∨ j = 23 ∨ j = 24 ∨ j = 25 ∨ j = 26 ∨ j = 27 ∨ j = 28 ∨ j = 29 ∨ j = 30 ∨ j = 31 ∨ j = 32 by omega) with rfl | rfl | rfl | rfl | rfl | rfl | rfl | rfl | rfl | rfl | rfl | rfl | rfl | rfl | rfl | rfl | rfl | rfl | rfl | rfl | rfl | rfl | rfl | rfl | rfl | rfl | rfl | rfl | rfl | rfl | rfl | rfl | rfl <;> rfl
