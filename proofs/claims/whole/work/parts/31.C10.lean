theorem ac_n : Cond.native arraycopyName ∈ cd_ws := cd_mem 454 (by decide +kernel) rfl
theorem ac_s : Cond.static arraycopyName ∈ cd_ws := cd_mem 453 (by decide +kernel) rfl
theorem ac_i : Cond.initialized "java/lang/System" ∈ cd_ws := cd_mem 64 (by decide +kernel) rfl
/-- a reference of a row of references is another -/
def cd_sr (S : cd_Sp) (a j v : Nat) : cd_Sp := (S.1, S.2.1, fun b => if b = a then va_up (S.2.2 a) j (some v) else S.2.2 b)
theorem cd_av_rf {t : Nat} (ht : t < 8) (ht4 : 4 ≤ t) (i : Int32) (r : Option Nat) : cd_av t i r = va_rf r := by
  rcases (show t = 4 ∨ t = 5 ∨ t = 6 ∨ t = 7 by omega) with rfl | rfl | rfl | rfl <;> rfl
section CDAC
variable {l : Launch} {w : cd_WT} {X : cd_XT} {cc : ByteArray} {own : String} {d mc ms : Nat} {k n : Nat} {S : cd_Sp} {I : cd_Mem} {pc pc' tgt : Nat} {lv : List (Option Value)} {st : List Value} {nL : Nat} {rt : Option FieldType} {nm : String} {post : cd_Pt}
theorem r_copy (hO : cd_O w X cc own d mc ms l) (hE : cd_E w X nL rt mc ms nm post) {a0 a N0 N1 sp dp q index : Nat} (hlk : Cond.methodLink own index arraycopyName ∈ cd_ws) (hs0 : S.2.1 a0 = (2, N0)) (hs1 : S.2.1 a = (2, N1)) (ha : w.1 ≤ a) (h4 : sp + q ≤ N0) (h5 : dp + q ≤ N1) (hN0 : N0 < 2 ^ 31) (hN1 : N1 < 2 ^ 31) (hdd : 1 ≤ d) (hlv : lv.length = nL) (hcat : (st.map fun v => v.category).sum ≤ 8) (hd : cd_D 3 cc pc (.invokestatic index) pc') (kk : cd_J w X k n S (cd_set I a (va_cpy (I a0) (I a) sp dp q)) pc' lv st) : cd_J w X k n S I pc lv (.int (nI q) :: .int (nI dp) :: .ref a :: .int (nI sp) :: .ref a0 :: st) := by
  intro H ls locs hR hL hq
  obtain ⟨hd, rfl⟩ := hd
  have hc0 : H[a0]? = some (arrV (w.2.2.2.1 0) N0 (fun j => .int (I a0 j))) := cd_arr (t := 0) hR hs0
  have hc1 : H[a]? = some (arrV (w.2.2.2.1 0) N1 (fun j => .int (I a j))) := cd_arr (t := 0) hR hs1
  have hA : ArrOfT X.2.2.2.2.1 (w.2.2.2.1 0) .int := (hO.2.2.2.2.1.1.2 0 _ (cd_tys_at w (by decide : 0 < 8))).1
  have hws := hO.2.2.2.1
  have hf := hO.2.2.2.2.2.1
  have hl := hO.2.2.2.2.2.2.1
  intro T hT Y
  obtain ⟨-, k0, hk0, cm0, hkk0⟩ := hA N0 (fun j => .int (I a0 j))
  obtain ⟨-, k1, hk1, cm1, hkk1⟩ := hA N1 (fun j => .int (I a j))
  have t0 := nI_toInt (n := sp) (by omega)
  have t1 := nI_toInt (n := dp) (by omega)
  have t2 := nI_toInt (n := q) (by omega)
  have u0 := nI_clamp (n := sp) (by omega)
  have u1 := nI_clamp (n := dp) (by omega)
  have u2 := nI_clamp (n := q) (by omega)
  obtain ⟨vm', Y', step⟩ := Y.arraycopy hO.1 hO.2.2.1 (hws _ hlk) (hws _ ac_n) (hws _ ac_s) (hws _ ac_i) (src := a0) (dst := a) (srcPos := nI sp) (destPos := nI dp) (n := nI q) (by rw [hT]; exact hc0) (by rw [hT]; exact hc1)
    (fun _ h => by cases h) (fun _ h => by cases h) (fun h => by cases h) (fun h => by cases h) hk0 hk1 hkk0 hkk1 (by decide) (nI_pos (by omega)) (nI_pos (by omega)) (nI_pos (by omega))
    (by rw [t0, t2]; show ¬ _ > ((arrV _ N0 (fun j => .int (I a0 j))).slots.size : Int); rw [arrV_size]; omega)
    (by rw [t1, t2]; show ¬ _ > ((arrV _ N1 (fun j => .int (I a j))).slots.size : Int); rw [arrV_size]; omega)
    (fun vm₁ _ i hi => by
      rw [u2] at hi
      rw [u0]
      have e : (arrV (w.2.2.2.1 0) N0 (fun j => .int (I a0 j))).slots.getD (sp + i) .null = .int (I a0 (sp + i)) := by
        rw [Array.getD_eq_getD_getElem?, arrV_read _ _ (by omega)]
        rfl
      refine ⟨?_, ?_⟩
      · rw [e]
        rfl
      · rw [e]
        exact trivial)
    (g := F0 X.2.2.2.2.2.1 pc ls (.int (nI q) :: .int (nI dp) :: .ref a :: .int (nI sp) :: .ref a0 :: st)) rfl (by rw [hE.1, ← hlv]; exact hL.1) (rest := st) rfl (by rw [hO.2.1]; exact hd) (by omega) (by
      show 2 * 0 + _ + (7 + 11) ≤ _
      omega)
  have e1 : copied (arrV (w.2.2.2.1 0) N0 (fun j => .int (I a0 j))) (arrV (w.2.2.2.1 0) N1 (fun j => .int (I a j))) (nI sp) (nI dp) (nI q) = arrV (w.2.2.2.1 0) N1 (fun j => .int (va_cpy (I a0) (I a) sp dp q j)) := by
    have := va_copied (fun z => .int z) (w.2.2.2.1 0) (w.2.2.2.1 0) (n0 := N0) (n1 := N1) (sp := sp) (dp := dp) (n := q) (I a0) (I a) h4
    unfold copied
    rw [u0, u1, u2]
    exact this
  rw [e1] at Y' step
  have hsz : a < H.size := (Array.getElem?_eq_some_iff.mp hc1).1
  have hheap : ((T.setVm vm').setCell a (arrV (w.2.2.2.1 0) N1 (fun j => .int (va_cpy (I a0) (I a) sp dp q j)))).heap = H.setIfInBounds a (arrV (w.2.2.2.1 0) N1 (fun j => .int (va_cpy (I a0) (I a) sp dp q j))) := by rw [← hT]; rfl
  have hR' : cd_R w S (cd_set I a (va_cpy (I a0) (I a) sp dp q)) (H.setIfInBounds a (arrV (w.2.2.2.1 0) N1 (fun j => .int (va_cpy (I a0) (I a) sp dp q j)))) := by
    refine ⟨fun b => ?_, by simp; exact hR.2.1, fun z hz => by rw [← hR.2.2 z hz]; simp [Array.getElem?_setIfInBounds, show a ≠ z by omega]⟩
    by_cases hb : b = a
    · subst hb
      unfold cd_cell
      rw [hs1, cd_set_eq]
      show (H.setIfInBounds b _)[b]? = _
      simp [Array.getElem?_setIfInBounds, hsz]
      rfl
    · exact cd_cell_kept (hR.1 b) rfl rfl (cd_set_ne _ _ hb) (fun _ => by simp [Array.getElem?_setIfInBounds, Ne.symm hb])
  obtain ⟨t, g1, g2⟩ := kk _ ls _ hR' hL (fun z hz => by
    rcases List.mem_append.mp hz with h | h
    · exact hq z h
    · obtain ⟨y, -, hy⟩ := List.mem_map.mp h
      rw [← hy]
      exact ha) _ hheap Y'
  exact ⟨t, step t g1, g2⟩
theorem r_aast (hO : cd_O w X cc own d mc ms l) {a j N t v c : Nat} {r : vw_C} (hs : S.2.1 a = (t + 2, N)) (ht : t < 8) (ht4 : 4 ≤ t) (hty : cd_aty t = .object r.1) (hcl : cd_cls[c]? = some r) (hv : S.2.1 v = (1, c)) (ha : w.1 ≤ a) (hj : j < N) (hN : N < 2 ^ 31) (hd : cd_D 1 cc pc .aastore pc') (kk : cd_J w X k n (cd_sr S a j v) I pc' lv st) : cd_J w X k n S I pc lv (.ref v :: .int (nI j) :: .ref a :: st) := by
  intro H ls locs hR hL hq
  obtain ⟨hd, rfl⟩ := hd
  obtain ⟨r', hr', cellV, g1, g2, g3, -⟩ := cd_obj hR hv
  have er : r' = r := Option.some.inj (hr'.symm.trans hcl)
  subst er
  have hcls := (hO.2.2.2.2.1.1.1 c _ hcl).2
  have hAA := hO.2.2.2.2.1.1.2 t _ (cd_tys_at w ht)
  have hav := cd_av_rf ht ht4
  obtain ⟨kA, comp, k1, k2, k3, -⟩ := (show va_RA _ _ (.object _) from hty ▸ hAA.2)
  have hcomp : comp = w.2.2.1.1 c := Option.some.inj (k3.symm.trans hcls.1)
  subst hcomp
  obtain ⟨kC, hkC, -⟩ := hcls.2
  have u0 := nI_clamp (n := j) (by omega)
  refine W.aast hO.1 hO.2.1 (cd_arr hR hs) (fun q h => by cases h) (fun h => by cases h) k1 k2 rfl hkC ⟨nI_pos (by omega), by rw [arrV_size, u0]; exact hj⟩ g1 (fun q h => by rw [g3] at h; cases h) (by rw [g2]; exact hkC) (by rw [g2]; exact va_assign hcls) rfl rfl hd fun H1 e z oq => ?_
  rw [u0] at e ⊢
  refine kk H1 ls _ ⟨fun b => ?_, by rw [z]; exact hR.2.1, fun q hq => (oq q (Nat.ne_of_lt (Nat.lt_of_lt_of_le hq ha))).trans (hR.2.2 q hq)⟩ hL (fun q hq2 => (List.mem_append.mp hq2).elim (hq q) (fun h => by rw [List.mem_singleton.mp h]; exact ha))
  by_cases hb : b = a
  · subst hb
    have hs' : (cd_sr S b j v).2.1 b = (t + 2, N) := hs
    unfold cd_cell
    rw [hs']
    show H1[b]? = _
    rw [e, arrV_store]
    congr 2
    funext i
    have e5 : (cd_sr S b j v).2.2 b = va_up (S.2.2 b) j (some v) := if_pos rfl
    rw [e5]
    by_cases hi : i = j
    · subst hi
      simp [updV, va_up, hav, va_rf]
    · simp [updV, va_up, hav, hi]
  · exact cd_cell_kept (hR.1 b) rfl (if_neg hb) rfl (fun _ => oq b hb)
end CDAC
