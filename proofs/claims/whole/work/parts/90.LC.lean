theorem px_arrP {s : State} {args : Array Value} {ty : FieldType} (h : (Cond.arrayClass ty).before args s = true) : ∃ cA, ArrOfT s cA ty ∧ s.vm.findClass ("[" ++ ty.toString) = some cA := by
  obtain ⟨cA, kA, comp, h1, h2, h3⟩ := Cond.arrayClass_spec h
  exact ⟨cA, fun n z => ⟨fun k h => (by cases h), kA, h2, comp, h3⟩, h1⟩
theorem px_arrO {s : State} {C : String} (h : va_AO C s) : ∃ cA, ArrOfT s cA (.object C) ∧ va_RA s cA (.object C) := by
  obtain ⟨comp, c, k, h1, h2, h3, h4, h5⟩ := Cond.arrayOver_spec h
  exact ⟨c, fun n z => ⟨fun k h => (by cases h), k, h3, comp, h4⟩, k, comp, h3, h4, h1, h5⟩
theorem pz_el : ∀ i, i < 5 → ∀ j, j < cd_sl i → Cond.eq (.elem (.static "CatDoors" (cd_sn i) "[I") (.int (Int32.ofNat j))) (.int ((cd_sv i).getD j 0)) ∈ flatC (Jvm.Cond.and given_1 narrow_1) := by decide +kernel
theorem pz_ea : ∀ i, i < 5 → Cond.arrayOf (.static "CatDoors" (cd_sn i) "[I") .int ∈ flatC (Jvm.Cond.and given_1 narrow_1) := by decide +kernel
theorem pz_en : ∀ i, i < 5 → Cond.eq (.length (.static "CatDoors" (cd_sn i) "[I")) (.int (Int32.ofNat (cd_sl i))) ∈ flatC (Jvm.Cond.and given_1 narrow_1) := by decide +kernel
theorem pz_ey : ∀ i, i < 5 → Cond.laysStatic "CatDoors" (cd_sn i) "[I" ∈ lw_tbl := by decide +kernel
theorem pz_se : ∀ i, i < 6 → Cond.exactly (.string "CatDoors$Tape" (cd_ti i)) "java/lang/String" ∈ flatC (Jvm.Cond.and given_1 narrow_1) := by decide +kernel
theorem pz_sc : ∀ i, i < 6 → Cond.eq (.field (.string "CatDoors$Tape" (cd_ti i)) "java/lang/String" "coder" "B") (.int 0) ∈ flatC (Jvm.Cond.and given_1 narrow_1) := by decide +kernel
theorem pz_sa : ∀ i, i < 6 → Cond.arrayOf (.field (.string "CatDoors$Tape" (cd_ti i)) "java/lang/String" "value" "[B") .byte ∈ flatC (Jvm.Cond.and given_1 narrow_1) := by decide +kernel
theorem pz_sn : ∀ i, i < 6 → Cond.eq (.length (.field (.string "CatDoors$Tape" (cd_ti i)) "java/lang/String" "value" "[B")) (.int (Int32.ofNat (cd_tl.getD i 0))) ∈ flatC (Jvm.Cond.and given_1 narrow_1) := by decide +kernel
theorem pz_sl : ∀ i, i < 6 → ∀ j, j < cd_tl.getD i 0 → Cond.eq (.elem (.field (.string "CatDoors$Tape" (cd_ti i)) "java/lang/String" "value" "[B") (.int (Int32.ofNat j))) (.int ((cd_tb.getD i []).getD j 0)) ∈ flatC (Jvm.Cond.and given_1 narrow_1) := by decide +kernel
theorem pz_sd : ∀ i, i < 6 → ∀ j, j < 6 → i ≠ j → Cond.not (Cond.eq (.string "CatDoors$Tape" (cd_ti i)) (.string "CatDoors$Tape" (cd_ti j))) ∈ flatC (Jvm.Cond.and given_1 narrow_1) ∨ Cond.not (Cond.eq (.string "CatDoors$Tape" (cd_ti j)) (.string "CatDoors$Tape" (cd_ti i))) ∈ flatC (Jvm.Cond.and given_1 narrow_1) := by decide +kernel
theorem pz_sr : ∀ i, i < 6 → Cond.stringRef "CatDoors$Tape" (cd_ti i) (cd_tx i) ∈ lw_tbl := by decide +kernel
theorem pz_nf : ∀ q ∈ cd_nf, Cond.fieldLinkNest q.1 q.2.1 q.2.2.1 q.2.2.2.1 q.2.2.2.2.1 q.2.2.2.2.2 ∈ lw_tbl := by decide +kernel
theorem pz_nn : ∀ q ∈ cd_nn, Cond.methodLinkNest q.1 q.2.1 q.2.2.1 q.2.2.2 ∈ lw_tbl := by decide +kernel
theorem pz_ao : ∀ i, i < 4 → Cond.arrayOver (.object (cd_oc i)) ∈ lw_tbl := by decide +kernel
theorem pz_cs : Cond.laysStatic "java/lang/String" "COMPACT_STRINGS" "Z" ∈ lw_tbl ∧ Cond.initialized "java/lang/String" ∈ lw_tbl ∧ Cond.eq (.static "java/lang/String" "COMPACT_STRINGS" "Z") (.int 1) ∈ flatC (Jvm.Cond.and given_1 narrow_1) := by decide +kernel
theorem pz_sf : Cond.laysStatic "jdk/internal/util/Preconditions" "SIOOBE_FORMATTER" "Ljava/util/function/BiFunction;" ∈ lw_tbl ∧ Cond.initialized "jdk/internal/util/Preconditions" ∈ lw_tbl ∧ Cond.isRef (.static "jdk/internal/util/Preconditions" "SIOOBE_FORMATTER" "Ljava/util/function/BiFunction;") ∈ flatC (Jvm.Cond.and given_1 narrow_1) := by decide +kernel
/-- what the start gives -/
theorem pz_K0 {s : State} {b : Nat} (hts : ∀ w ∈ lw_tbl, w.before #[Value.ref b] s = true) (hg : (Jvm.Cond.and given_1 narrow_1).before #[Value.ref b] s = true) : ∃ w : cd_WT, w.1 = s.heap.size ∧ w.2.1 = s.heap ∧ cd_K w s := by
  have hf := flat_of_before _ hg
  have hw : ∀ q ∈ cd_ws, q.before #[Value.ref b] s = true := fun q hq => hts q (List.mem_filter.mp hq).1
  obtain ⟨c0, i0, K0⟩ := u_known hw cd_in0 (hw _ in_A)
  obtain ⟨c1, i1, K1⟩ := u_known hw cd_in1 (hw _ in_H)
  obtain ⟨c2, i2, K2⟩ := u_known hw cd_in2 (hw _ in_S)
  obtain ⟨c3, i3, K3⟩ := u_known hw cd_in3 (hw _ in_L)
  obtain ⟨c4, i4, K4⟩ := u_known hw cd_in4 (hw _ in_T)
  obtain ⟨c5, i5, K5⟩ := u_known hw cd_in5 (hw _ in_X)
  obtain ⟨c6, i6, K6⟩ := u_known hw cd_in6 (hw _ in_C)
  obtain ⟨c7, i7, K7⟩ := u_known hw cd_in7 (hw _ in_M)
  obtain ⟨a0, A0, B0⟩ := px_arrP (hw _ ac_int)
  obtain ⟨a1, A1, B1⟩ := px_arrP (hw _ ac_byte)
  obtain ⟨a2, A2, B2⟩ := px_arrP (hw _ ac_char)
  obtain ⟨a3, A3, B3⟩ := px_arrP (hw _ ac_boolean)
  obtain ⟨a4, A4, B4⟩ := px_arrO (C := cd_oc 0) (va_AO.of (hts _ (pz_ao 0 (by decide))))
  obtain ⟨a5, A5, B5⟩ := px_arrO (C := cd_oc 1) (va_AO.of (hts _ (pz_ao 1 (by decide))))
  obtain ⟨a6, A6, B6⟩ := px_arrO (C := cd_oc 2) (va_AO.of (hts _ (pz_ao 2 (by decide))))
  obtain ⟨a7, A7, B7⟩ := px_arrO (C := cd_oc 3) (va_AO.of (hts _ (pz_ao 3 (by decide))))
  have hA : ∀ a : Nat, a < s.heap.size → ¬ (s.heap.size ≤ a) := fun a ha => Nat.not_le.mpr ha
  have hst : ∀ i : Nat, ∃ t : Nat, i < 5 → va_Z "CatDoors" (cd_sn i) "[I" (.ref t) (fun q => s.heap.size ≤ q) s s.heap ∧ va_T .int t (cd_sl i) (fun j => .int ((cd_sv i).getD j 0)) (fun q => s.heap.size ≤ q) s s.heap := by
    intro i
    by_cases hi : i < 5
    · have hsl : cd_sl i < 2 ^ 31 := Nat.lt_of_lt_of_le (show cd_sl i < 100 by unfold cd_sl; split <;> decide) (by decide)
      obtain ⟨t, ht, hT⟩ := va_Tof (f := fun j => .int ((cd_sv i).getD j 0)) (A := fun q => s.heap.size ≤ q) hsl (hf _ (pz_ea i hi)) (va_eqt (hf _ (pz_en i hi))) (fun j hj => va_eqt (hf _ (pz_el i hi j hj))) hA
      exact ⟨t, fun _ => ⟨va_Zref (hts _ (pz_ey i hi)) (hw _ it_C) ht hA, hT⟩⟩
    · exact ⟨0, fun h => absurd h hi⟩
  obtain ⟨st, hst⟩ := Classical.axiomOfChoice hst
  obtain ⟨ks, vs, hS, hE⟩ := vk_Sof (N := 6) (tm := fun i => .string "CatDoors$Tape" (cd_ti i)) (len := cd_tl) (byt := cd_tb) (A := fun q => s.heap.size ≤ q) (by decide) (fun i hi => hf _ (pz_se i hi)) (fun i hi => hf _ (pz_sc i hi)) (fun i hi => hf _ (pz_sa i hi)) (fun i hi => hf _ (pz_sn i hi)) (fun i hi j hj => hf _ (pz_sl i hi j hj)) (fun i j hi hj e => (pz_sd i hi j hj e).imp (hf _) (hf _)) hA
  have hsf : ∃ v : Value, v.category = 1 ∧ va_Z "jdk/internal/util/Preconditions" "SIOOBE_FORMATTER" "Ljava/util/function/BiFunction;" v (fun q => s.heap.size ≤ q) s s.heap := by
    rcases va_Zqof (hts _ pz_sf.1) (hts _ pz_sf.2.1) (hf _ pz_sf.2.2) hA with h | ⟨t, h⟩
    · exact ⟨_, rfl, h⟩
    · exact ⟨_, rfl, h⟩
  refine ⟨(s.heap.size, s.heap, (fun c => [c0, c1, c2, c3, c4, c5, c6, c7].getD c c0, fun c => [i0, i1, i2, i3, i4, i5, i6, i7].getD c i0), fun t => [a0, a1, a2, a3, a4, a5, a6, a7].getD t a0, st, ks, vs), rfl, rfl, ⟨?_, ?_⟩, ⟨hst, hS, fun i hi => vk_R.of (hts _ (pz_sr i hi)) (hE i hi), va_Zof (hts _ pz_cs.1) (hts _ pz_cs.2.1) (va_eqt (hf _ pz_cs.2.2)) hA, hsf⟩, rfl, fun q hq => va_Nw.of rfl (hts _ (pz_nf q hq)), fun q hq => va_Nw.of rfl (hts _ (pz_nn q hq)), fun i hi => va_AO.of (hts _ (pz_ao i hi))⟩
  · intro c q hq
    rcases (show c = 0 ∨ c = 1 ∨ c = 2 ∨ c = 3 ∨ c = 4 ∨ c = 5 ∨ c = 6 ∨ c = 7 ∨ 8 ≤ c by omega) with rfl | rfl | rfl | rfl | rfl | rfl | rfl | rfl | h
    · have e := Option.some.inj hq
      subst e
      exact K0
    · have e := Option.some.inj hq
      subst e
      exact K1
    · have e := Option.some.inj hq
      subst e
      exact K2
    · have e := Option.some.inj hq
      subst e
      exact K3
    · have e := Option.some.inj hq
      subst e
      exact K4
    · have e := Option.some.inj hq
      subst e
      exact K5
    · have e := Option.some.inj hq
      subst e
      exact K6
    · have e := Option.some.inj hq
      subst e
      exact K7
    · rw [List.getElem?_eq_none (show cd_cls.length ≤ c from h)] at hq
      cases hq
  · intro k q hq
    rcases (show k = 0 ∨ k = 1 ∨ k = 2 ∨ k = 3 ∨ k = 4 ∨ k = 5 ∨ k = 6 ∨ k = 7 ∨ 8 ≤ k by omega) with rfl | rfl | rfl | rfl | rfl | rfl | rfl | rfl | h
    · have e := Option.some.inj hq
      subst e
      exact ⟨A0, B0⟩
    · have e := Option.some.inj hq
      subst e
      exact ⟨A1, B1⟩
    · have e := Option.some.inj hq
      subst e
      exact ⟨A2, B2⟩
    · have e := Option.some.inj hq
      subst e
      exact ⟨A3, B3⟩
    · have e := Option.some.inj hq
      subst e
      exact ⟨A4, B4⟩
    · have e := Option.some.inj hq
      subst e
      exact ⟨A5, B5⟩
    · have e := Option.some.inj hq
      subst e
      exact ⟨A6, B6⟩
    · have e := Option.some.inj hq
      subst e
      exact ⟨A7, B7⟩
    · rw [List.getElem?_eq_none (show 8 ≤ k from h)] at hq
      cases hq
