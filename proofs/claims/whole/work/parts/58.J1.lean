section CDS
variable {l : Launch} {w : cd_WT} {X : cd_XT} {cc : ByteArray} {own : String} {d mc ms : Nat} {k n : Nat} {S : cd_Sp} {I : cd_Mem} {pc pc' tgt : Nat} {lv : List (Option Value)} {st : List Value} {nL : Nat} {rt : Option FieldType} {nm : String} {post : cd_Pt}
theorem r_nret (hO : cd_O w X cc own d mc ms l) {ty : FieldType} (hE : cd_E w X nL (some ty) mc ms nm post) {v : Int32} (hv : narrow ty (.int v) = .int v) (hk : k ≤ mc) (hn : n ≤ ms) (hd : cd_D 1 cc pc .ireturn pc') (hp : post (some (.int v)) S I) : cd_J w X k n S I pc lv [.int v] := by
  intro H ls locs hR hL hq
  rw [hE.2.2.2.2]
  refine W.widen hk hn ?_
  exact W.zret hO.1 hO.2.1 hE.2.1 hv (fun t ht _ => ⟨_, S, I, rfl, hp, by rw [ht]; exact hR⟩) hq hd.1 hE.2.2.1
theorem r_ldcS (hO : cd_O w X cc "CatDoors$Tape" d mc ms l) {i : Nat} (hi : i < 6) (hd : cd_D 2 cc pc (.ldc (cd_ti i)) pc') (kk : cd_J w X k n S I pc' lv (.ref (w.2.2.2.2.2.1 i) :: st)) : cd_J w X k n S I pc lv st := by
  intro H ls locs hR hL hq
  obtain ⟨hd, rfl⟩ := hd
  exact va_ldcS hO.1 hO.2.1 hO.2.2.1 (hO.2.2.2.2.1.2.1.2.2.1 i hi) hd (kk H ls locs hR hL hq)
theorem r_getSv (hO : cd_O w X cc own d mc ms l) {i index : Nat} (hi : i < 6) (hlk : Cond.fieldLink own index "java/lang/String" "value" "[B" ∈ cd_ws) (hd : cd_D 3 cc pc (.getfield index) pc') (kk : cd_J w X k n S I pc' lv (.ref (w.2.2.2.2.2.2 i) :: st)) : cd_J w X k n S I pc lv (.ref (w.2.2.2.2.2.1 i) :: st) := by
  intro H ls locs hR hL hq
  obtain ⟨hd, rfl⟩ := hd
  obtain ⟨cf, kf, fi, f, cell, h1, h2, h3, h4, h5, h6⟩ := (hO.2.2.2.2.1.2.1.2.1.1 i hi).2.2.1
  exact W.getf hO.1 hO.2.1 hO.2.2.1 (hO.2.2.2.1 _ hlk) h1 h2 (by rw [hR.2.2 _ (Nat.not_le.mp h6)]; exact h3) h4 (v := .ref (w.2.2.2.2.2.2 i)) h5 rfl rfl hd (kk H ls locs hR hL hq)
theorem r_getSc (hO : cd_O w X cc own d mc ms l) {i index : Nat} (hi : i < 6) (hlk : Cond.fieldLink own index "java/lang/String" "coder" "B" ∈ cd_ws) (hd : cd_D 3 cc pc (.getfield index) pc') (kk : cd_J w X k n S I pc' lv (.int 0 :: st)) : cd_J w X k n S I pc lv (.ref (w.2.2.2.2.2.1 i) :: st) := by
  intro H ls locs hR hL hq
  obtain ⟨hd, rfl⟩ := hd
  obtain ⟨cf, kf, fi, f, cell, h1, h2, h3, h4, h5, h6⟩ := (hO.2.2.2.2.1.2.1.2.1.1 i hi).2.1
  exact W.getf hO.1 hO.2.1 hO.2.2.1 (hO.2.2.2.1 _ hlk) h1 h2 (by rw [hR.2.2 _ (Nat.not_le.mp h6)]; exact h3) h4 (v := .int 0) h5 rfl rfl hd (kk H ls locs hR hL hq)
theorem r_getsC (hO : cd_O w X cc own d mc ms l) {index : Nat} (hlk : Cond.fieldLink own index "java/lang/String" "COMPACT_STRINGS" "Z" ∈ cd_ws) (hd : cd_D 3 cc pc (.getstatic index) pc') (kk : cd_J w X k n S I pc' lv (.int 1 :: st)) : cd_J w X k n S I pc lv st := by
  intro H ls locs hR hL hq
  obtain ⟨hd, rfl⟩ := hd
  obtain ⟨cf, kf, fi, f, a, cell, h1, h2, h3, h4, h5, h6, h7, h8⟩ := hO.2.2.2.2.1.2.1.2.2.2.1
  exact W.gets hO.1 hO.2.1 hO.2.2.1 (hO.2.2.2.1 _ hlk) h1 h2 h3 h4 (by rw [hR.2.2 _ (Nat.not_le.mp h8)]; exact h5) (fun e => by rw [e] at h6; cases h6) h7 rfl hd (kk H ls locs hR hL hq)
theorem r_getsF (hO : cd_O w X cc own d mc ms l) {index : Nat} (hlk : Cond.fieldLink own index "jdk/internal/util/Preconditions" "SIOOBE_FORMATTER" "Ljava/util/function/BiFunction;" ∈ cd_ws) (hd : cd_D 3 cc pc (.getstatic index) pc') (kk : ∀ v : Value, v.category = 1 → cd_J w X k n S I pc' lv (v :: st)) : cd_J w X k n S I pc lv st := by
  intro H ls locs hR hL hq
  obtain ⟨hd, rfl⟩ := hd
  obtain ⟨v, hv, cf, kf, fi, f, a, cell, h1, h2, h3, h4, h5, h6, h7, h8⟩ := hO.2.2.2.2.1.2.1.2.2.2.2
  exact W.gets hO.1 hO.2.1 hO.2.2.1 (hO.2.2.2.1 _ hlk) h1 h2 h3 h4 (by rw [hR.2.2 _ (Nat.not_le.mp h8)]; exact h5) (fun e => by rw [e] at h6; cases h6) h7 rfl hd (kk v hv H ls locs hR hL hq)
theorem r_bSt (hO : cd_O w X cc own d mc ms l) {i j : Nat} (hi : i < 6) (hj : j < cd_tl.getD i 0) (hd : cd_D 1 cc pc .baload pc') (kk : cd_J w X k n S I pc' lv (.int ((cd_tb.getD i []).getD j 0) :: st)) : cd_J w X k n S I pc lv (.int (nI j) :: .ref (w.2.2.2.2.2.2 i) :: st) := by
  intro H ls locs hR hL hq
  obtain ⟨hd, rfl⟩ := hd
  obtain ⟨cell, h1, h2, h3, h4, -, h6, h7⟩ := (hO.2.2.2.2.1.2.1.2.1.1 i hi).2.2.2
  have hsl : ∀ i, i < 6 → cd_tl.getD i 0 < 100 := by decide
  have hs := hsl i hi
  exact W.bald (v := .int ((cd_tb.getD i []).getD j 0)) hO.1 hO.2.1 (by rw [hR.2.2 _ (Nat.not_le.mp h7)]; exact h1) h2 h3 (fun q => q.elim (nI_pos (by omega)) (fun h => by rw [nI_clamp (by omega)] at h; omega)) (by rw [nI_clamp (by omega)]; exact h6 j hj) rfl rfl hd (kk H ls locs hR hL hq)
theorem r_alenS (hO : cd_O w X cc own d mc ms l) {i : Nat} (hi : i < 6) (hd : cd_D 1 cc pc .arraylength pc') (kk : cd_J w X k n S I pc' lv (.int (nI (cd_tl.getD i 0)) :: st)) : cd_J w X k n S I pc lv (.ref (w.2.2.2.2.2.2 i) :: st) := by
  intro H ls locs hR hL hq
  obtain ⟨hd, rfl⟩ := hd
  obtain ⟨cell, h1, h2, h3, h4, h5, h6, h7⟩ := (hO.2.2.2.2.1.2.1.2.1.1 i hi).2.2.2
  exact W.alen (n := nI (cd_tl.getD i 0)) hO.1 hO.2.1 (by rw [hR.2.2 _ (Nat.not_le.mp h7)]; exact h1) h2 (by rw [h5] <;> rfl) rfl rfl hd (kk H ls locs hR hL hq)
theorem cd_callVS (hO : cd_O w X cc own d mc ms l) (hml : X.2.2.2.2.2.2.2.2.2.1.maxLocals = nL) {m : cd_MT} {np d' mc' ms' index i : Nat} {As rest st0 : List Value} {post' : cd_Pt} (hi : i < 6) (hc : cd_C l w m d' mc' ms' (.ref (w.2.2.2.2.2.1 i) :: As) S I post') (hm : cd_MV m np) (hlk : Cond.methodLink own index m.1 ∈ cd_ws) (hcl : m.1.cls = "java/lang/String") (hdd : d' + 1 ≤ d) (hnp : As.length = np) (hlv : lv.length = nL) (hst : st0 = As.reverse ++ .ref (w.2.2.2.2.2.1 i) :: rest) (hcat : (rest.map fun v => v.category).sum ≤ 8) (hd : cd_D 3 cc pc (.invokevirtual index) pc') (hf : k + mc' ≤ mc ∧ n + ms' ≤ ms)
    (kk : ∀ (r : Option Value) (S' : cd_Sp) (I' : cd_Mem), post' r S' I' → cd_J w X (k + mc') (n + ms') S' I' pc' lv (r.toList ++ rest)) : cd_J w X k n S I pc lv st0 := by
  intro H ls locs hR hL hq
  obtain ⟨hd, rfl⟩ := hd
  have hl9 := hO.2.2.2.2.2.2.2.2.2
  unfold cd_C at hc
  rw [← hl9] at hc
  have hcell : ∃ cellB : Cell, H[w.2.2.2.2.2.1 i]? = some cellB ∧ cellB.vm.isStatics = false ∧ X.2.2.2.2.1.vm.findClass m.1.cls = some cellB.cls := by
    obtain ⟨cell, q1, q2, q3, q4⟩ := (hO.2.2.2.2.1.2.1.2.1.1 i hi).1
    exact ⟨cell, by rw [hR.2.2 _ (Nat.not_le.mp q4)]; exact q1, q2, by rw [hcl]; exact q3⟩
  refine cd_after (a := #[]) hR hL hq (va_runV (C := m.1.cls) (n := np) (As := As) (rest := rest) (b := w.2.2.2.2.2.1 i) ⟨hO.1, hO.2.1, hml, hO.2.2.1, hO.2.2.2.1⟩ hc ⟨cd_callB hO hm.1 hlk hdd, hO.2.2.2.1 _ hm.2.1, hO.2.2.2.1 _ hm.2.2⟩ ⟨cd_blind, hcell, fun U hU hW => ⟨rfl, by rw [hU]; exact hR, hO.2.2.2.2.1.warm hW⟩⟩ rfl hnp (hL.1.trans hlv) hst (lv_room hcat) hd ⟨Nat.le_trans hf.1 hO.2.2.2.2.2.2.2.1, Nat.le_trans hf.2 hO.2.2.2.2.2.2.2.2.1⟩) kk
theorem r_cVS0fi (hO : cd_O w X cc own d mc ms l) (hE : cd_E w X nL rt mc ms nm post) {m : cd_MT} {d' index i : Nat} {x : Int32} {J : cd_Mem} (hi : i < 6) (hc : cd_C l w m d' 0 0 (.ref (w.2.2.2.2.2.1 i) :: []) S I (cd_Fi S x J)) (hm : cd_MV m 0) (hlk : Cond.methodLink own index m.1 ∈ cd_ws) (hcl : m.1.cls = "java/lang/String") (hdd : d' + 1 ≤ d) (hlv : lv.length = nL) (hcat : (st.map fun v => v.category).sum ≤ 8) (hd : cd_D 3 cc pc (.invokevirtual index) pc') (hk : k ≤ mc) (hn : n ≤ ms) (kk : cd_J w X k n S J pc' lv (.int x :: st)) : cd_J w X k n S I pc lv (.ref (w.2.2.2.2.2.1 i) :: st) :=
  cd_callVS hO hE.1 hi hc hm hlk hcl hdd rfl hlv rfl hcat hd ⟨hk, hn⟩ (fun r S' I' h => by obtain ⟨rfl, rfl, rfl⟩ := h; exact kk)
theorem r_cVS1fi (hO : cd_O w X cc own d mc ms l) (hE : cd_E w X nL rt mc ms nm post) {m : cd_MT} {d' index i : Nat} {v1 : Value} {x : Int32} {J : cd_Mem} (hi : i < 6) (hc : cd_C l w m d' 0 0 (.ref (w.2.2.2.2.2.1 i) :: [v1]) S I (cd_Fi S x J)) (hm : cd_MV m 1) (hlk : Cond.methodLink own index m.1 ∈ cd_ws) (hcl : m.1.cls = "java/lang/String") (hdd : d' + 1 ≤ d) (hlv : lv.length = nL) (hcat : (st.map fun v => v.category).sum ≤ 8) (hd : cd_D 3 cc pc (.invokevirtual index) pc') (hk : k ≤ mc) (hn : n ≤ ms) (kk : cd_J w X k n S J pc' lv (.int x :: st)) : cd_J w X k n S I pc lv (v1 :: .ref (w.2.2.2.2.2.1 i) :: st) :=
  cd_callVS hO hE.1 hi hc hm hlk hcl hdd rfl hlv rfl hcat hd ⟨hk, hn⟩ (fun r S' I' h => by obtain ⟨rfl, rfl, rfl⟩ := h; exact kk)
theorem r_cVS2fi (hO : cd_O w X cc own d mc ms l) (hE : cd_E w X nL rt mc ms nm post) {m : cd_MT} {d' index i : Nat} {v1 v2 : Value} {x : Int32} {J : cd_Mem} (hi : i < 6) (hc : cd_C l w m d' 0 0 (.ref (w.2.2.2.2.2.1 i) :: [v1, v2]) S I (cd_Fi S x J)) (hm : cd_MV m 2) (hlk : Cond.methodLink own index m.1 ∈ cd_ws) (hcl : m.1.cls = "java/lang/String") (hdd : d' + 1 ≤ d) (hlv : lv.length = nL) (hcat : (st.map fun v => v.category).sum ≤ 8) (hd : cd_D 3 cc pc (.invokevirtual index) pc') (hk : k ≤ mc) (hn : n ≤ ms) (kk : cd_J w X k n S J pc' lv (.int x :: st)) : cd_J w X k n S I pc lv (v2 :: v1 :: .ref (w.2.2.2.2.2.1 i) :: st) :=
  cd_callVS hO hE.1 hi hc hm hlk hcl hdd rfl hlv rfl hcat hd ⟨hk, hn⟩ (fun r S' I' h => by obtain ⟨rfl, rfl, rfl⟩ := h; exact kk)
end CDS
abbrev b_J_charAt : ByteArray := prog_12_method_56_code
abbrev m_J_charAt : cd_MT := (⟨"java/lang/String", "charAt", "(I)C"⟩, b_J_charAt, 2, some .char)
set_option maxRecDepth 100000 in
theorem mc_J_charAt : Cond.code m_J_charAt.1 m_J_charAt.2.1 m_J_charAt.2.2.1 m_J_charAt.2.2.2 ∈ cd_ws := cd_mem 578 rfl rfl
theorem mf_J_charAt : cd_MV m_J_charAt 1 := ⟨⟨mc_J_charAt, cd_mem 65 (by decide +kernel) rfl, by decide +kernel, by decide⟩, cd_mem 576 (by decide +kernel) rfl, cd_mem 577 (by decide +kernel) rfl⟩
abbrev b_J_checkIndex : ByteArray := prog_12_method_155_code
abbrev m_J_checkIndex : cd_MT := (⟨"java/lang/String", "checkIndex", "(II)V"⟩, b_J_checkIndex, 2, none)
set_option maxRecDepth 100000 in
theorem mc_J_checkIndex : Cond.code m_J_checkIndex.1 m_J_checkIndex.2.1 m_J_checkIndex.2.2.1 m_J_checkIndex.2.2.2 ∈ cd_ws := cd_mem 588 rfl rfl
theorem mf_J_checkIndex : cd_MS m_J_checkIndex 2 := ⟨⟨mc_J_checkIndex, cd_mem 65 (by decide +kernel) rfl, by decide +kernel, by decide⟩, cd_mem 587 (by decide +kernel) rfl⟩
abbrev b_J_coder : ByteArray := prog_12_method_152_code
abbrev m_J_coder : cd_MT := (⟨"java/lang/String", "coder", "()B"⟩, b_J_coder, 1, some .byte)
set_option maxRecDepth 100000 in
theorem mc_J_coder : Cond.code m_J_coder.1 m_J_coder.2.1 m_J_coder.2.2.1 m_J_coder.2.2.2 ∈ cd_ws := cd_mem 572 rfl rfl
theorem mf_J_coder : cd_MV m_J_coder 0 := ⟨⟨mc_J_coder, cd_mem 65 (by decide +kernel) rfl, by decide +kernel, by decide⟩, cd_mem 570 (by decide +kernel) rfl, cd_mem 571 (by decide +kernel) rfl⟩
abbrev b_J_indexOf1 : ByteArray := prog_12_method_79_code
abbrev m_J_indexOf1 : cd_MT := (⟨"java/lang/String", "indexOf", "(I)I"⟩, b_J_indexOf1, 2, some .int)
set_option maxRecDepth 100000 in
theorem mc_J_indexOf1 : Cond.code m_J_indexOf1.1 m_J_indexOf1.2.1 m_J_indexOf1.2.2.1 m_J_indexOf1.2.2.2 ∈ cd_ws := cd_mem 641 rfl rfl
theorem mf_J_indexOf1 : cd_MV m_J_indexOf1 1 := ⟨⟨mc_J_indexOf1, cd_mem 65 (by decide +kernel) rfl, by decide +kernel, by decide⟩, cd_mem 639 (by decide +kernel) rfl, cd_mem 640 (by decide +kernel) rfl⟩
abbrev b_J_indexOf2 : ByteArray := prog_12_method_80_code
abbrev m_J_indexOf2 : cd_MT := (⟨"java/lang/String", "indexOf", "(II)I"⟩, b_J_indexOf2, 3, some .int)
set_option maxRecDepth 100000 in
theorem mc_J_indexOf2 : Cond.code m_J_indexOf2.1 m_J_indexOf2.2.1 m_J_indexOf2.2.2.1 m_J_indexOf2.2.2.2 ∈ cd_ws := cd_mem 645 rfl rfl
theorem mf_J_indexOf2 : cd_MV m_J_indexOf2 2 := ⟨⟨mc_J_indexOf2, cd_mem 65 (by decide +kernel) rfl, by decide +kernel, by decide⟩, cd_mem 643 (by decide +kernel) rfl, cd_mem 644 (by decide +kernel) rfl⟩
abbrev b_J_isLatin1 : ByteArray := prog_12_method_154_code
abbrev m_J_isLatin1 : cd_MT := (⟨"java/lang/String", "isLatin1", "()Z"⟩, b_J_isLatin1, 1, some .boolean)
set_option maxRecDepth 100000 in
theorem mc_J_isLatin1 : Cond.code m_J_isLatin1.1 m_J_isLatin1.2.1 m_J_isLatin1.2.2.1 m_J_isLatin1.2.2.2 ∈ cd_ws := cd_mem 582 rfl rfl
theorem mf_J_isLatin1 : cd_MV m_J_isLatin1 0 := ⟨⟨mc_J_isLatin1, cd_mem 65 (by decide +kernel) rfl, by decide +kernel, by decide⟩, cd_mem 580 (by decide +kernel) rfl, cd_mem 581 (by decide +kernel) rfl⟩
abbrev b_J_length : ByteArray := prog_12_method_54_code
abbrev m_J_length : cd_MT := (⟨"java/lang/String", "length", "()I"⟩, b_J_length, 1, some .int)
set_option maxRecDepth 100000 in
theorem mc_J_length : Cond.code m_J_length.1 m_J_length.2.1 m_J_length.2.2.1 m_J_length.2.2.2 ∈ cd_ws := cd_mem 568 rfl rfl
theorem mf_J_length : cd_MV m_J_length 0 := ⟨⟨mc_J_length, cd_mem 65 (by decide +kernel) rfl, by decide +kernel, by decide⟩, cd_mem 566 (by decide +kernel) rfl, cd_mem 567 (by decide +kernel) rfl⟩
theorem lk_J_335 : Cond.methodLink "java/lang/String" 335 ⟨"java/lang/String", "coder", "()B"⟩ ∈ cd_ws := cd_mem 569 (by decide +kernel) rfl
theorem lk_J_492 : Cond.methodLink "java/lang/String" 492 ⟨"java/lang/String", "isLatin1", "()Z"⟩ ∈ cd_ws := cd_mem 579 (by decide +kernel) rfl
theorem lk_J_495 : Cond.methodLink "java/lang/String" 495 ⟨"java/lang/StringLatin1", "charAt", "([BI)C"⟩ ∈ cd_ws := cd_mem 583 (by decide +kernel) rfl
theorem lk_J_498 : Cond.methodLink "java/lang/String" 498 ⟨"java/lang/StringUTF16", "charAt", "([BI)C"⟩ ∈ cd_ws := cd_mem 594 (by decide +kernel) rfl
theorem lk_J_505 : Cond.methodLink "java/lang/String" 505 ⟨"java/lang/String", "length", "()I"⟩ ∈ cd_ws := cd_mem 646 (by decide +kernel) rfl
theorem lk_J_633 : Cond.methodLink "java/lang/String" 633 ⟨"java/lang/String", "indexOf", "(II)I"⟩ ∈ cd_ws := cd_mem 642 (by decide +kernel) rfl
theorem lk_J_637 : Cond.methodLink "java/lang/String" 637 ⟨"java/lang/StringLatin1", "indexOf", "([BIII)I"⟩ ∈ cd_ws := cd_mem 647 (by decide +kernel) rfl
theorem lk_J_640 : Cond.methodLink "java/lang/String" 640 ⟨"java/lang/StringUTF16", "indexOf", "([BIII)I"⟩ ∈ cd_ws := cd_mem 658 (by decide +kernel) rfl
theorem lk_J_1059 : Cond.methodLink "java/lang/String" 1059 ⟨"jdk/internal/util/Preconditions", "checkIndex", "(IILjava/util/function/BiFunction;)I"⟩ ∈ cd_ws := cd_mem 591 (by decide +kernel) rfl
theorem lk_J_1062 : Cond.methodLink "java/lang/String" 1062 ⟨"jdk/internal/util/Preconditions", "checkFromToIndex", "(IIILjava/util/function/BiFunction;)I"⟩ ∈ cd_ws := cd_mem 673 (by decide +kernel) rfl
abbrev b_Q_canEncode : ByteArray := prog_13_method_4_code
abbrev m_Q_canEncode : cd_MT := (⟨"java/lang/StringLatin1", "canEncode", "(I)Z"⟩, b_Q_canEncode, 1, some .boolean)
set_option maxRecDepth 100000 in
theorem mc_Q_canEncode : Cond.code m_Q_canEncode.1 m_Q_canEncode.2.1 m_Q_canEncode.2.2.1 m_Q_canEncode.2.2.2 ∈ cd_ws := cd_mem 652 rfl rfl
theorem mf_Q_canEncode : cd_MS m_Q_canEncode 1 := ⟨⟨mc_Q_canEncode, cd_mem 66 (by decide +kernel) rfl, by decide +kernel, by decide⟩, cd_mem 651 (by decide +kernel) rfl⟩
abbrev b_Q_charAt : ByteArray := prog_13_method_2_code
abbrev m_Q_charAt : cd_MT := (⟨"java/lang/StringLatin1", "charAt", "([BI)C"⟩, b_Q_charAt, 2, some .char)
set_option maxRecDepth 100000 in
theorem mc_Q_charAt : Cond.code m_Q_charAt.1 m_Q_charAt.2.1 m_Q_charAt.2.2.1 m_Q_charAt.2.2.2 ∈ cd_ws := cd_mem 585 rfl rfl
theorem mf_Q_charAt : cd_MS m_Q_charAt 2 := ⟨⟨mc_Q_charAt, cd_mem 66 (by decide +kernel) rfl, by decide +kernel, by decide⟩, cd_mem 584 (by decide +kernel) rfl⟩
abbrev b_Q_indexOf : ByteArray := prog_13_method_22_code
abbrev m_Q_indexOf : cd_MT := (⟨"java/lang/StringLatin1", "indexOf", "([BIII)I"⟩, b_Q_indexOf, 4, some .int)
set_option maxRecDepth 100000 in
theorem mc_Q_indexOf : Cond.code m_Q_indexOf.1 m_Q_indexOf.2.1 m_Q_indexOf.2.2.1 m_Q_indexOf.2.2.2 ∈ cd_ws := cd_mem 649 rfl rfl
theorem mf_Q_indexOf : cd_MS m_Q_indexOf 4 := ⟨⟨mc_Q_indexOf, cd_mem 66 (by decide +kernel) rfl, by decide +kernel, by decide⟩, cd_mem 648 (by decide +kernel) rfl⟩
abbrev b_Q_indexOfChar : ByteArray := prog_13_method_23_code
abbrev m_Q_indexOfChar : cd_MT := (⟨"java/lang/StringLatin1", "indexOfChar", "([BIII)I"⟩, b_Q_indexOfChar, 6, some .int)
set_option maxRecDepth 100000 in
theorem mc_Q_indexOfChar : Cond.code m_Q_indexOfChar.1 m_Q_indexOfChar.2.1 m_Q_indexOfChar.2.2.1 m_Q_indexOfChar.2.2.2 ∈ cd_ws := cd_mem 657 rfl rfl
theorem mf_Q_indexOfChar : cd_MS m_Q_indexOfChar 4 := ⟨⟨mc_Q_indexOfChar, cd_mem 66 (by decide +kernel) rfl, by decide +kernel, by decide⟩, cd_mem 656 (by decide +kernel) rfl⟩
theorem lk_Q_9 : Cond.methodLink "java/lang/StringLatin1" 9 ⟨"java/lang/String", "checkIndex", "(II)V"⟩ ∈ cd_ws := cd_mem 586 (by decide +kernel) rfl
theorem lk_Q_38 : Cond.methodLink "java/lang/StringLatin1" 38 ⟨"java/lang/Math", "min", "(II)I"⟩ ∈ cd_ws := cd_mem 654 (by decide +kernel) rfl
theorem lk_Q_88 : Cond.methodLink "java/lang/StringLatin1" 88 ⟨"java/lang/StringLatin1", "canEncode", "(I)Z"⟩ ∈ cd_ws := cd_mem 650 (by decide +kernel) rfl
theorem lk_Q_92 : Cond.methodLink "java/lang/StringLatin1" 92 ⟨"java/lang/Math", "max", "(II)I"⟩ ∈ cd_ws := cd_mem 653 (by decide +kernel) rfl
theorem lk_Q_95 : Cond.methodLink "java/lang/StringLatin1" 95 ⟨"java/lang/StringLatin1", "indexOfChar", "([BIII)I"⟩ ∈ cd_ws := cd_mem 655 (by decide +kernel) rfl
abbrev b_P_checkIndex : ByteArray := prog_16_method_11_code
abbrev m_P_checkIndex : cd_MT := (⟨"jdk/internal/util/Preconditions", "checkIndex", "(IILjava/util/function/BiFunction;)I"⟩, b_P_checkIndex, 3, some .int)
set_option maxRecDepth 100000 in
theorem mc_P_checkIndex : Cond.code m_P_checkIndex.1 m_P_checkIndex.2.1 m_P_checkIndex.2.2.1 m_P_checkIndex.2.2.2 ∈ cd_ws := cd_mem 593 rfl rfl
theorem mf_P_checkIndex : cd_MS m_P_checkIndex 3 := ⟨⟨mc_P_checkIndex, cd_mem 67 (by decide +kernel) rfl, by decide +kernel, by decide⟩, cd_mem 592 (by decide +kernel) rfl⟩
theorem fl_J_9 : Cond.fieldLink "java/lang/String" 9 "java/lang/String" "value" "[B" ∈ cd_ws := cd_mem 1282 (by decide +kernel) rfl
theorem fl_J_15 : Cond.fieldLink "java/lang/String" 15 "java/lang/String" "coder" "B" ∈ cd_ws := cd_mem 1283 (by decide +kernel) rfl
theorem fl_J_38 : Cond.fieldLink "java/lang/String" 38 "java/lang/String" "COMPACT_STRINGS" "Z" ∈ cd_ws := cd_mem 573 (by decide +kernel) rfl
theorem fl_J_1053 : Cond.fieldLink "java/lang/String" 1053 "jdk/internal/util/Preconditions" "SIOOBE_FORMATTER" "Ljava/util/function/BiFunction;" ∈ cd_ws := cd_mem 589 (by decide +kernel) rfl
theorem px_shr : ∀ i, i < 6 → nI (cd_tl.getD i 0) >>> ((0 : Int32) &&& 31) = nI (cd_tl.getD i 0) := by decide +kernel
theorem px_chr : ∀ i, i < 6 → ∀ k, k < cd_tl.getD i 0 → ((((cd_tb.getD i []).getD k 0 &&& nI 255)).toUInt32 % 65536).toInt32 = (cd_tb.getD i []).getD k 0 ∧ narrow .char (.int ((cd_tb.getD i []).getD k 0)) = .int ((cd_tb.getD i []).getD k 0) := by decide +kernel
theorem px_tl_b : ∀ i, i < 6 → cd_tl.getD i 0 < 6 ∧ 0 < cd_tl.getD i 0 := by decide
/-- the place of a char among some bytes -/
def px_fi (bs : List Int32) (x : Int32) : Nat → Nat → Int32
  | 0, _ => (-1)
  | r + 1, k => if bs.getD k 0 = x then nI k else px_fi bs x r (k + 1)
theorem d_J_coder_0 : cd_D 3 b_J_coder 0 (.getstatic 38) 3 := ⟨by decide +kernel, rfl⟩
theorem d_J_coder_3 : cd_D_if_eq b_J_coder 3 13 6 := ⟨10, by decide +kernel, by decide, rfl⟩
theorem d_J_coder_6 : cd_D_aload b_J_coder 6 0 7 := Or.inr ⟨0, ⟨by decide +kernel, rfl⟩, rfl⟩
theorem d_J_coder_7 : cd_D 3 b_J_coder 7 (.getfield 15) 10 := ⟨by decide +kernel, rfl⟩
theorem d_J_coder_10 : cd_D_goto b_J_coder 10 14 := ⟨4, by decide +kernel, by decide⟩
theorem d_J_coder_13 : cd_Dk b_J_coder 13 (nI 1) 14 := Or.inl ⟨1, ⟨by decide +kernel, rfl⟩, by decide +kernel⟩
theorem d_J_coder_14 : cd_D 1 b_J_coder 14 .ireturn 15 := ⟨by decide +kernel, rfl⟩
theorem c_J_coder {l : Launch} {w : cd_WT} {S : cd_Sp} {I : cd_Mem} {i : Nat} (hi : i < 6)  : cd_C l w m_J_coder 0 0 0 [.ref (w.2.2.2.2.2.1 i)] S I (cd_Fi S 0 I) := by
  refine cd_intro (by decide) (by simp [Value.category]) (Nat.le_of_ble_eq_true rfl) ?_
  intro X hO hE
  show cd_J w X 0 0 S I 0 [some (.ref (w.2.2.2.2.2.1 i))] []
  refine r_getsC hO fl_J_38 d_J_coder_0 ?_
  refine r_if_eq hO d_J_coder_3 (fun c_3 => ?_) (fun c_3 => ?_)
  · exact absurd c_3 (by decide)
  · refine r_aload hO d_J_coder_6 rfl ?_
    refine r_getSc hO hi fl_J_15 d_J_coder_7 ?_
    refine r_goto hO d_J_coder_10 ?_
    refine r_nret hO hE rfl (Nat.zero_le _) (Nat.zero_le _) d_J_coder_14 ?_
    exact ⟨rfl, rfl, rfl⟩
theorem d_J_isLatin1_0 : cd_D 3 b_J_isLatin1 0 (.getstatic 38) 3 := ⟨by decide +kernel, rfl⟩
theorem d_J_isLatin1_3 : cd_D_if_eq b_J_isLatin1 3 17 6 := ⟨14, by decide +kernel, by decide, rfl⟩
theorem d_J_isLatin1_6 : cd_D_aload b_J_isLatin1 6 0 7 := Or.inr ⟨0, ⟨by decide +kernel, rfl⟩, rfl⟩
theorem d_J_isLatin1_7 : cd_D 3 b_J_isLatin1 7 (.getfield 15) 10 := ⟨by decide +kernel, rfl⟩
theorem d_J_isLatin1_10 : cd_D_if_ne b_J_isLatin1 10 17 13 := ⟨7, by decide +kernel, by decide, rfl⟩
theorem d_J_isLatin1_13 : cd_Dk b_J_isLatin1 13 (nI 1) 14 := Or.inl ⟨1, ⟨by decide +kernel, rfl⟩, by decide +kernel⟩
theorem d_J_isLatin1_14 : cd_D_goto b_J_isLatin1 14 18 := ⟨4, by decide +kernel, by decide⟩
theorem d_J_isLatin1_17 : cd_Dk b_J_isLatin1 17 (nI 0) 18 := Or.inl ⟨0, ⟨by decide +kernel, rfl⟩, by decide +kernel⟩
theorem d_J_isLatin1_18 : cd_D 1 b_J_isLatin1 18 .ireturn 19 := ⟨by decide +kernel, rfl⟩
theorem c_J_isLatin1 {l : Launch} {w : cd_WT} {S : cd_Sp} {I : cd_Mem} {i : Nat} (hi : i < 6)  : cd_C l w m_J_isLatin1 0 0 0 [.ref (w.2.2.2.2.2.1 i)] S I (cd_Fi S (nI 1) I) := by
  refine cd_intro (by decide) (by simp [Value.category]) (Nat.le_of_ble_eq_true rfl) ?_
  intro X hO hE
  show cd_J w X 0 0 S I 0 [some (.ref (w.2.2.2.2.2.1 i))] []
  refine r_getsC hO fl_J_38 d_J_isLatin1_0 ?_
  refine r_if_eq hO d_J_isLatin1_3 (fun c_3 => ?_) (fun c_3 => ?_)
  · exact absurd c_3 (by decide)
  · refine r_aload hO d_J_isLatin1_6 rfl ?_
    refine r_getSc hO hi fl_J_15 d_J_isLatin1_7 ?_
    refine r_if_ne hO d_J_isLatin1_10 (fun c_10 => ?_) (fun c_10 => ?_)
    · exact absurd rfl c_10
    · refine r_k hO d_J_isLatin1_13 ?_
      refine r_goto hO d_J_isLatin1_14 ?_
      refine r_zret hO hE (by first | exact Or.inl rfl | exact Or.inr rfl) (Nat.zero_le _) (Nat.zero_le _) d_J_isLatin1_18 ?_
      exact ⟨rfl, rfl, rfl⟩
theorem d_J_length_0 : cd_D_aload b_J_length 0 0 1 := Or.inr ⟨0, ⟨by decide +kernel, rfl⟩, rfl⟩
theorem d_J_length_1 : cd_D 3 b_J_length 1 (.getfield 9) 4 := ⟨by decide +kernel, rfl⟩
theorem d_J_length_4 : cd_D 1 b_J_length 4 .arraylength 5 := ⟨by decide +kernel, rfl⟩
theorem d_J_length_5 : cd_D_aload b_J_length 5 0 6 := Or.inr ⟨0, ⟨by decide +kernel, rfl⟩, rfl⟩
theorem d_J_length_6 : cd_D 3 b_J_length 6 (.invokevirtual 335) 9 := ⟨by decide +kernel, rfl⟩
theorem d_J_length_9 : cd_D 1 b_J_length 9 .ishr 10 := ⟨by decide +kernel, rfl⟩
theorem d_J_length_10 : cd_D 1 b_J_length 10 .ireturn 11 := ⟨by decide +kernel, rfl⟩
theorem c_J_length {l : Launch} {w : cd_WT} {S : cd_Sp} {I : cd_Mem} {i : Nat} (hi : i < 6)  : cd_C l w m_J_length 1 0 0 [.ref (w.2.2.2.2.2.1 i)] S I (cd_Fi S (nI (cd_tl.getD i 0)) I) := by
  refine cd_intro (by decide) (by simp [Value.category]) (Nat.le_of_ble_eq_true rfl) ?_
  intro X hO hE
  show cd_J w X 0 0 S I 0 [some (.ref (w.2.2.2.2.2.1 i))] []
  refine r_aload hO d_J_length_0 rfl ?_
  refine r_getSv hO hi fl_J_9 d_J_length_1 ?_
  refine r_alenS hO hi d_J_length_4 ?_
  refine r_aload hO d_J_length_5 rfl ?_
  refine r_cVS0fi hO hE hi (c_J_coder hi) mf_J_coder lk_J_335 rfl (by omega) rfl (Nat.le_of_ble_eq_true rfl) d_J_length_6 (Nat.zero_le _) (Nat.zero_le _) ?_
  refine r_ishr hO d_J_length_9 ?_
  rw [px_shr i hi]
  refine r_iret hO hE (Nat.zero_le _) (Nat.zero_le _) d_J_length_10 ?_
  exact ⟨rfl, rfl, rfl⟩
theorem d_P_checkIndex_0 : cd_D_iload b_P_checkIndex 0 0 1 := Or.inr ⟨0, ⟨by decide +kernel, rfl⟩, rfl⟩
theorem d_P_checkIndex_1 : cd_D_if_lt b_P_checkIndex 1 9 4 := ⟨8, by decide +kernel, by decide, rfl⟩
theorem d_P_checkIndex_4 : cd_D_iload b_P_checkIndex 4 0 5 := Or.inr ⟨0, ⟨by decide +kernel, rfl⟩, rfl⟩
theorem d_P_checkIndex_5 : cd_D_iload b_P_checkIndex 5 1 6 := Or.inr ⟨1, ⟨by decide +kernel, rfl⟩, rfl⟩
theorem d_P_checkIndex_6 : cd_D_icmp_lt b_P_checkIndex 6 16 9 := ⟨10, by decide +kernel, by decide, rfl⟩
theorem d_P_checkIndex_9 : cd_D_aload b_P_checkIndex 9 2 10 := Or.inr ⟨2, ⟨by decide +kernel, rfl⟩, rfl⟩
theorem d_P_checkIndex_10 : cd_D_iload b_P_checkIndex 10 0 11 := Or.inr ⟨0, ⟨by decide +kernel, rfl⟩, rfl⟩
theorem d_P_checkIndex_11 : cd_D_iload b_P_checkIndex 11 1 12 := Or.inr ⟨1, ⟨by decide +kernel, rfl⟩, rfl⟩
theorem d_P_checkIndex_12 : cd_D 3 b_P_checkIndex 12 (.invokestatic 95) 15 := ⟨by decide +kernel, rfl⟩
theorem d_P_checkIndex_15 : cd_D 1 b_P_checkIndex 15 .athrow 16 := ⟨by decide +kernel, rfl⟩
theorem d_P_checkIndex_16 : cd_D_iload b_P_checkIndex 16 0 17 := Or.inr ⟨0, ⟨by decide +kernel, rfl⟩, rfl⟩
theorem d_P_checkIndex_17 : cd_D 1 b_P_checkIndex 17 .ireturn 18 := ⟨by decide +kernel, rfl⟩
theorem c_P_checkIndex {l : Launch} {w : cd_WT} {S : cd_Sp} {I : cd_Mem} {j n : Nat} (hj : j < n) (hn : n < 2 ^ 31) {v : Value} (hv : v.category = 1) : cd_C l w m_P_checkIndex 0 0 0 [.int (nI j), .int (nI n), v] S I (cd_Fi S (nI j) I) := by
  refine cd_intro (by decide) (by intro x hx; simp only [List.mem_cons, List.mem_nil_iff, or_false] at hx; rcases hx with rfl | rfl | rfl; rfl; rfl; exact hv) (Nat.le_of_ble_eq_true rfl) ?_
  intro X hO hE
  show cd_J w X 0 0 S I 0 [some (.int (nI j)), some (.int (nI n)), some v] []
  refine r_iload hO d_P_checkIndex_0 rfl ?_
  refine r_if_lt hO d_P_checkIndex_1 (fun c_1 => ?_) (fun c_1 => ?_)
  · exact absurd c_1 (nI_pos (by omega))
  · refine r_iload hO d_P_checkIndex_4 rfl ?_
    refine r_iload hO d_P_checkIndex_5 rfl ?_
    refine r_icmp_lt hO d_P_checkIndex_6 (fun c_6 => ?_) (fun c_6 => ?_)
    · refine r_iload hO d_P_checkIndex_16 rfl ?_
      refine r_iret hO hE (Nat.zero_le _) (Nat.zero_le _) d_P_checkIndex_17 ?_
      exact ⟨rfl, rfl, rfl⟩
    · exact absurd (nI_lt hj hn) c_6
theorem d_J_checkIndex_0 : cd_D_iload b_J_checkIndex 0 0 1 := Or.inr ⟨0, ⟨by decide +kernel, rfl⟩, rfl⟩
theorem d_J_checkIndex_1 : cd_D_iload b_J_checkIndex 1 1 2 := Or.inr ⟨1, ⟨by decide +kernel, rfl⟩, rfl⟩
theorem d_J_checkIndex_2 : cd_D 3 b_J_checkIndex 2 (.getstatic 1053) 5 := ⟨by decide +kernel, rfl⟩
theorem d_J_checkIndex_5 : cd_D 3 b_J_checkIndex 5 (.invokestatic 1059) 8 := ⟨by decide +kernel, rfl⟩
theorem d_J_checkIndex_8 : cd_D 1 b_J_checkIndex 8 .pop 9 := ⟨by decide +kernel, rfl⟩
theorem d_J_checkIndex_9 : cd_D 1 b_J_checkIndex 9 .return_ 10 := ⟨by decide +kernel, rfl⟩
theorem c_J_checkIndex {l : Launch} {w : cd_WT} {S : cd_Sp} {I : cd_Mem} {j n : Nat} (hj : j < n) (hn : n < 2 ^ 31) : cd_C l w m_J_checkIndex 1 0 0 [.int (nI j), .int (nI n)] S I (cd_Fv S I) := by
  refine cd_intro (by decide) (by simp [Value.category]) (Nat.le_of_ble_eq_true rfl) ?_
  intro X hO hE
  show cd_J w X 0 0 S I 0 [some (.int (nI j)), some (.int (nI n))] []
  refine r_iload hO d_J_checkIndex_0 rfl ?_
  refine r_iload hO d_J_checkIndex_1 rfl ?_
  refine r_getsF hO fl_J_1053 d_J_checkIndex_2 ?_
  intro v hv
  refine r_cS3fi hO hE (c_P_checkIndex hj hn hv) mf_P_checkIndex lk_J_1059 (by decide) rfl (Nat.le_of_ble_eq_true rfl) d_J_checkIndex_5 (Nat.zero_le _) (Nat.zero_le _) ?_
  refine r_pop hO d_J_checkIndex_8 rfl ?_
  refine r_vret hO hE (Nat.zero_le _) (Nat.zero_le _) d_J_checkIndex_9 ?_
  exact ⟨rfl, rfl, rfl⟩
theorem d_Q_charAt_0 : cd_D_iload b_Q_charAt 0 1 1 := Or.inr ⟨1, ⟨by decide +kernel, rfl⟩, rfl⟩
theorem d_Q_charAt_1 : cd_D_aload b_Q_charAt 1 0 2 := Or.inr ⟨0, ⟨by decide +kernel, rfl⟩, rfl⟩
theorem d_Q_charAt_2 : cd_D 1 b_Q_charAt 2 .arraylength 3 := ⟨by decide +kernel, rfl⟩
theorem d_Q_charAt_3 : cd_D 3 b_Q_charAt 3 (.invokestatic 9) 6 := ⟨by decide +kernel, rfl⟩
theorem d_Q_charAt_6 : cd_D_aload b_Q_charAt 6 0 7 := Or.inr ⟨0, ⟨by decide +kernel, rfl⟩, rfl⟩
theorem d_Q_charAt_7 : cd_D_iload b_Q_charAt 7 1 8 := Or.inr ⟨1, ⟨by decide +kernel, rfl⟩, rfl⟩
theorem d_Q_charAt_8 : cd_D 1 b_Q_charAt 8 .baload 9 := ⟨by decide +kernel, rfl⟩
theorem d_Q_charAt_9 : cd_Dk b_Q_charAt 9 (nI 255) 12 := Or.inr (Or.inr ⟨255, ⟨by decide +kernel, rfl⟩, by decide +kernel⟩)
theorem d_Q_charAt_12 : cd_D 1 b_Q_charAt 12 .iand 13 := ⟨by decide +kernel, rfl⟩
theorem d_Q_charAt_13 : cd_D 1 b_Q_charAt 13 .i2c 14 := ⟨by decide +kernel, rfl⟩
theorem d_Q_charAt_14 : cd_D 1 b_Q_charAt 14 .ireturn 15 := ⟨by decide +kernel, rfl⟩
theorem c_Q_charAt {l : Launch} {w : cd_WT} {S : cd_Sp} {I : cd_Mem} {i j : Nat} (hi : i < 6) (hj : j < cd_tl.getD i 0) : cd_C l w m_Q_charAt 2 0 0 [.ref (w.2.2.2.2.2.2 i), .int (nI j)] S I (cd_Fi S ((cd_tb.getD i []).getD j 0) I) := by
  refine cd_intro (by decide) (by simp [Value.category]) (Nat.le_of_ble_eq_true rfl) ?_
  intro X hO hE
  show cd_J w X 0 0 S I 0 [some (.ref (w.2.2.2.2.2.2 i)), some (.int (nI j))] []
  have htl := px_tl_b i hi
  have hch := px_chr i hi j hj
  refine r_iload hO d_Q_charAt_0 rfl ?_
  refine r_aload hO d_Q_charAt_1 rfl ?_
  refine r_alenS hO hi d_Q_charAt_2 ?_
  refine r_cS2fv hO hE (c_J_checkIndex hj (by omega)) mf_J_checkIndex lk_Q_9 (by decide) rfl (Nat.le_of_ble_eq_true rfl) d_Q_charAt_3 (Nat.zero_le _) (Nat.zero_le _) ?_
  refine r_aload hO d_Q_charAt_6 rfl ?_
  refine r_iload hO d_Q_charAt_7 rfl ?_
  refine r_bSt hO hi hj d_Q_charAt_8 ?_
  refine r_k hO d_Q_charAt_9 ?_
  refine r_iand hO d_Q_charAt_12 ?_
  refine r_i2c hO d_Q_charAt_13 ?_
  rw [hch.1]
  refine r_nret hO hE hch.2 (Nat.zero_le _) (Nat.zero_le _) d_Q_charAt_14 ?_
  exact ⟨rfl, rfl, rfl⟩
theorem d_J_charAt_0 : cd_D_aload b_J_charAt 0 0 1 := Or.inr ⟨0, ⟨by decide +kernel, rfl⟩, rfl⟩
theorem d_J_charAt_1 : cd_D 3 b_J_charAt 1 (.invokevirtual 492) 4 := ⟨by decide +kernel, rfl⟩
theorem d_J_charAt_4 : cd_D_if_eq b_J_charAt 4 16 7 := ⟨12, by decide +kernel, by decide, rfl⟩
theorem d_J_charAt_7 : cd_D_aload b_J_charAt 7 0 8 := Or.inr ⟨0, ⟨by decide +kernel, rfl⟩, rfl⟩
theorem d_J_charAt_8 : cd_D 3 b_J_charAt 8 (.getfield 9) 11 := ⟨by decide +kernel, rfl⟩
theorem d_J_charAt_11 : cd_D_iload b_J_charAt 11 1 12 := Or.inr ⟨1, ⟨by decide +kernel, rfl⟩, rfl⟩
theorem d_J_charAt_12 : cd_D 3 b_J_charAt 12 (.invokestatic 495) 15 := ⟨by decide +kernel, rfl⟩
theorem d_J_charAt_15 : cd_D 1 b_J_charAt 15 .ireturn 16 := ⟨by decide +kernel, rfl⟩
theorem d_J_charAt_16 : cd_D_aload b_J_charAt 16 0 17 := Or.inr ⟨0, ⟨by decide +kernel, rfl⟩, rfl⟩
theorem d_J_charAt_17 : cd_D 3 b_J_charAt 17 (.getfield 9) 20 := ⟨by decide +kernel, rfl⟩
theorem d_J_charAt_20 : cd_D_iload b_J_charAt 20 1 21 := Or.inr ⟨1, ⟨by decide +kernel, rfl⟩, rfl⟩
theorem d_J_charAt_21 : cd_D 3 b_J_charAt 21 (.invokestatic 498) 24 := ⟨by decide +kernel, rfl⟩
theorem d_J_charAt_24 : cd_D 1 b_J_charAt 24 .ireturn 25 := ⟨by decide +kernel, rfl⟩
theorem c_J_charAt {l : Launch} {w : cd_WT} {S : cd_Sp} {I : cd_Mem} {i j : Nat} (hi : i < 6) (hj : j < cd_tl.getD i 0) : cd_C l w m_J_charAt 3 0 0 [.ref (w.2.2.2.2.2.1 i), .int (nI j)] S I (cd_Fi S ((cd_tb.getD i []).getD j 0) I) := by
  refine cd_intro (by decide) (by simp [Value.category]) (Nat.le_of_ble_eq_true rfl) ?_
  intro X hO hE
  show cd_J w X 0 0 S I 0 [some (.ref (w.2.2.2.2.2.1 i)), some (.int (nI j))] []
  have hch := px_chr i hi j hj
  refine r_aload hO d_J_charAt_0 rfl ?_
  refine r_cVS0fi hO hE hi (c_J_isLatin1 hi) mf_J_isLatin1 lk_J_492 rfl (by omega) rfl (Nat.le_of_ble_eq_true rfl) d_J_charAt_1 (Nat.zero_le _) (Nat.zero_le _) ?_
  refine r_if_eq hO d_J_charAt_4 (fun c_4 => ?_) (fun c_4 => ?_)
  · exact absurd c_4 (by decide)
  · refine r_aload hO d_J_charAt_7 rfl ?_
    refine r_getSv hO hi fl_J_9 d_J_charAt_8 ?_
    refine r_iload hO d_J_charAt_11 rfl ?_
    refine r_cS2fi hO hE (c_Q_charAt hi hj) mf_Q_charAt lk_J_495 (by decide) rfl (Nat.le_of_ble_eq_true rfl) d_J_charAt_12 (Nat.zero_le _) (Nat.zero_le _) ?_
    refine r_nret hO hE hch.2 (Nat.zero_le _) (Nat.zero_le _) d_J_charAt_15 ?_
    exact ⟨rfl, rfl, rfl⟩
theorem d_Q_canEncode_0 : cd_D_iload b_Q_canEncode 0 0 1 := Or.inr ⟨0, ⟨by decide +kernel, rfl⟩, rfl⟩
theorem d_Q_canEncode_1 : cd_D_if_lt b_Q_canEncode 1 15 4 := ⟨14, by decide +kernel, by decide, rfl⟩
theorem d_Q_canEncode_4 : cd_D_iload b_Q_canEncode 4 0 5 := Or.inr ⟨0, ⟨by decide +kernel, rfl⟩, rfl⟩
theorem d_Q_canEncode_5 : cd_Dk b_Q_canEncode 5 (nI 255) 8 := Or.inr (Or.inr ⟨255, ⟨by decide +kernel, rfl⟩, by decide +kernel⟩)
theorem d_Q_canEncode_8 : cd_D_icmp_gt b_Q_canEncode 8 15 11 := ⟨7, by decide +kernel, by decide, rfl⟩
theorem d_Q_canEncode_11 : cd_Dk b_Q_canEncode 11 (nI 1) 12 := Or.inl ⟨1, ⟨by decide +kernel, rfl⟩, by decide +kernel⟩
theorem d_Q_canEncode_12 : cd_D_goto b_Q_canEncode 12 16 := ⟨4, by decide +kernel, by decide⟩
theorem d_Q_canEncode_15 : cd_Dk b_Q_canEncode 15 (nI 0) 16 := Or.inl ⟨0, ⟨by decide +kernel, rfl⟩, by decide +kernel⟩
theorem d_Q_canEncode_16 : cd_D 1 b_Q_canEncode 16 .ireturn 17 := ⟨by decide +kernel, rfl⟩
theorem c_Q_canEncode {l : Launch} {w : cd_WT} {S : cd_Sp} {I : cd_Mem} (c : Int32) (h0 : ¬ c < 0) (h1 : ¬ nI 255 < c) : cd_C l w m_Q_canEncode 0 0 0 [.int c] S I (cd_Fi S (nI 1) I) := by
  refine cd_intro (by decide) (by simp [Value.category]) (Nat.le_of_ble_eq_true rfl) ?_
  intro X hO hE
  show cd_J w X 0 0 S I 0 [some (.int c)] []
  refine r_iload hO d_Q_canEncode_0 rfl ?_
  refine r_if_lt hO d_Q_canEncode_1 (fun c_1 => ?_) (fun c_1 => ?_)
  · exact absurd c_1 h0
  · refine r_iload hO d_Q_canEncode_4 rfl ?_
    refine r_k hO d_Q_canEncode_5 ?_
    refine r_icmp_gt hO d_Q_canEncode_8 (fun c_8 => ?_) (fun c_8 => ?_)
    · exact absurd c_8 h1
    · refine r_k hO d_Q_canEncode_11 ?_
      refine r_goto hO d_Q_canEncode_12 ?_
      refine r_zret hO hE (by first | exact Or.inl rfl | exact Or.inr rfl) (Nat.zero_le _) (Nat.zero_le _) d_Q_canEncode_16 ?_
      exact ⟨rfl, rfl, rfl⟩
theorem d_Q_indexOfChar_0 : cd_D_iload b_Q_indexOfChar 0 1 1 := Or.inr ⟨1, ⟨by decide +kernel, rfl⟩, rfl⟩
theorem d_Q_indexOfChar_1 : cd_D 1 b_Q_indexOfChar 1 .i2b 2 := ⟨by decide +kernel, rfl⟩
theorem d_Q_indexOfChar_2 : cd_D_istore b_Q_indexOfChar 2 4 4 := Or.inl ⟨by decide +kernel, rfl⟩
theorem d_Q_indexOfChar_4 : cd_D_iload b_Q_indexOfChar 4 2 5 := Or.inr ⟨2, ⟨by decide +kernel, rfl⟩, rfl⟩
theorem d_Q_indexOfChar_5 : cd_D_istore b_Q_indexOfChar 5 5 7 := Or.inl ⟨by decide +kernel, rfl⟩
theorem d_Q_indexOfChar_7 : cd_D_iload b_Q_indexOfChar 7 5 9 := Or.inl ⟨by decide +kernel, rfl⟩
theorem d_Q_indexOfChar_9 : cd_D_iload b_Q_indexOfChar 9 3 10 := Or.inr ⟨3, ⟨by decide +kernel, rfl⟩, rfl⟩
theorem d_Q_indexOfChar_10 : cd_D_icmp_ge b_Q_indexOfChar 10 31 13 := ⟨21, by decide +kernel, by decide, rfl⟩
theorem d_Q_indexOfChar_13 : cd_D_aload b_Q_indexOfChar 13 0 14 := Or.inr ⟨0, ⟨by decide +kernel, rfl⟩, rfl⟩
theorem d_Q_indexOfChar_14 : cd_D_iload b_Q_indexOfChar 14 5 16 := Or.inl ⟨by decide +kernel, rfl⟩
theorem d_Q_indexOfChar_16 : cd_D 1 b_Q_indexOfChar 16 .baload 17 := ⟨by decide +kernel, rfl⟩
theorem d_Q_indexOfChar_17 : cd_D_iload b_Q_indexOfChar 17 4 19 := Or.inl ⟨by decide +kernel, rfl⟩
theorem d_Q_indexOfChar_19 : cd_D_icmp_ne b_Q_indexOfChar 19 25 22 := ⟨6, by decide +kernel, by decide, rfl⟩
theorem d_Q_indexOfChar_22 : cd_D_iload b_Q_indexOfChar 22 5 24 := Or.inl ⟨by decide +kernel, rfl⟩
theorem d_Q_indexOfChar_24 : cd_D 1 b_Q_indexOfChar 24 .ireturn 25 := ⟨by decide +kernel, rfl⟩
theorem d_Q_indexOfChar_25 : cd_D 3 b_Q_indexOfChar 25 (.iinc 5 (1)) 28 := ⟨by decide +kernel, rfl⟩
theorem d_Q_indexOfChar_28 : cd_D_goto b_Q_indexOfChar 28 7 := ⟨-21, by decide +kernel, by decide⟩
theorem d_Q_indexOfChar_31 : cd_Dk b_Q_indexOfChar 31 (-1) 32 := Or.inl ⟨-1, ⟨by decide +kernel, rfl⟩, by decide +kernel⟩
theorem d_Q_indexOfChar_32 : cd_D 1 b_Q_indexOfChar 32 .ireturn 33 := ⟨by decide +kernel, rfl⟩
theorem c_Q_indexOfChar {l : Launch} {w : cd_WT} {S : cd_Sp} {I : cd_Mem} {i : Nat} (hi : i < 6) (c : Int32) : cd_C l w m_Q_indexOfChar 0 0 0 [.ref (w.2.2.2.2.2.2 i), .int c, .int (nI 0), .int (nI (cd_tl.getD i 0))] S I (cd_Fi S (px_fi (cd_tb.getD i []) c.toInt8.toInt32 (cd_tl.getD i 0) 0) I) := by
  refine cd_intro (by decide) (by simp [Value.category]) (Nat.le_of_ble_eq_true rfl) ?_
  intro X hO hE
  show cd_J w X 0 0 S I 0 [some (.ref (w.2.2.2.2.2.2 i)), some (.int c), some (.int (nI 0)), some (.int (nI (cd_tl.getD i 0))), none, none] []
  have htl := px_tl_b i hi
  have loop : ∀ r k, k + r = cd_tl.getD i 0 → px_fi (cd_tb.getD i []) c.toInt8.toInt32 r k = px_fi (cd_tb.getD i []) c.toInt8.toInt32 (cd_tl.getD i 0) 0 → cd_J w X 0 0 S I 7 [some (.ref (w.2.2.2.2.2.2 i)), some (.int c), some (.int (nI 0)), some (.int (nI (cd_tl.getD i 0))), some (.int c.toInt8.toInt32), some (.int (nI k))] [] := by
    intro r
    induction r with
    | zero =>
      intro k hk he
      refine r_iload hO d_Q_indexOfChar_7 rfl ?_
      refine r_iload hO d_Q_indexOfChar_9 rfl ?_
      refine r_icmp_ge hO d_Q_indexOfChar_10 (fun c_10 => ?_) (fun c_10 => ?_)
      · refine r_k hO d_Q_indexOfChar_31 ?_
        refine r_iret hO hE (Nat.zero_le _) (Nat.zero_le _) d_Q_indexOfChar_32 ?_
        exact ⟨by rw [← he]; rfl, rfl, rfl⟩
      · exact absurd (nI_le (by omega) (by omega)) c_10
    | succ r ih =>
      intro k hk he
      refine r_iload hO d_Q_indexOfChar_7 rfl ?_
      refine r_iload hO d_Q_indexOfChar_9 rfl ?_
      refine r_icmp_ge hO d_Q_indexOfChar_10 (fun c_10 => ?_) (fun c_10 => ?_)
      · exact absurd c_10 (nI_ge (by omega) (by omega))
      · refine r_aload hO d_Q_indexOfChar_13 rfl ?_
        refine r_iload hO d_Q_indexOfChar_14 rfl ?_
        refine r_bSt hO hi (by omega) d_Q_indexOfChar_16 ?_
        refine r_iload hO d_Q_indexOfChar_17 rfl ?_
        refine r_icmp_ne hO d_Q_indexOfChar_19 (fun c_19 => ?_) (fun c_19 => ?_)
        · refine r_incN5 hO d_Q_indexOfChar_25 rfl ?_
          refine r_goto hO d_Q_indexOfChar_28 ?_
          exact ih (k + 1) (by omega) (he ▸ (if_neg c_19).symm)
        · refine r_iload hO d_Q_indexOfChar_22 rfl ?_
          refine r_iret hO hE (Nat.zero_le _) (Nat.zero_le _) d_Q_indexOfChar_24 ?_
          exact ⟨by rw [← he]; exact congrArg (fun v => some (Value.int v)) (if_pos c_19).symm, rfl, rfl⟩
  refine r_iload hO d_Q_indexOfChar_0 rfl ?_
  refine r_i2b hO d_Q_indexOfChar_1 ?_
  refine r_sI4 hO d_Q_indexOfChar_2 rfl ?_
  refine r_iload hO d_Q_indexOfChar_4 rfl ?_
  refine r_sI5 hO d_Q_indexOfChar_5 rfl ?_
  exact loop _ 0 (by omega) rfl
theorem d_Q_indexOf_0 : cd_D_iload b_Q_indexOf 0 1 1 := Or.inr ⟨1, ⟨by decide +kernel, rfl⟩, rfl⟩
theorem d_Q_indexOf_1 : cd_D 3 b_Q_indexOf 1 (.invokestatic 88) 4 := ⟨by decide +kernel, rfl⟩
theorem d_Q_indexOf_4 : cd_D_if_ne b_Q_indexOf 4 9 7 := ⟨5, by decide +kernel, by decide, rfl⟩
theorem d_Q_indexOf_7 : cd_Dk b_Q_indexOf 7 (-1) 8 := Or.inl ⟨-1, ⟨by decide +kernel, rfl⟩, by decide +kernel⟩
theorem d_Q_indexOf_8 : cd_D 1 b_Q_indexOf 8 .ireturn 9 := ⟨by decide +kernel, rfl⟩
theorem d_Q_indexOf_9 : cd_D_iload b_Q_indexOf 9 2 10 := Or.inr ⟨2, ⟨by decide +kernel, rfl⟩, rfl⟩
theorem d_Q_indexOf_10 : cd_Dk b_Q_indexOf 10 (nI 0) 11 := Or.inl ⟨0, ⟨by decide +kernel, rfl⟩, by decide +kernel⟩
theorem d_Q_indexOf_11 : cd_D 3 b_Q_indexOf 11 (.invokestatic 92) 14 := ⟨by decide +kernel, rfl⟩
theorem d_Q_indexOf_14 : cd_D_istore b_Q_indexOf 14 2 15 := Or.inr ⟨2, ⟨by decide +kernel, rfl⟩, rfl⟩
theorem d_Q_indexOf_15 : cd_D_iload b_Q_indexOf 15 3 16 := Or.inr ⟨3, ⟨by decide +kernel, rfl⟩, rfl⟩
theorem d_Q_indexOf_16 : cd_D_aload b_Q_indexOf 16 0 17 := Or.inr ⟨0, ⟨by decide +kernel, rfl⟩, rfl⟩
theorem d_Q_indexOf_17 : cd_D 1 b_Q_indexOf 17 .arraylength 18 := ⟨by decide +kernel, rfl⟩
theorem d_Q_indexOf_18 : cd_D 3 b_Q_indexOf 18 (.invokestatic 38) 21 := ⟨by decide +kernel, rfl⟩
theorem d_Q_indexOf_21 : cd_D_istore b_Q_indexOf 21 3 22 := Or.inr ⟨3, ⟨by decide +kernel, rfl⟩, rfl⟩
theorem d_Q_indexOf_22 : cd_D_iload b_Q_indexOf 22 2 23 := Or.inr ⟨2, ⟨by decide +kernel, rfl⟩, rfl⟩
theorem d_Q_indexOf_23 : cd_D_iload b_Q_indexOf 23 3 24 := Or.inr ⟨3, ⟨by decide +kernel, rfl⟩, rfl⟩
theorem d_Q_indexOf_24 : cd_D_icmp_lt b_Q_indexOf 24 29 27 := ⟨5, by decide +kernel, by decide, rfl⟩
theorem d_Q_indexOf_27 : cd_Dk b_Q_indexOf 27 (-1) 28 := Or.inl ⟨-1, ⟨by decide +kernel, rfl⟩, by decide +kernel⟩
theorem d_Q_indexOf_28 : cd_D 1 b_Q_indexOf 28 .ireturn 29 := ⟨by decide +kernel, rfl⟩
theorem d_Q_indexOf_29 : cd_D_aload b_Q_indexOf 29 0 30 := Or.inr ⟨0, ⟨by decide +kernel, rfl⟩, rfl⟩
theorem d_Q_indexOf_30 : cd_D_iload b_Q_indexOf 30 1 31 := Or.inr ⟨1, ⟨by decide +kernel, rfl⟩, rfl⟩
theorem d_Q_indexOf_31 : cd_D_iload b_Q_indexOf 31 2 32 := Or.inr ⟨2, ⟨by decide +kernel, rfl⟩, rfl⟩
theorem d_Q_indexOf_32 : cd_D_iload b_Q_indexOf 32 3 33 := Or.inr ⟨3, ⟨by decide +kernel, rfl⟩, rfl⟩
theorem d_Q_indexOf_33 : cd_D 3 b_Q_indexOf 33 (.invokestatic 95) 36 := ⟨by decide +kernel, rfl⟩
theorem d_Q_indexOf_36 : cd_D 1 b_Q_indexOf 36 .ireturn 37 := ⟨by decide +kernel, rfl⟩
theorem c_Q_indexOf {l : Launch} {w : cd_WT} {S : cd_Sp} {I : cd_Mem} {i : Nat} (hi : i < 6) {c : Int32} (h0 : ¬ c < 0) (h1 : ¬ nI 255 < c) : cd_C l w m_Q_indexOf 1 0 0 [.ref (w.2.2.2.2.2.2 i), .int c, .int (nI 0), .int (nI (cd_tl.getD i 0))] S I (cd_Fi S (px_fi (cd_tb.getD i []) c.toInt8.toInt32 (cd_tl.getD i 0) 0) I) := by
  refine cd_intro (by decide) (by simp [Value.category]) (Nat.le_of_ble_eq_true rfl) ?_
  intro X hO hE
  show cd_J w X 0 0 S I 0 [some (.ref (w.2.2.2.2.2.2 i)), some (.int c), some (.int (nI 0)), some (.int (nI (cd_tl.getD i 0)))] []
  have htl := px_tl_b i hi
  refine r_iload hO d_Q_indexOf_0 rfl ?_
  refine r_cS1fi hO hE (c_Q_canEncode c h0 h1) mf_Q_canEncode lk_Q_88 (by decide) rfl (Nat.le_of_ble_eq_true rfl) d_Q_indexOf_1 (Nat.zero_le _) (Nat.zero_le _) ?_
  refine r_if_ne hO d_Q_indexOf_4 (fun c_4 => ?_) (fun c_4 => ?_)
  · refine r_iload hO d_Q_indexOf_9 rfl ?_
    refine r_k hO d_Q_indexOf_10 ?_
    refine r_mmax hO hE lk_Q_92 cd_mmax (by omega) rfl (Nat.le_of_ble_eq_true rfl) (Nat.zero_le _) (Nat.zero_le _) d_Q_indexOf_11 ?_
    refine r_tops (show _ = nI 0 from by split <;> rfl) ?_
    refine r_sI2 hO d_Q_indexOf_14 rfl ?_
    refine r_iload hO d_Q_indexOf_15 rfl ?_
    refine r_aload hO d_Q_indexOf_16 rfl ?_
    refine r_alenS hO hi d_Q_indexOf_17 ?_
    refine r_mmin hO hE lk_Q_38 cd_mmin (by omega) rfl (Nat.le_of_ble_eq_true rfl) (Nat.zero_le _) (Nat.zero_le _) d_Q_indexOf_18 ?_
    refine r_tops (show _ = nI (cd_tl.getD i 0) from by split <;> rfl) ?_
    refine r_sI3 hO d_Q_indexOf_21 rfl ?_
    refine r_iload hO d_Q_indexOf_22 rfl ?_
    refine r_iload hO d_Q_indexOf_23 rfl ?_
    refine r_icmp_lt hO d_Q_indexOf_24 (fun c_24 => ?_) (fun c_24 => ?_)
    · refine r_aload hO d_Q_indexOf_29 rfl ?_
      refine r_iload hO d_Q_indexOf_30 rfl ?_
      refine r_iload hO d_Q_indexOf_31 rfl ?_
      refine r_iload hO d_Q_indexOf_32 rfl ?_
      refine r_cS4fi hO hE (c_Q_indexOfChar hi c) mf_Q_indexOfChar lk_Q_95 (by decide) rfl (Nat.le_of_ble_eq_true rfl) d_Q_indexOf_33 (Nat.zero_le _) (Nat.zero_le _) ?_
      refine r_iret hO hE (Nat.zero_le _) (Nat.zero_le _) d_Q_indexOf_36 ?_
      exact ⟨rfl, rfl, rfl⟩
    · exact absurd (nI_lt htl.2 (by omega)) c_24
  · exact absurd c_4 (by decide)
theorem d_J_indexOf2_0 : cd_D_aload b_J_indexOf2 0 0 1 := Or.inr ⟨0, ⟨by decide +kernel, rfl⟩, rfl⟩
theorem d_J_indexOf2_1 : cd_D 3 b_J_indexOf2 1 (.invokevirtual 492) 4 := ⟨by decide +kernel, rfl⟩
theorem d_J_indexOf2_4 : cd_D_if_eq b_J_indexOf2 4 23 7 := ⟨19, by decide +kernel, by decide, rfl⟩
theorem d_J_indexOf2_7 : cd_D_aload b_J_indexOf2 7 0 8 := Or.inr ⟨0, ⟨by decide +kernel, rfl⟩, rfl⟩
theorem d_J_indexOf2_8 : cd_D 3 b_J_indexOf2 8 (.getfield 9) 11 := ⟨by decide +kernel, rfl⟩
theorem d_J_indexOf2_11 : cd_D_iload b_J_indexOf2 11 1 12 := Or.inr ⟨1, ⟨by decide +kernel, rfl⟩, rfl⟩
theorem d_J_indexOf2_12 : cd_D_iload b_J_indexOf2 12 2 13 := Or.inr ⟨2, ⟨by decide +kernel, rfl⟩, rfl⟩
theorem d_J_indexOf2_13 : cd_D_aload b_J_indexOf2 13 0 14 := Or.inr ⟨0, ⟨by decide +kernel, rfl⟩, rfl⟩
theorem d_J_indexOf2_14 : cd_D 3 b_J_indexOf2 14 (.invokevirtual 505) 17 := ⟨by decide +kernel, rfl⟩
theorem d_J_indexOf2_17 : cd_D 3 b_J_indexOf2 17 (.invokestatic 637) 20 := ⟨by decide +kernel, rfl⟩
theorem d_J_indexOf2_20 : cd_D_goto b_J_indexOf2 20 36 := ⟨16, by decide +kernel, by decide⟩
theorem d_J_indexOf2_23 : cd_D_aload b_J_indexOf2 23 0 24 := Or.inr ⟨0, ⟨by decide +kernel, rfl⟩, rfl⟩
theorem d_J_indexOf2_24 : cd_D 3 b_J_indexOf2 24 (.getfield 9) 27 := ⟨by decide +kernel, rfl⟩
theorem d_J_indexOf2_27 : cd_D_iload b_J_indexOf2 27 1 28 := Or.inr ⟨1, ⟨by decide +kernel, rfl⟩, rfl⟩
theorem d_J_indexOf2_28 : cd_D_iload b_J_indexOf2 28 2 29 := Or.inr ⟨2, ⟨by decide +kernel, rfl⟩, rfl⟩
theorem d_J_indexOf2_29 : cd_D_aload b_J_indexOf2 29 0 30 := Or.inr ⟨0, ⟨by decide +kernel, rfl⟩, rfl⟩
theorem d_J_indexOf2_30 : cd_D 3 b_J_indexOf2 30 (.invokevirtual 505) 33 := ⟨by decide +kernel, rfl⟩
theorem d_J_indexOf2_33 : cd_D 3 b_J_indexOf2 33 (.invokestatic 640) 36 := ⟨by decide +kernel, rfl⟩
theorem d_J_indexOf2_36 : cd_D 1 b_J_indexOf2 36 .ireturn 37 := ⟨by decide +kernel, rfl⟩
theorem c_J_indexOf2 {l : Launch} {w : cd_WT} {S : cd_Sp} {I : cd_Mem} {i : Nat} (hi : i < 6) {c : Int32} (h0 : ¬ c < 0) (h1 : ¬ nI 255 < c) : cd_C l w m_J_indexOf2 2 0 0 [.ref (w.2.2.2.2.2.1 i), .int c, .int (nI 0)] S I (cd_Fi S (px_fi (cd_tb.getD i []) c.toInt8.toInt32 (cd_tl.getD i 0) 0) I) := by
  refine cd_intro (by decide) (by simp [Value.category]) (Nat.le_of_ble_eq_true rfl) ?_
  intro X hO hE
  show cd_J w X 0 0 S I 0 [some (.ref (w.2.2.2.2.2.1 i)), some (.int c), some (.int (nI 0))] []
  refine r_aload hO d_J_indexOf2_0 rfl ?_
  refine r_cVS0fi hO hE hi (c_J_isLatin1 hi) mf_J_isLatin1 lk_J_492 rfl (by omega) rfl (Nat.le_of_ble_eq_true rfl) d_J_indexOf2_1 (Nat.zero_le _) (Nat.zero_le _) ?_
  refine r_if_eq hO d_J_indexOf2_4 (fun c_4 => ?_) (fun c_4 => ?_)
  · exact absurd c_4 (by decide)
  · refine r_aload hO d_J_indexOf2_7 rfl ?_
    refine r_getSv hO hi fl_J_9 d_J_indexOf2_8 ?_
    refine r_iload hO d_J_indexOf2_11 rfl ?_
    refine r_iload hO d_J_indexOf2_12 rfl ?_
    refine r_aload hO d_J_indexOf2_13 rfl ?_
    refine r_cVS0fi hO hE hi (c_J_length hi) mf_J_length lk_J_505 rfl (by omega) rfl (Nat.le_of_ble_eq_true rfl) d_J_indexOf2_14 (Nat.zero_le _) (Nat.zero_le _) ?_
    refine r_cS4fi hO hE (c_Q_indexOf hi h0 h1) mf_Q_indexOf lk_J_637 (by decide) rfl (Nat.le_of_ble_eq_true rfl) d_J_indexOf2_17 (Nat.zero_le _) (Nat.zero_le _) ?_
    refine r_goto hO d_J_indexOf2_20 ?_
    refine r_iret hO hE (Nat.zero_le _) (Nat.zero_le _) d_J_indexOf2_36 ?_
    exact ⟨rfl, rfl, rfl⟩
theorem d_J_indexOf1_0 : cd_D_aload b_J_indexOf1 0 0 1 := Or.inr ⟨0, ⟨by decide +kernel, rfl⟩, rfl⟩
theorem d_J_indexOf1_1 : cd_D_iload b_J_indexOf1 1 1 2 := Or.inr ⟨1, ⟨by decide +kernel, rfl⟩, rfl⟩
theorem d_J_indexOf1_2 : cd_Dk b_J_indexOf1 2 (nI 0) 3 := Or.inl ⟨0, ⟨by decide +kernel, rfl⟩, by decide +kernel⟩
theorem d_J_indexOf1_3 : cd_D 3 b_J_indexOf1 3 (.invokevirtual 633) 6 := ⟨by decide +kernel, rfl⟩
theorem d_J_indexOf1_6 : cd_D 1 b_J_indexOf1 6 .ireturn 7 := ⟨by decide +kernel, rfl⟩
theorem c_J_indexOf1 {l : Launch} {w : cd_WT} {S : cd_Sp} {I : cd_Mem} {i : Nat} (hi : i < 6) {c : Int32} (h0 : ¬ c < 0) (h1 : ¬ nI 255 < c) : cd_C l w m_J_indexOf1 3 0 0 [.ref (w.2.2.2.2.2.1 i), .int c] S I (cd_Fi S (px_fi (cd_tb.getD i []) c.toInt8.toInt32 (cd_tl.getD i 0) 0) I) := by
  refine cd_intro (by decide) (by simp [Value.category]) (Nat.le_of_ble_eq_true rfl) ?_
  intro X hO hE
  show cd_J w X 0 0 S I 0 [some (.ref (w.2.2.2.2.2.1 i)), some (.int c)] []
  refine r_aload hO d_J_indexOf1_0 rfl ?_
  refine r_iload hO d_J_indexOf1_1 rfl ?_
  refine r_k hO d_J_indexOf1_2 ?_
  refine r_cVS2fi hO hE hi (c_J_indexOf2 hi h0 h1) mf_J_indexOf2 lk_J_633 rfl (by omega) rfl (Nat.le_of_ble_eq_true rfl) d_J_indexOf1_3 (Nat.zero_le _) (Nat.zero_le _) ?_
  refine r_iret hO hE (Nat.zero_le _) (Nat.zero_le _) d_J_indexOf1_6 ?_
  exact ⟨rfl, rfl, rfl⟩
