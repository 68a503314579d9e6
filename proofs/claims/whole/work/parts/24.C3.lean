section CDQ
variable {l : Launch} {w : cd_WT} {X : cd_XT} {cc : ByteArray} {own : String} {d mc ms : Nat} {k n : Nat} {S : cd_Sp} {I : cd_Mem} {pc pc' tgt : Nat} {lv : List (Option Value)} {st : List Value} {nL : Nat} {rt : Option FieldType} {nm : String} {post : cd_Pt}
def cd_Fr (S : cd_Sp) (v : Value) (J : cd_Mem) : cd_Pt := fun r S' I' => r = some v ∧ S' = S ∧ I' = J
theorem r_cV1fr (hO : cd_O w X cc own d mc ms l) (hE : cd_E w X nL rt mc ms nm post) {m : cd_MT} {d' index b c : Nat} {v1 v : Value} {J : cd_Mem} (hc : cd_C l w m d' 0 0 (.ref b :: [v1]) S I (cd_Fr S v J)) (hm : cd_MV m 1) (hlk : Cond.methodLink own index m.1 ∈ cd_ws) (hs : S.2.1 b = (1, c)) (hcl : (cd_cls[c]?).map (·.1) = some m.1.cls) (hdd : d' + 1 ≤ d) (hlv : lv.length = nL) (hcat : (st.map fun v => v.category).sum ≤ 8) (hd : cd_D 3 cc pc (.invokevirtual index) pc') (hk : k ≤ mc) (hn : n ≤ ms) (kk : cd_J w X k n S J pc' lv (v :: st)) : cd_J w X k n S I pc lv (v1 :: .ref b :: st) :=
  cd_callV hO hE.1 hc hm hlk hs hcl hdd rfl hlv rfl hcat hd ⟨hk, hn⟩ (fun r S' I' h => by obtain ⟨rfl, rfl, rfl⟩ := h; exact kk)
theorem r_sAN2 (hO : cd_O w X cc own d mc ms l) {a0 a1 a2 : Option Value} {t : List (Option Value)} (hd : cd_D_astore cc pc 2 pc') (hn : cd_nl a1 = true) (kk : cd_J w X k n S I pc' (a0 :: a1 :: some .null :: t) st) : cd_J w X k n S I pc (a0 :: a1 :: a2 :: t) (.null :: st) :=
  r_storeAN hO hd (cd_st1_set (by simp) (fun j u hj hu => by
    have hj2 : j = 1 := by omega
    subst hj2
    have : a1 = some u := Option.some.inj hu
    subst this
    exact eq_of_beq hn)) kk
end CDQ
/-- where a place of the flat row lies in a house -/
def cd_lx (h j : Nat) : Nat := if j < 3 then h else if j < 10 then h + 1 else if j < 15 then h + 2 else if j < 16 then h else h + 6 + (j - 16) / 5
def cd_lk (j : Nat) : Nat := if j < 1 then 5 else if j < 3 then j + 2 else if j < 10 then j - 3 else if j < 15 then j - 10 else if j < 16 then 7 else (j - 16) % 5
def cd_vw (I : cd_Mem) (h : Nat) : Nat → Int32 := fun j => I (cd_lx h j) (cd_lk j)
theorem cd_lx_inj {h j j' : Nat} (hj : j < 76) (hj' : j' < 76) (h1 : cd_lx h j' = cd_lx h j) (h2 : cd_lk j' = cd_lk j) : j' = j := by
  unfold cd_lx at h1
  unfold cd_lk at h2
  repeat' split at h1
  all_goals repeat' split at h2
  all_goals omega
theorem cd_lx_in {h j : Nat} (hj : j < 76) : h ≤ cd_lx h j ∧ cd_lx h j < h + 18 ∧ cd_lx h j ≠ h + 3 ∧ cd_lx h j ≠ h + 4 ∧ cd_lx h j ≠ h + 5 := by
  unfold cd_lx
  repeat' split
  all_goals omega
theorem cd_lx_a {h i q : Nat} (hq : q < 5) : cd_lx h (16 + 5 * i + q) = h + 6 + i := by
  unfold cd_lx
  rw [if_neg (by omega), if_neg (by omega), if_neg (by omega), if_neg (by omega)]
  omega
theorem cd_lk_a {i q : Nat} (hq : q < 5) : cd_lk (16 + 5 * i + q) = q := by
  unfold cd_lk
  rw [if_neg (by omega), if_neg (by omega), if_neg (by omega), if_neg (by omega), if_neg (by omega)]
  omega
theorem cd_vw_upd (I : cd_Mem) {h j : Nat} (v : Int32) (hj : j < 76) {j' : Nat} (hj' : j' < 76) : cd_vw (cd_set I (cd_lx h j) (upd (I (cd_lx h j)) (cd_lk j) v)) h j' = upd (cd_vw I h) j v j' := by
  unfold cd_vw
  by_cases h1 : cd_lx h j' = cd_lx h j
  · rw [h1, cd_set_eq]
    by_cases h2 : cd_lk j' = cd_lk j
    · have e := cd_lx_inj hj hj' h1 h2
      subst e
      simp [upd]
    · have hne : j' ≠ j := fun e => h2 (by rw [e])
      simp only [upd, h2, hne, if_false, h1]
  · have hne : j' ≠ j := fun e => h1 (by rw [e])
    rw [cd_set_ne _ _ h1]
    simp [upd, hne]
/-- the cells of a text that holds the t-th text of N -/
def cd_TA (w : cd_WT) (S : cd_Sp) (I : cd_Mem) (N : Nat → Int32) (t q : Nat) : Prop := ∃ n v, cd_XO w S (w.1 + 112 + 3 * q + 1) (w.1 + 112 + 3 * q) (w.1 + 112 + 3 * q + 2) n v ∧ n ≤ 96 ∧ v ≤ 96 ∧ cd_rem (N (76 + 2 * t)) (nI 1000) = nI n ∧ N (76 + 2 * t + 1) = nI v ∧ I (w.1 + 112 + 3 * q + 1) 0 = N (76 + 2 * t) / nI 1000 ∧ I (w.1 + 112 + 3 * q + 1) 1 = nI v ∧ (∀ k, k < n → I (w.1 + 112 + 3 * q) k = cd_tr (N (104 + 96 * t + k))) ∧ (∀ k, k < n → N (104 + 96 * t + k) < 0 → (-10) ≤ N (104 + 96 * t + k)) ∧ ∀ k, k < n → ¬ N (104 + 96 * t + k) < 0 → cd_dep (-10) (fun k => N (104 + 96 * t + k)) k < v
def cd_cn (N : Nat → Int32) (k tc : Nat) : Int32 := if 0 ≤ cd_cnt N (nI k) tc then cd_cnt N (nI k) tc else cd_NONE
/-- a house at h holds the flat row N -/
def cd_HR (w : cd_WT) (S : cd_Sp) (I : cd_Mem) (h : Nat) (N : Nat → Int32) (mm tc : Nat) : Prop := (∀ j, j < 16 + 5 * mm → cd_vw I h j = N j) ∧ (∀ t, t < tc → ∃ q, S.2.2 (h + 4) t = some (w.1 + 112 + 3 * q + 1) ∧ cd_TA w S I N t q) ∧ ∀ k, k < 3 → I (h + 5) k = cd_cn N k tc
/-- the cells that a house's acts may write: its own, and texts' stacks -/
def cd_wr (w : cd_WT) (h b : Nat) : Prop := (h ≤ b ∧ b < h + 18) ∨ (w.1 + 112 ≤ b ∧ (b - (w.1 + 112)) % 3 = 2)
def cd_ofh (w : cd_WT) (h : Nat) (I I' : cd_Mem) : Prop := ∀ b, ¬ cd_wr w h b → I' b = I b
theorem cd_ofh.rf (w : cd_WT) (h : Nat) (I : cd_Mem) : cd_ofh w h I I := fun _ _ => rfl
theorem cd_ofh.tr {w : cd_WT} {h : Nat} {I I1 I2 : cd_Mem} (a : cd_ofh w h I I1) (b : cd_ofh w h I1 I2) : cd_ofh w h I I2 := fun q hq => (b q hq).trans (a q hq)
theorem cd_ofh.set {w : cd_WT} {h : Nat} (I : cd_Mem) {a : Nat} (r : Nat → Int32) (ha : cd_wr w h a) : cd_ofh w h I (cd_set I a r) := fun b hb => cd_set_ne _ _ (fun e => hb (e ▸ ha))
theorem cd_TA.cg {w : cd_WT} {S : cd_Sp} {I I' : cd_Mem} {N : Nat → Int32} {t q : Nat} (h : cd_TA w S I N t q) (h1 : I' (w.1 + 112 + 3 * q + 1) = I (w.1 + 112 + 3 * q + 1)) (h2 : I' (w.1 + 112 + 3 * q) = I (w.1 + 112 + 3 * q)) : cd_TA w S I' N t q := by
  obtain ⟨n, v, a1, a2, a3, a4, a5, a6, a7, a8, a9⟩ := h
  exact ⟨n, v, a1, a2, a3, a4, a5, by rw [h1]; exact a6, by rw [h1]; exact a7, by rw [h2]; exact a8, a9⟩
theorem cd_cnt_cg {N N' : Nat → Int32} {key : Int32} : ∀ {tc : Nat}, (∀ t, t < tc → N' (76 + 2 * t) = N (76 + 2 * t)) → cd_cnt N' key tc = cd_cnt N key tc
  | 0, _ => rfl
  | t + 1, h => by
    unfold cd_cnt
    rw [h t (by omega), cd_cnt_cg (tc := t) (fun s hs => h s (by omega))]
theorem cd_TA.kq {w : cd_WT} {S : cd_Sp} {I : cd_Mem} {N N' : Nat → Int32} {t q : Nat} (h : cd_TA w S I N t q) (hN : ∀ j, 76 ≤ j → N' j = N j) : cd_TA w S I N' t q := by
  obtain ⟨n, v, a1, a2, a3, a4, a5, a6, a7, a8, a9, a10⟩ := h
  have e : (fun k => N' (104 + 96 * t + k)) = fun k => N (104 + 96 * t + k) := by
    funext k
    exact hN _ (by omega)
  refine ⟨n, v, a1, a2, a3, by rw [hN _ (by omega)]; exact a4, by rw [hN _ (by omega)]; exact a5, by rw [hN _ (by omega)]; exact a6, a7, fun k hk => by rw [hN _ (by omega)]; exact a8 k hk, fun k hk => by rw [hN _ (by omega)]; exact a9 k hk, fun k hk => by rw [hN _ (by omega), e]; exact a10 k hk⟩
/-- one place of the flat row is written -/
theorem cd_HR_upd {w : cd_WT} {S : cd_Sp} {I : cd_Mem} {h : Nat} {N : Nat → Int32} {mm tc : Nat} (H : cd_HR w S I h N mm tc) (hm : mm ≤ 12) (hh : h + 18 ≤ w.1 + 112) (j : Nat) (hj : j < 76) {a k : Nat} (ha : a = cd_lx h j) (hk : k = cd_lk j) (v : Int32) : cd_HR w S (cd_set I a (upd (I a) k v)) h (upd N j v) mm tc := by
  subst ha
  subst hk
  have hin := cd_lx_in (h := h) hj
  refine ⟨fun j' hj' => ?_, fun t ht => ?_, fun k hk => ?_⟩
  · rw [cd_vw_upd I v hj (by omega)]
    unfold upd
    split
    · rfl
    · exact H.1 j' hj'
  · obtain ⟨q, q1, q2⟩ := H.2.1 t ht
    exact ⟨q, q1, (q2.cg (cd_set_ne _ _ (by omega)) (cd_set_ne _ _ (by omega))).kq (fun z hz => if_neg (by omega))⟩
  · rw [cd_set_ne _ _ (by omega), H.2.2 k hk]
    unfold cd_cn
    rw [cd_cnt_cg (N := N) (N' := upd N j v) (fun t ht => if_neg (show ¬ 76 + 2 * t = j by omega))]
theorem cd_wr_lx {w : cd_WT} {h j : Nat} (hj : j < 76) : cd_wr w h (cd_lx h j) := Or.inl ⟨(cd_lx_in hj).1, (cd_lx_in hj).2.1⟩
/-- texts' stacks may change -/
theorem cd_HR.cg {w : cd_WT} {S : cd_Sp} {I I' : cd_Mem} {h : Nat} {N : Nat → Int32} {mm tc : Nat} (H : cd_HR w S I h N mm tc) (hm : mm ≤ 12) (h1 : ∀ b, h ≤ b → b < h + 18 → I' b = I b) (h2 : ∀ q, I' (w.1 + 112 + 3 * q) = I (w.1 + 112 + 3 * q) ∧ I' (w.1 + 112 + 3 * q + 1) = I (w.1 + 112 + 3 * q + 1)) : cd_HR w S I' h N mm tc := by
  refine ⟨fun j hj => ?_, fun t ht => ?_, fun k hk => ?_⟩
  · have hin := cd_lx_in (h := h) (j := j) (by omega)
    unfold cd_vw
    rw [h1 _ hin.1 hin.2.1]
    exact H.1 j hj
  · obtain ⟨q, q1, q2⟩ := H.2.1 t ht
    exact ⟨q, q1, q2.cg (h2 q).2 (h2 q).1⟩
  · rw [h1 _ (by omega) (by omega)]
    exact H.2.2 k hk
def cd_IV (N : Nat → Int32) (mm : Nat) : Prop := (∀ i, i < mm → (∃ k, k ≤ 5 ∧ N (16 + 5 * i + 0) = nI k) ∧ (∃ k, k ≤ 23 ∧ N (16 + 5 * i + 1) = nI k) ∧ (∃ k, k ≤ 99 ∧ N (16 + 5 * i + 2) = nI k) ∧ ∃ k, k ≤ 100 ∧ N (16 + 5 * i + 3) = nI k) ∧ (∃ k, k ≤ 99 ∧ N 3 = nI k) ∧ (N 6 = 0 ∨ N 6 = nI 1) ∧ (N 7 = 0 ∨ N 7 = nI 1) ∧ (N 8 = 0 ∨ N 8 = nI 1) ∧ (N 9 = 0 ∨ N 9 = nI 1)
/-- all that is known of a house and its row -/
def cd_HG (w : cd_WT) (S : cd_Sp) (I : cd_Mem) (h : Nat) (N : Nat → Int32) (mm tc : Nat) : Prop := cd_HO w S h ∧ h + 18 ≤ w.1 + 112 ∧ cd_V N mm tc ∧ cd_IV N mm ∧ cd_HR w S I h N mm tc
theorem cd_HR.at {w : cd_WT} {S : cd_Sp} {I : cd_Mem} {h : Nat} {N : Nat → Int32} {mm tc : Nat} (H : cd_HR w S I h N mm tc) (j : Nat) (hj : j < 16 + 5 * mm) {a k : Nat} (ha : a = cd_lx h j) (hk : k = cd_lk j) : I a k = N j := by
  subst ha
  subst hk
  exact H.1 j hj
theorem cd_HR.ask {w : cd_WT} {S : cd_Sp} {I : cd_Mem} {h : Nat} {N : Nat → Int32} {mm tc : Nat} (H : cd_HR w S I h N mm tc) {i : Nat} (hi : i < mm) (q : Nat) (hq : q < 5) : I (h + 6 + i) q = N (16 + 5 * i + q) := H.at _ (by omega) (cd_lx_a hq).symm (cd_lk_a hq).symm
theorem d_H_draw_0 : cd_D_aload b_H_draw 0 0 1 := Or.inr ⟨0, ⟨by decide +kernel, rfl⟩, rfl⟩
theorem d_H_draw_1 : cd_D_aload b_H_draw 1 0 2 := Or.inr ⟨0, ⟨by decide +kernel, rfl⟩, rfl⟩
theorem d_H_draw_2 : cd_D 3 b_H_draw 2 (.getfield 31) 5 := ⟨by decide +kernel, rfl⟩
theorem d_H_draw_5 : cd_D 2 b_H_draw 5 (.ldc 86) 7 := ⟨by decide +kernel, rfl⟩
theorem d_H_draw_7 : cd_D 1 b_H_draw 7 .imul 8 := ⟨by decide +kernel, rfl⟩
theorem d_H_draw_8 : cd_Dk b_H_draw 8 (nI 12345) 11 := Or.inr (Or.inr ⟨12345, ⟨by decide +kernel, rfl⟩, by decide +kernel⟩)
theorem d_H_draw_11 : cd_D 1 b_H_draw 11 .iadd 12 := ⟨by decide +kernel, rfl⟩
theorem d_H_draw_12 : cd_D 3 b_H_draw 12 (.putfield 31) 15 := ⟨by decide +kernel, rfl⟩
theorem d_H_draw_15 : cd_D_aload b_H_draw 15 0 16 := Or.inr ⟨0, ⟨by decide +kernel, rfl⟩, rfl⟩
theorem d_H_draw_16 : cd_D 3 b_H_draw 16 (.getfield 31) 19 := ⟨by decide +kernel, rfl⟩
theorem d_H_draw_19 : cd_Dk b_H_draw 19 (nI 8) 21 := Or.inr (Or.inl ⟨8, ⟨by decide +kernel, rfl⟩, by decide +kernel⟩)
theorem d_H_draw_21 : cd_D 1 b_H_draw 21 .iushr 22 := ⟨by decide +kernel, rfl⟩
theorem d_H_draw_22 : cd_D 1 b_H_draw 22 .ireturn 23 := ⟨by decide +kernel, rfl⟩
theorem c_H_draw {l : Launch} {w : cd_WT} {S : cd_Sp} {I : cd_Mem} {h : Nat} (hH : cd_HO w S h)  : cd_C l w m_H_draw 0 0 0 [.ref h] S I (cd_Fi S (cd_ush (cd_z (I h 5)) (nI 8)) (cd_set I h (upd (I h) 5 (cd_z (I h 5))))) := by
  refine cd_intro (by decide) (by simp [Value.category]) (Nat.le_of_ble_eq_true rfl) ?_
  intro X hO hE
  show cd_J w X 0 0 S I 0 [some (.ref h)] []
  refine r_aload hO d_H_draw_0 rfl ?_
  refine r_aload hO d_H_draw_1 rfl ?_
  refine r_getI hO f_H_31 rfl hH.2.1 d_H_draw_2 ?_
  refine r_ldc hO k_H_86 d_H_draw_5 ?_
  refine r_imul hO d_H_draw_7 ?_
  refine r_k hO d_H_draw_8 ?_
  refine r_iadd hO d_H_draw_11 ?_
  refine r_putI hO f_H_31 rfl hH.2.1 hH.1 d_H_draw_12 ?_
  refine r_aload hO d_H_draw_15 rfl ?_
  refine r_getI hO f_H_31 rfl hH.2.1 d_H_draw_16 ?_
  try simp only [cd_set_eq, cd_set_set]
  refine r_tops (show _ = cd_z (I h 5) from rfl) ?_
  refine r_k hO d_H_draw_19 ?_
  refine r_iushr hO d_H_draw_21 ?_
  refine r_iret hO hE (Nat.zero_le _) (Nat.zero_le _) d_H_draw_22 ?_
  exact ⟨rfl, rfl, rfl⟩
theorem d_H_drawsBelow_0 : cd_D_aload b_H_drawsBelow 0 0 1 := Or.inr ⟨0, ⟨by decide +kernel, rfl⟩, rfl⟩
theorem d_H_drawsBelow_1 : cd_D 3 b_H_drawsBelow 1 (.invokevirtual 87) 4 := ⟨by decide +kernel, rfl⟩
theorem d_H_drawsBelow_4 : cd_Dk b_H_drawsBelow 4 (nI 100) 6 := Or.inr (Or.inl ⟨100, ⟨by decide +kernel, rfl⟩, by decide +kernel⟩)
theorem d_H_drawsBelow_6 : cd_D 1 b_H_drawsBelow 6 .irem 7 := ⟨by decide +kernel, rfl⟩
theorem d_H_drawsBelow_7 : cd_D_iload b_H_drawsBelow 7 1 8 := Or.inr ⟨1, ⟨by decide +kernel, rfl⟩, rfl⟩
theorem d_H_drawsBelow_8 : cd_D_icmp_ge b_H_drawsBelow 8 15 11 := ⟨7, by decide +kernel, by decide, rfl⟩
theorem d_H_drawsBelow_11 : cd_Dk b_H_drawsBelow 11 (nI 1) 12 := Or.inl ⟨1, ⟨by decide +kernel, rfl⟩, by decide +kernel⟩
theorem d_H_drawsBelow_12 : cd_D_goto b_H_drawsBelow 12 16 := ⟨4, by decide +kernel, by decide⟩
theorem d_H_drawsBelow_15 : cd_Dk b_H_drawsBelow 15 (nI 0) 16 := Or.inl ⟨0, ⟨by decide +kernel, rfl⟩, by decide +kernel⟩
theorem d_H_drawsBelow_16 : cd_D 1 b_H_drawsBelow 16 .ireturn 17 := ⟨by decide +kernel, rfl⟩
theorem c_H_drawsBelow {l : Launch} {w : cd_WT} {S : cd_Sp} {I : cd_Mem} {h : Nat} (hH : cd_HO w S h) (b : Int32) : cd_C l w m_H_drawsBelow 1 0 0 [.ref h, .int b] S I (cd_Fi S (cd_bI (¬ b ≤ cd_rem (cd_ush (cd_z (I h 5)) (nI 8)) (nI 100))) (cd_set I h (upd (I h) 5 (cd_z (I h 5))))) := by
  refine cd_intro (by decide) (by simp [Value.category]) (Nat.le_of_ble_eq_true rfl) ?_
  intro X hO hE
  show cd_J w X 0 0 S I 0 [some (.ref h), some (.int b)] []
  refine r_aload hO d_H_drawsBelow_0 rfl ?_
  refine r_cV0fi hO hE (c_H_draw hH) mf_H_draw lk_H_87 hH.2.1 rfl (by decide) rfl (Nat.le_of_ble_eq_true rfl) d_H_drawsBelow_1 (Nat.zero_le _) (Nat.zero_le _) ?_
  refine r_k hO d_H_drawsBelow_4 ?_
  refine r_irem hO d_H_drawsBelow_6 (by decide) ?_
  refine r_iload hO d_H_drawsBelow_7 rfl ?_
  refine r_icmp_ge hO d_H_drawsBelow_8 (fun c_8 => ?_) (fun c_8 => ?_)
  · refine r_k hO d_H_drawsBelow_15 ?_
    refine r_zret hO hE (by first | exact Or.inl rfl | exact Or.inr rfl) (Nat.zero_le _) (Nat.zero_le _) d_H_drawsBelow_16 ?_
    exact ⟨by unfold cd_bI; simp only [c_8, not_true, not_false_eq_true, if_true, if_false]; rfl, rfl, rfl⟩
  · refine r_k hO d_H_drawsBelow_11 ?_
    refine r_goto hO d_H_drawsBelow_12 ?_
    refine r_zret hO hE (by first | exact Or.inl rfl | exact Or.inr rfl) (Nat.zero_le _) (Nat.zero_le _) d_H_drawsBelow_16 ?_
    exact ⟨by unfold cd_bI; simp only [c_8, not_true, not_false_eq_true, if_true, if_false]; rfl, rfl, rfl⟩
