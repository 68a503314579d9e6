theorem cd_al_n {S : cd_Sp} {a b : Nat} {sh : Nat × Nat} (h : b ≠ a) : (cd_al S a sh).2.1 b = S.2.1 b := if_neg h
theorem cd_al_e (S : cd_Sp) (a : Nat) (sh : Nat × Nat) : (cd_al S a sh).2.1 a = sh := if_pos rfl
theorem cd_al_rn {S : cd_Sp} {a b : Nat} {sh : Nat × Nat} (h : b ≠ a) : (cd_al S a sh).2.2 b = S.2.2 b := if_neg h
theorem cd_al_re (S : cd_Sp) (a : Nat) (sh : Nat × Nat) : (cd_al S a sh).2.2 a = (fun _ => none) := if_pos rfl
theorem cd_sr_s (S : cd_Sp) (a j v b : Nat) : (cd_sr S a j v).2.1 b = S.2.1 b := rfl
theorem cd_sr_n {S : cd_Sp} {a j v b : Nat} (h : b ≠ a) : (cd_sr S a j v).2.2 b = S.2.2 b := if_neg h
theorem cd_sr_e (S : cd_Sp) (a j v : Nat) : (cd_sr S a j v).2.2 a j = some v := by
  show (if a = a then va_up (S.2.2 a) j (some v) else _) j = _
  rw [if_pos rfl]
  simp [va_up]
theorem cd_sr_o {S : cd_Sp} {a j v k : Nat} (h : k ≠ j) : (cd_sr S a j v).2.2 a k = S.2.2 a k := by
  show (if a = a then va_up (S.2.2 a) j (some v) else _) k = _
  rw [if_pos rfl]
  simp [va_up, h]
theorem px_tk_f (B : Nat → Nat) (L : Nat) : px_tk B L (0 = 1 ∨ 0 = 2) 0 = px_tk B L False 0 := by
  unfold px_tk
  simp
section CDNA
variable {l : Launch} {w : cd_WT} {X : cd_XT} {cc : ByteArray} {own : String} {d mc ms : Nat} {k n : Nat} {S : cd_Sp} {I : cd_Mem} {pc pc' tgt : Nat} {lv : List (Option Value)} {st : List Value} {nL : Nat} {rt : Option FieldType} {nm : String} {post : cd_Pt}
theorem r_na0 (a : Nat) (hO : cd_O w X cc own d mc ms l) (ha : a = w.1 + S.1) {N : Nat} (hN : N < 2 ^ 20) (hd : cd_D 2 cc pc (.newarray .int) pc') (hk : k + 1 ≤ mc) (hn : n + N ≤ ms) (kk : cd_J w X (k + 1) (n + N) (cd_al S a (2, N)) (cd_set I a (fun _ => nI 0)) pc' lv (.ref a :: st)) : cd_J w X k n S I pc lv (.int (nI N) :: st) := by
  subst ha
  exact r_new0 hO hN ac_int hd hk hn kk
theorem r_na1 (a : Nat) (hO : cd_O w X cc own d mc ms l) (ha : a = w.1 + S.1) {N : Nat} (hN : N < 2 ^ 20) (hd : cd_D 2 cc pc (.newarray .byte) pc') (hk : k + 1 ≤ mc) (hn : n + N ≤ ms) (kk : cd_J w X (k + 1) (n + N) (cd_al S a (3, N)) (cd_set I a (fun _ => nI 0)) pc' lv (.ref a :: st)) : cd_J w X k n S I pc lv (.int (nI N) :: st) := by
  subst ha
  exact r_new1 hO hN ac_byte hd hk hn kk
theorem r_na2 (a : Nat) (hO : cd_O w X cc own d mc ms l) (ha : a = w.1 + S.1) {N : Nat} (hN : N < 2 ^ 20) (hd : cd_D 2 cc pc (.newarray .char) pc') (hk : k + 1 ≤ mc) (hn : n + N ≤ ms) (kk : cd_J w X (k + 1) (n + N) (cd_al S a (4, N)) (cd_set I a (fun _ => nI 0)) pc' lv (.ref a :: st)) : cd_J w X k n S I pc lv (.int (nI N) :: st) := by
  subst ha
  exact r_new2 hO hN ac_char hd hk hn kk
theorem r_na3 (a : Nat) (hO : cd_O w X cc own d mc ms l) (ha : a = w.1 + S.1) {N : Nat} (hN : N < 2 ^ 20) (hd : cd_D 2 cc pc (.newarray .boolean) pc') (hk : k + 1 ≤ mc) (hn : n + N ≤ ms) (kk : cd_J w X (k + 1) (n + N) (cd_al S a (5, N)) (cd_set I a (fun _ => nI 0)) pc' lv (.ref a :: st)) : cd_J w X k n S I pc lv (.int (nI N) :: st) := by
  subst ha
  exact r_new3 hO hN ac_boolean hd hk hn kk
theorem r_anewa (a : Nat) (hO : cd_O w X cc own d mc ms l) (ha : a = w.1 + S.1) {N t i index : Nat} (hN : N < 2 ^ 20) (hi : i < 4) (ht : t < 8) (hty : cd_aty t = .object (cd_oc i)) (hav : cd_av t (nI 0) none = .null) (hlk : Cond.classLink own index (cd_oc i) ∈ cd_ws) (hd : cd_D 3 cc pc (.anewarray index) pc') (hk : k + 1 ≤ mc) (hn : n + N ≤ ms) (kk : cd_J w X (k + 1) (n + N) (cd_al S a (t + 2, N)) (cd_set I a (fun _ => nI 0)) pc' lv (.ref a :: st)) : cd_J w X k n S I pc lv (.int (nI N) :: st) := by
  subst ha
  exact r_anew hO hN hi ht hty hav hlk hd hk hn kk
theorem r_newa (a : Nat) (hO : cd_O w X cc own d mc ms l) (ha : a = w.1 + S.1) {c N index : Nat} {C : String} {T : u_T} {tys : Nat → FieldType} (hci : cd_CI c C T N tys) (hdf : ∀ j, j < N → defaultValue (tys j) = cd_ov c j (nI 0) none) (hlk : Cond.classLink own index C ∈ cd_ws) (hin : Cond.instantiable C N ∈ cd_ws) (hini : Cond.initialized C ∈ cd_ws) (hd : cd_D 3 cc pc (.new index) pc') (hk : k + 1 ≤ mc) (hn : n + N ≤ ms) (kk : cd_J w X (k + 1) (n + N) (cd_al S a (1, c)) (cd_set I a (fun _ => nI 0)) pc' lv (.ref a :: st)) : cd_J w X k n S I pc lv st := by
  subst ha
  exact r_new hO hci hdf hlk hin hini hd hk hn kk
end CDNA
theorem d_X_init_0 : cd_D_aload b_X_init 0 0 1 := Or.inr ⟨0, ⟨by decide +kernel, rfl⟩, rfl⟩
theorem d_X_init_1 : cd_D 3 b_X_init 1 (.invokespecial 3) 4 := ⟨by decide +kernel, rfl⟩
theorem d_X_init_4 : cd_D_aload b_X_init 4 0 5 := Or.inr ⟨0, ⟨by decide +kernel, rfl⟩, rfl⟩
theorem d_X_init_5 : cd_D_iload b_X_init 5 1 6 := Or.inr ⟨1, ⟨by decide +kernel, rfl⟩, rfl⟩
theorem d_X_init_6 : cd_D 3 b_X_init 6 (.putfield 9) 9 := ⟨by decide +kernel, rfl⟩
theorem d_X_init_9 : cd_D_aload b_X_init 9 0 10 := Or.inr ⟨0, ⟨by decide +kernel, rfl⟩, rfl⟩
theorem d_X_init_10 : cd_D_iload b_X_init 10 2 11 := Or.inr ⟨2, ⟨by decide +kernel, rfl⟩, rfl⟩
theorem d_X_init_11 : cd_D 3 b_X_init 11 (.putfield 15) 14 := ⟨by decide +kernel, rfl⟩
theorem d_X_init_14 : cd_D_aload b_X_init 14 0 15 := Or.inr ⟨0, ⟨by decide +kernel, rfl⟩, rfl⟩
theorem d_X_init_15 : cd_D_aload b_X_init 15 3 16 := Or.inr ⟨3, ⟨by decide +kernel, rfl⟩, rfl⟩
theorem d_X_init_16 : cd_D 3 b_X_init 16 (.putfield 18) 19 := ⟨by decide +kernel, rfl⟩
theorem d_X_init_19 : cd_D_aload b_X_init 19 0 20 := Or.inr ⟨0, ⟨by decide +kernel, rfl⟩, rfl⟩
theorem d_X_init_20 : cd_D_iload b_X_init 20 2 21 := Or.inr ⟨2, ⟨by decide +kernel, rfl⟩, rfl⟩
theorem d_X_init_21 : cd_D 2 b_X_init 21 (.newarray .int) 23 := ⟨by decide +kernel, rfl⟩
theorem d_X_init_23 : cd_D 3 b_X_init 23 (.putfield 22) 26 := ⟨by decide +kernel, rfl⟩
theorem d_X_init_26 : cd_D 1 b_X_init 26 .return_ 27 := ⟨by decide +kernel, rfl⟩
theorem c_X_init {l : Launch} {w : cd_WT} {S : cd_Sp} {I : cd_Mem} {x cx v : Nat} {ky : Int32} (hX : S.2.1 x = (1, 5)) (hXl : w.1 ≤ x) (a : Nat) (ha : a = w.1 + S.1) (hxa : x ≠ a) (hv : v ≤ 96) : cd_C l w m_X_init 1 1 v [.ref x, .int ky, .int (nI v), .ref cx] S I (fun r S' I' => r = none ∧ S' = cd_sr (cd_al (cd_sr S x 2 cx) a (2, v)) x 3 a ∧ I' = cd_set (cd_set I x (upd (upd (I x) 0 ky) 1 (nI v))) a (fun _ => nI 0)) := by
  refine cd_intro (by decide) (by simp [Value.category]) (Nat.le_of_ble_eq_true rfl) ?_
  intro X hO hE
  show cd_J w X 0 0 S I 0 [some (.ref x), some (.int ky), some (.int (nI v)), some (.ref cx)] []
  refine r_aload hO d_X_init_0 rfl ?_
  refine r_objI hO hE lk_X_3 oi_i oi_c (by omega) rfl (Nat.le_of_ble_eq_true rfl) d_X_init_1 ?_
  try simp (disch := omega) only [cd_set_eq, cd_set_ne, cd_set_set]
  refine r_aload hO d_X_init_4 rfl ?_
  refine r_iload hO d_X_init_5 rfl ?_
  refine r_putFI hO hE f_X_9 rfl rfl hX hXl d_X_init_6 ?_
  try simp (disch := omega) only [cd_set_eq, cd_set_ne, cd_set_set]
  refine r_aload hO d_X_init_9 rfl ?_
  refine r_iload hO d_X_init_10 rfl ?_
  refine r_putFI hO hE f_X_15 rfl rfl hX hXl d_X_init_11 ?_
  try simp (disch := omega) only [cd_set_eq, cd_set_ne, cd_set_set]
  refine r_aload hO d_X_init_14 rfl ?_
  refine r_aload hO d_X_init_15 rfl ?_
  refine r_putFR hO hE f_X_18 rfl rfl rfl rfl hX hXl d_X_init_16 ?_
  try simp (disch := omega) only [cd_set_eq, cd_set_ne, cd_set_set]
  refine r_aload hO d_X_init_19 rfl ?_
  refine r_iload hO d_X_init_20 rfl ?_
  refine r_na0 a hO (show a = w.1 + (cd_sr S x 2 cx).1 from ha) (N := v) (by omega) d_X_init_21 (by omega) (by omega) ?_
  refine r_putFR hO hE f_X_22 rfl rfl rfl rfl (show (cd_al (cd_sr S x 2 cx) a (2, v)).2.1 x = (1, 5) by rw [cd_al_n hxa]; exact hX) hXl d_X_init_23 ?_
  try simp (disch := omega) only [cd_set_eq, cd_set_ne, cd_set_set]
  refine r_vret hO hE (by omega) (by omega) d_X_init_26 ?_
  exact ⟨rfl, rfl, rfl⟩
/-- what a reading of a whole text leaves -/
def px_RT (w : cd_WT) (S : cd_Sp) (I : cd_Mem) (B : Nat → Nat) (L : Nat) : cd_Pt := fun r S' I' => ((px_res B L).1 = false ∧ r = some .null ∧ S' = S ∧ I' (w.1 + 55) 1 = nI (px_res B L).2.1 ∧ cd_off I I' [w.1 + 55, w.1 + 57]) ∨ ((px_res B L).1 = true ∧ r = some (.ref (w.1 + S.1 + 1)) ∧ S'.1 = S.1 + 3 ∧ (∀ b, b < w.1 + S.1 ∨ w.1 + S.1 + 3 ≤ b → S'.2.1 b = S.2.1 b ∧ S'.2.2 b = S.2.2 b) ∧ cd_XO w S' (w.1 + S.1 + 1) (w.1 + S.1) (w.1 + S.1 + 2) (px_res B L).2.2.2.length (px_lv (px_res B L).2.2.2) ∧ (∀ k, k < (px_res B L).2.2.2.length → I' (w.1 + S.1) k = cd_tr ((px_res B L).2.2.2.getD k 0)) ∧ I' (w.1 + S.1 + 1) 0 = nI (px_res B L).2.2.1 ∧ I' (w.1 + S.1 + 1) 1 = nI (px_lv (px_res B L).2.2.2) ∧ ∀ b, b < w.1 + S.1 ∨ w.1 + S.1 + 3 ≤ b → b ≠ w.1 + 55 → b ≠ w.1 + 57 → I' b = I b)
theorem d_T_readsText_0 : cd_D_aload b_T_readsText 0 0 1 := Or.inr ⟨0, ⟨by decide +kernel, rfl⟩, rfl⟩
theorem d_T_readsText_1 : cd_Dk b_T_readsText 1 (nI 0) 2 := Or.inl ⟨0, ⟨by decide +kernel, rfl⟩, by decide +kernel⟩
theorem d_T_readsText_2 : cd_D 3 b_T_readsText 2 (.putfield 18) 5 := ⟨by decide +kernel, rfl⟩
theorem d_T_readsText_5 : cd_D_aload b_T_readsText 5 0 6 := Or.inr ⟨0, ⟨by decide +kernel, rfl⟩, rfl⟩
theorem d_T_readsText_6 : cd_Dk b_T_readsText 6 (nI 0) 7 := Or.inl ⟨0, ⟨by decide +kernel, rfl⟩, by decide +kernel⟩
theorem d_T_readsText_7 : cd_D 3 b_T_readsText 7 (.putfield 21) 10 := ⟨by decide +kernel, rfl⟩
theorem d_T_readsText_10 : cd_D_aload b_T_readsText 10 0 11 := Or.inr ⟨0, ⟨by decide +kernel, rfl⟩, rfl⟩
theorem d_T_readsText_11 : cd_Dk b_T_readsText 11 (nI 0) 12 := Or.inl ⟨0, ⟨by decide +kernel, rfl⟩, by decide +kernel⟩
theorem d_T_readsText_12 : cd_D 3 b_T_readsText 12 (.putfield 27) 15 := ⟨by decide +kernel, rfl⟩
theorem d_T_readsText_15 : cd_D_aload b_T_readsText 15 0 16 := Or.inr ⟨0, ⟨by decide +kernel, rfl⟩, rfl⟩
theorem d_T_readsText_16 : cd_Dk b_T_readsText 16 (nI 0) 17 := Or.inl ⟨0, ⟨by decide +kernel, rfl⟩, by decide +kernel⟩
theorem d_T_readsText_17 : cd_D 3 b_T_readsText 17 (.putfield 30) 20 := ⟨by decide +kernel, rfl⟩
theorem d_T_readsText_20 : cd_D_aload b_T_readsText 20 0 21 := Or.inr ⟨0, ⟨by decide +kernel, rfl⟩, rfl⟩
theorem d_T_readsText_21 : cd_D 3 b_T_readsText 21 (.invokevirtual 41) 24 := ⟨by decide +kernel, rfl⟩
theorem d_T_readsText_24 : cd_D_aload b_T_readsText 24 0 25 := Or.inr ⟨0, ⟨by decide +kernel, rfl⟩, rfl⟩
theorem d_T_readsText_25 : cd_D 3 b_T_readsText 25 (.invokevirtual 44) 28 := ⟨by decide +kernel, rfl⟩
theorem d_T_readsText_28 : cd_D_if_eq b_T_readsText 28 48 31 := ⟨20, by decide +kernel, by decide, rfl⟩
theorem d_T_readsText_31 : cd_D_aload b_T_readsText 31 0 32 := Or.inr ⟨0, ⟨by decide +kernel, rfl⟩, rfl⟩
theorem d_T_readsText_32 : cd_Dk b_T_readsText 32 (nI 0) 33 := Or.inl ⟨0, ⟨by decide +kernel, rfl⟩, by decide +kernel⟩
theorem d_T_readsText_33 : cd_Dk b_T_readsText 33 (nI 0) 34 := Or.inl ⟨0, ⟨by decide +kernel, rfl⟩, by decide +kernel⟩
theorem d_T_readsText_34 : cd_Dk b_T_readsText 34 (nI 0) 35 := Or.inl ⟨0, ⟨by decide +kernel, rfl⟩, by decide +kernel⟩
theorem d_T_readsText_35 : cd_D 3 b_T_readsText 35 (.invokevirtual 48) 38 := ⟨by decide +kernel, rfl⟩
theorem d_T_readsText_38 : cd_D_if_eq b_T_readsText 38 48 41 := ⟨10, by decide +kernel, by decide, rfl⟩
theorem d_T_readsText_41 : cd_D_aload b_T_readsText 41 0 42 := Or.inr ⟨0, ⟨by decide +kernel, rfl⟩, rfl⟩
theorem d_T_readsText_42 : cd_D 3 b_T_readsText 42 (.getfield 21) 45 := ⟨by decide +kernel, rfl⟩
theorem d_T_readsText_45 : cd_D_if_eq b_T_readsText 45 50 48 := ⟨5, by decide +kernel, by decide, rfl⟩
theorem d_T_readsText_48 : cd_D 1 b_T_readsText 48 .aconst_null 49 := ⟨by decide +kernel, rfl⟩
theorem d_T_readsText_49 : cd_D 1 b_T_readsText 49 .areturn 50 := ⟨by decide +kernel, rfl⟩
theorem d_T_readsText_50 : cd_D_aload b_T_readsText 50 0 51 := Or.inr ⟨0, ⟨by decide +kernel, rfl⟩, rfl⟩
theorem d_T_readsText_51 : cd_D 3 b_T_readsText 51 (.getfield 30) 54 := ⟨by decide +kernel, rfl⟩
theorem d_T_readsText_54 : cd_D 2 b_T_readsText 54 (.newarray .int) 56 := ⟨by decide +kernel, rfl⟩
theorem d_T_readsText_56 : cd_D_astore b_T_readsText 56 1 57 := Or.inr ⟨1, ⟨by decide +kernel, rfl⟩, rfl⟩
theorem d_T_readsText_57 : cd_D_aload b_T_readsText 57 0 58 := Or.inr ⟨0, ⟨by decide +kernel, rfl⟩, rfl⟩
theorem d_T_readsText_58 : cd_D 3 b_T_readsText 58 (.getfield 37) 61 := ⟨by decide +kernel, rfl⟩
theorem d_T_readsText_61 : cd_Dk b_T_readsText 61 (nI 0) 62 := Or.inl ⟨0, ⟨by decide +kernel, rfl⟩, by decide +kernel⟩
theorem d_T_readsText_62 : cd_D_aload b_T_readsText 62 1 63 := Or.inr ⟨1, ⟨by decide +kernel, rfl⟩, rfl⟩
theorem d_T_readsText_63 : cd_Dk b_T_readsText 63 (nI 0) 64 := Or.inl ⟨0, ⟨by decide +kernel, rfl⟩, by decide +kernel⟩
theorem d_T_readsText_64 : cd_D_aload b_T_readsText 64 0 65 := Or.inr ⟨0, ⟨by decide +kernel, rfl⟩, rfl⟩
theorem d_T_readsText_65 : cd_D 3 b_T_readsText 65 (.getfield 30) 68 := ⟨by decide +kernel, rfl⟩
theorem d_T_readsText_68 : cd_D 3 b_T_readsText 68 (.invokestatic 52) 71 := ⟨by decide +kernel, rfl⟩
theorem d_T_readsText_71 : cd_D 3 b_T_readsText 71 (.new 58) 74 := ⟨by decide +kernel, rfl⟩
theorem d_T_readsText_74 : cd_D 1 b_T_readsText 74 .dup 75 := ⟨by decide +kernel, rfl⟩
theorem d_T_readsText_75 : cd_D_aload b_T_readsText 75 0 76 := Or.inr ⟨0, ⟨by decide +kernel, rfl⟩, rfl⟩
theorem d_T_readsText_76 : cd_D 3 b_T_readsText 76 (.getfield 24) 79 := ⟨by decide +kernel, rfl⟩
theorem d_T_readsText_79 : cd_D_aload b_T_readsText 79 0 80 := Or.inr ⟨0, ⟨by decide +kernel, rfl⟩, rfl⟩
theorem d_T_readsText_80 : cd_D 3 b_T_readsText 80 (.getfield 27) 83 := ⟨by decide +kernel, rfl⟩
theorem d_T_readsText_83 : cd_D_aload b_T_readsText 83 1 84 := Or.inr ⟨1, ⟨by decide +kernel, rfl⟩, rfl⟩
theorem d_T_readsText_84 : cd_D 3 b_T_readsText 84 (.invokespecial 60) 87 := ⟨by decide +kernel, rfl⟩
theorem d_T_readsText_87 : cd_D 1 b_T_readsText 87 .areturn 88 := ⟨by decide +kernel, rfl⟩
theorem c_T_readsText {l : Launch} {w : cd_WT} {S : cd_Sp} {I : cd_Mem} (hC : cd_CD w S) {B : Nat → Nat} {L : Nat} (hB : px_CP I w B L) (hS9 : 112 ≤ S.1) : cd_C l w m_T_readsText 80 3 196 [.ref (w.1 + 55)] S I (px_RT w S I B L) := by
  refine cd_intro (by decide) (by simp [Value.category]) (Nat.le_of_ble_eq_true rfl) ?_
  intro X hO hE
  show cd_J w X 0 0 S I 0 [some (.ref (w.1 + 55)), none] []
  have hL9 := hB.2.1
  obtain ⟨t0, ht0⟩ : ∃ t0, px_tk B L False 0 = t0 := ⟨_, rfl⟩
  have b2 : px_TO B L t0 := by rw [← ht0]; exact (px_tk_ok B False (Nat.zero_le _)).1
  refine r_aload hO d_T_readsText_0 rfl ?_
  refine r_k hO d_T_readsText_1 ?_
  refine r_putI hO f_T_18 rfl hC.2.2.2.2.2.2.2.2.2.2.2.2.1.1 (Nat.le_add_right _ _) d_T_readsText_2 ?_
  refine r_aload hO d_T_readsText_5 rfl ?_
  refine r_k hO d_T_readsText_6 ?_
  refine r_putI hO f_T_21 rfl hC.2.2.2.2.2.2.2.2.2.2.2.2.1.1 (Nat.le_add_right _ _) d_T_readsText_7 ?_
  try simp (disch := omega) only [cd_set_eq, cd_set_ne, cd_set_set]
  refine r_aload hO d_T_readsText_10 rfl ?_
  refine r_k hO d_T_readsText_11 ?_
  refine r_putI hO f_T_27 rfl hC.2.2.2.2.2.2.2.2.2.2.2.2.1.1 (Nat.le_add_right _ _) d_T_readsText_12 ?_
  try simp (disch := omega) only [cd_set_eq, cd_set_ne, cd_set_set]
  refine r_aload hO d_T_readsText_15 rfl ?_
  refine r_k hO d_T_readsText_16 ?_
  refine r_putI hO f_T_30 rfl hC.2.2.2.2.2.2.2.2.2.2.2.2.1.1 (Nat.le_add_right _ _) d_T_readsText_17 ?_
  try simp (disch := omega) only [cd_set_eq, cd_set_ne, cd_set_set]
  refine r_aload hO d_T_readsText_20 rfl ?_
  refine r_cV0v hO hE (c_T_advances hC (B := B) (L := L) (p := 0) (s := 0) (by unfold px_CP; rw [cd_set_eq, cd_set_ne _ _ (show w.1 + 56 ≠ w.1 + 55 by omega)]; exact hB) (by rw [cd_set_eq]; rfl) (Nat.zero_le _) (by rw [cd_set_eq]; rfl) (by decide)) mf_T_advances lk_T_41 hC.2.2.2.2.2.2.2.2.2.2.2.2.1.1 rfl (by decide) rfl (Nat.le_of_ble_eq_true rfl) d_T_readsText_21 (by omega) (by omega) ?_
  rintro I2 ⟨Q, rfl, k0, k1, k2, k3⟩
  rw [cd_set_eq] at k0
  rw [cd_set_set]
  rw [px_tk_f, ht0] at k1 k2 k3
  have hK0 : px_CK (cd_set I (w.1 + 55) Q) w B L t0 := by
    unfold px_CK px_CP
    rw [cd_set_eq, cd_set_ne _ _ (show w.1 + 56 ≠ w.1 + 55 by omega), k0 0 (by decide) (by decide) (by decide)]
    exact ⟨hB, b2, k1, k2, k3⟩
  have k5 : cd_set I (w.1 + 55) Q (w.1 + 55) 5 = nI 0 := by rw [cd_set_eq, k0 5 (by decide) (by decide) (by decide)]; rfl
  have k6 : cd_set I (w.1 + 55) Q (w.1 + 55) 6 = nI 0 := by rw [cd_set_eq, k0 6 (by decide) (by decide) (by decide)]; rfl
  try simp (disch := omega) only [cd_set_eq, cd_set_ne, cd_set_set]
  refine r_aload hO d_T_readsText_24 rfl ?_
  refine r_cV0i hO hE (c_T_readsKey hC hK0 k5 k6 (by decide)) mf_T_readsKey lk_T_44 hC.2.2.2.2.2.2.2.2.2.2.2.2.1.1 rfl (by decide) rfl (Nat.le_of_ble_eq_true rfl) d_T_readsText_25 (by omega) (by omega) ?_
  rintro y I3 h3
  try simp (disch := omega) only [cd_set_eq, cd_set_ne, cd_set_set]
  rcases h3 with ⟨q3, rfl, rfl⟩ | ⟨q3, rfl, g1, g2⟩
  · refine r_if_eq hO d_T_readsText_28 (fun c_28 => ?_) (fun c_28 => ?_)
    · refine r_null hO d_T_readsText_48 ?_
      refine r_aretN hO hE (by omega) (by omega) d_T_readsText_49 ?_
      refine Or.inl ⟨by rw [px_res_3 ht0 q3], rfl, rfl, ?_, cd_off.set _ _ (by simp)⟩
      rw [px_res_3 ht0 q3, cd_set_eq]
      exact k1
    · exact absurd rfl c_28
  · have hat := px_adv_ok b2
    refine r_if_eq hO d_T_readsText_28 (fun c_28 => ?_) (fun c_28 => ?_)
    · exact absurd c_28 (by decide)
    · refine r_aload hO d_T_readsText_31 rfl ?_
      refine r_k hO d_T_readsText_32 ?_
      refine r_k hO d_T_readsText_33 ?_
      refine r_k hO d_T_readsText_34 ?_
      refine r_cV3i hO hE ((tp_rec hC (B := B) (L := L) (ky := px_ky B t0) 800 800 (Nat.le_refl _)).2 0 0 0 (px_adv B L t0) I3 0 0 (by decide) (by decide) (by decide) (by have := hat.1.1; unfold px_need; rw [if_pos (by decide)]; omega) g1 (Nat.zero_le _)) mf_T_readsLevel lk_T_48 hC.2.2.2.2.2.2.2.2.2.2.2.2.1.1 rfl (by decide) rfl (Nat.le_of_ble_eq_true rfl) d_T_readsText_35 (by omega) (by omega) ?_
      rintro y I4 hp
      have hrd := rd_ok (B := B) (L := L) (ky := px_ky B t0) 800 0 0 0 _ hat.1 (Or.inl (by decide))
      obtain ⟨r, hr⟩ : ∃ r, r = px_rdt B L (px_ky B t0) 800 0 0 0 (px_adv B L t0) := ⟨_, rfl⟩
      rw [← hr] at hp hrd
      rcases hp with ⟨e1, rfl, e3, ap⟩ | ⟨e1, rfl, q1, q2, ⟨u', q3', q4⟩, q5⟩
      · have hl1 := (hrd.2 e1).1
        have hl2 := hrd.1.1
        have hkd := e3.2.1.2.2.2.2.1
        obtain ⟨u1, u2, u3', u3'', u3, ⟨u4, u4b⟩, u5, u6, u7⟩ := id e3
        rw [Nat.zero_add] at u5 u6
        have hlv := px_lv_b r.2.2
        have htp : S.2.1 (w.1 + 55) = (1, 4) := hC.2.2.2.2.2.2.2.2.2.2.2.2.1.1
        have hcr : S.2.2 (w.1 + 55) 8 = some (w.1 + 57) := hC.2.2.2.2.2.2.2.2.2.2.2.2.1.2.2.1
        have hcd : S.2.1 (w.1 + 57) = (2, 96) := hC.2.2.2.2.2.2.2.2.2.2.2.2.1.2.2.2.2
        have offall : cd_off I I4 [w.1 + 55, w.1 + 57] := ((cd_off.set _ _ (by simp)).tr (g2.mono (fun b hb => by simp at hb ⊢; omega))).tr ap.1
        refine r_if_eq hO d_T_readsText_38 (fun c_38 => ?_) (fun c_38 => ?_)
        · exact absurd c_38 (by decide)
        · refine r_aload hO d_T_readsText_41 rfl ?_
          refine r_getI hO f_T_21 rfl htp d_T_readsText_42 ?_
          refine r_tops (show _ = nI r.2.1.2.1 from u3) ?_
          refine r_if_eq hO d_T_readsText_45 (fun c_45 => ?_) (fun c_45 => ?_)
          · have hk0 : r.2.1.2.1 = 0 := by
              rcases Nat.eq_zero_or_pos r.2.1.2.1 with z | z
              · exact z
              · exact absurd c_45 (nI_ne0 z (by omega))
            have hres := px_res_y ht0 q3 hr ⟨e1, hk0⟩
            refine r_aload hO d_T_readsText_50 rfl ?_
            refine r_getI hO f_T_30 rfl htp d_T_readsText_51 ?_
            refine r_tops (show _ = nI r.2.2.length from u6) ?_
            refine r_na0 (w.1 + S.1) hO rfl (N := r.2.2.length) (by omega) d_T_readsText_54 (by omega) (by omega) ?_
            have htp1 : (cd_al S (w.1 + S.1) (2, r.2.2.length)).2.1 (w.1 + 55) = (1, 4) := by rw [cd_al_n (by omega)]; exact htp
            have hcd1 : (cd_al S (w.1 + S.1) (2, r.2.2.length)).2.1 (w.1 + 57) = (2, 96) := by rw [cd_al_n (by omega)]; exact hcd
            have hcr1 : (cd_al S (w.1 + S.1) (2, r.2.2.length)).2.2 (w.1 + 55) 8 = some (w.1 + 57) := by rw [cd_al_rn (by omega)]; exact hcr
            have u3b : cd_set I4 (w.1 + S.1) (fun _ => nI 0) (w.1 + 55) = I4 (w.1 + 55) := cd_set_ne _ _ (by omega)
            refine r_sA1 hO d_T_readsText_56 rfl ?_
            refine r_aload hO d_T_readsText_57 rfl ?_
            refine r_getR hO f_T_37 rfl htp1 hcr1 d_T_readsText_58 ?_
            refine r_k hO d_T_readsText_61 ?_
            refine r_aload hO d_T_readsText_62 rfl ?_
            refine r_k hO d_T_readsText_63 ?_
            refine r_aload hO d_T_readsText_64 rfl ?_
            refine r_getI hO f_T_30 rfl htp1 d_T_readsText_65 ?_
            rw [u3b]
            refine r_tops (show _ = nI r.2.2.length from u6) ?_
            refine r_copy (sp := 0) (dp := 0) hO hE lk_T_52 hcd1 (cd_al_e _ _ _) (Nat.le_add_right _ _) (by omega) (by omega) (by decide) (by omega) (by omega) rfl (Nat.le_of_ble_eq_true rfl) d_T_readsText_68 ?_
            simp (disch := omega) only [cd_set_eq, cd_set_ne, cd_set_set]
            refine r_newa (w.1 + (S.1 + 1)) hO rfl cd_ci5 df_X cl_T_58 in_X it_X d_T_readsText_71 (by omega) (by omega) ?_
            have htp2 : (cd_al (cd_al S (w.1 + S.1) (2, r.2.2.length)) (w.1 + (S.1 + 1)) (1, 5)).2.1 (w.1 + 55) = (1, 4) := by rw [cd_al_n (show w.1 + 55 ≠ w.1 + (S.1 + 1) by omega)]; exact htp1
            refine r_dup hO d_T_readsText_74 rfl ?_
            refine r_aload hO d_T_readsText_75 rfl ?_
            refine r_getI hO f_T_24 rfl htp2 d_T_readsText_76 ?_
            simp (disch := omega) only [cd_set_eq, cd_set_ne]
            refine r_tops (show _ = nI (px_ky B t0) from u4) ?_
            refine r_aload hO d_T_readsText_79 rfl ?_
            refine r_getI hO f_T_27 rfl htp2 d_T_readsText_80 ?_
            simp (disch := omega) only [cd_set_eq, cd_set_ne]
            refine r_tops (show _ = nI (px_lv r.2.2) from u5) ?_
            refine r_aload hO d_T_readsText_83 rfl ?_
            refine cd_callI (rest := [.ref (w.1 + (S.1 + 1))]) hO hE.1 (c_X_init (x := w.1 + (S.1 + 1)) (cx := w.1 + S.1) (v := px_lv r.2.2) (cd_al_e _ _ _) (by omega) (w.1 + (S.1 + 1 + 1)) rfl (by omega) (by omega)) mf_X_init lk_T_60 (by decide) rfl rfl rfl (Nat.le_of_ble_eq_true rfl) d_T_readsText_84 ⟨by omega, by omega⟩ ?_
            rintro z S5 I5 ⟨rfl, hS5, hI5⟩
            show cd_J w X _ _ S5 I5 87 [some (.ref (w.1 + 55)), some (.ref (w.1 + S.1))] [.ref (w.1 + (S.1 + 1))]
            refine r_aret hO hE (by omega) (by omega) d_T_readsText_87 ?_
            refine Or.inr ⟨by rw [hres], by rw [Nat.add_assoc], ?_, ?_, ?_, ?_, ?_, ?_, ?_⟩
            · rw [hS5]; rfl
            · intro b hb
              rw [hS5]
              refine ⟨?_, ?_⟩
              · rw [cd_sr_s, cd_al_n (show b ≠ w.1 + (S.1 + 1 + 1) by omega), cd_sr_s, cd_al_n (show b ≠ w.1 + (S.1 + 1) by omega), cd_al_n (by omega)]
              · rw [cd_sr_n (by omega), cd_al_rn (show b ≠ w.1 + (S.1 + 1 + 1) by omega), cd_sr_n (by omega), cd_al_rn (show b ≠ w.1 + (S.1 + 1) by omega), cd_al_rn (by omega)]
            · rw [hres, hS5]
              have z2 : w.1 + S.1 + 2 = w.1 + (S.1 + 1 + 1) := by omega
              have z1 : w.1 + S.1 + 1 = w.1 + (S.1 + 1) := by omega
              rw [z1, z2]
              refine ⟨?_, ?_, ?_, ?_, ?_, by omega, by omega, by omega⟩
              · rw [cd_sr_s, cd_al_n (by omega), cd_sr_s]; exact cd_al_e _ _ _
              · rw [cd_sr_o (by decide), cd_al_rn (by omega)]; exact cd_sr_e _ _ _ _
              · exact cd_sr_e _ _ _ _
              · rw [cd_sr_s, cd_al_n (by omega), cd_sr_s, cd_al_n (by omega)]; exact cd_al_e _ _ _
              · rw [cd_sr_s]; exact cd_al_e _ _ _
            · intro k hk
              rw [hres] at hk ⊢
              have hk2 : k < r.2.2.length := hk
              rw [hI5]
              simp (disch := omega) only [cd_set_eq, cd_set_ne]
              unfold va_cpy
              rw [if_pos (by omega), show 0 + (k - 0) = 0 + k by omega]
              exact ap.2.2 k hk2
            · rw [hres, hI5, show w.1 + S.1 + 1 = w.1 + (S.1 + 1) by omega]
              simp (disch := omega) only [cd_set_eq, cd_set_ne]
              rfl
            · rw [hres, hI5, show w.1 + S.1 + 1 = w.1 + (S.1 + 1) by omega]
              simp (disch := omega) only [cd_set_eq, cd_set_ne]
              rfl
            · intro b hb b5 b7
              rw [hI5]
              simp (disch := omega) only [cd_set_eq, cd_set_ne]
              exact offall b (by simp; omega)
          · have hnk : ¬ (r.1 = true ∧ r.2.1.2.1 = 0) := fun z => c_45 (by rw [z.2]; rfl)
            refine r_null hO d_T_readsText_48 ?_
            refine r_aretN hO hE (by omega) (by omega) d_T_readsText_49 ?_
            refine Or.inl ⟨by rw [px_res_n ht0 q3 hr hnk], rfl, rfl, ?_, offall⟩
            rw [px_res_n ht0 q3 hr hnk]
            exact e3.2.2.1
      · refine r_if_eq hO d_T_readsText_38 (fun c_38 => ?_) (fun c_38 => ?_)
        · refine r_null hO d_T_readsText_48 ?_
          refine r_aretN hO hE (by omega) (by omega) d_T_readsText_49 ?_
          refine Or.inl ⟨by rw [px_res_n ht0 q3 hr (fun z => by rw [e1] at z; exact absurd z.1 (by decide))], rfl, rfl, ?_, ((cd_off.set _ _ (by simp)).tr (g2.mono (fun b hb => by simp at hb ⊢; omega))).tr q5⟩
          rw [px_res_n ht0 q3 hr (fun z => by rw [e1] at z; exact absurd z.1 (by decide))]
          exact q2
        · exact absurd rfl c_38
