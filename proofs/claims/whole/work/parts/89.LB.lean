theorem px_m63 (x : Int32) : ∃ b, b < 64 ∧ x &&& nI 63 = nI b := by
  refine ⟨(x &&& nI 63).toBitVec.toNat, ?_, ?_⟩
  · rw [Int32.toBitVec_and, BitVec.toNat_and]
    exact Nat.lt_of_le_of_lt Nat.and_le_right (by decide)
  · apply Int32.toBitVec_inj.mp
    show _ = BitVec.ofNat 32 _
    rw [BitVec.ofNat_toNat, BitVec.setWidth_eq]
theorem px_len6 {L i : Nat} (hL : L ≤ 3072) (hi : i ≤ 4000) : nI L - nI 6 < nI i ↔ L < i + 6 := by
  rw [Int32.lt_iff_toInt_lt, Int32.toInt_sub, nI_toInt (by omega), nI_toInt (by omega), nI_toInt (by omega), Int.bmod_eq_of_le (by omega) (by omega)]
  omega
/-- the switch of the law -/
theorem w_sw {l : Launch} {w : cd_WT} {X : cd_XT} {k n b L m i c : Nat} {xs : Nat → Int32} {S : cd_Sp} {I : cd_Mem} (hO : cd_O w X code "CatDoorsLaw" 83 600000 7302250 l) (hml : X.2.2.2.2.2.2.2.2.2.1.maxLocals = 4) (hX : va_X b L xs X.2.2.2.2.1 w.2.1) (hb : b < w.1) (hL : L ≤ 3072) (hi : i + 6 ≤ L) (H : px_SM w m S I c) (hc : c ≤ 600) (hk : k + 3 ≤ 600000) (hn : n + 196 ≤ 7302250) (kk : ∀ k' n' S' I', k' ≤ k + 3 → n' ≤ n + 196 → px_SM w m S' I' (c + 1) → cd_J w X k' n' S' I' 1378 [some (.ref b), some (.ref w.1), some (.ref m), some (.int (nI i))] []) : cd_J w X k n S I 33 [some (.ref b), some (.ref w.1), some (.ref m), some (.int (nI i))] [.int (xs i &&& nI 63)] := by
  obtain ⟨q, hq, hx⟩ := px_m63 (xs i)
  rcases (show q = 0 ∨ q = 1 ∨ q = 2 ∨ q = 3 ∨ q = 4 ∨ q = 5 ∨ q = 6 ∨ q = 7 ∨ q = 8 ∨ q = 9 ∨ q = 10 ∨ q = 11 ∨ q = 12 ∨ q = 13 ∨ q = 14 ∨ q = 15 ∨ q = 16 ∨ q = 17 ∨ q = 18 ∨ q = 19 ∨ q = 20 ∨ q = 21 ∨ q = 22 ∨ q = 23 ∨ q = 24 ∨ q = 25 ∨ q = 26 ∨ q = 27 ∨ q = 28 ∨ q = 29 ∨ q = 30 ∨ q = 31 ∨ q = 32 ∨ q = 33 ∨ q = 34 ∨ q = 35 ∨ q = 36 ∨ q = 37 ∨ q = 38 ∨ q = 39 ∨ 40 ≤ q by omega) with rfl | rfl | rfl | rfl | rfl | rfl | rfl | rfl | rfl | rfl | rfl | rfl | rfl | rfl | rfl | rfl | rfl | rfl | rfl | rfl | rfl | rfl | rfl | rfl | rfl | rfl | rfl | rfl | rfl | rfl | rfl | rfl | rfl | rfl | rfl | rfl | rfl | rfl | rfl | rfl | h40
  · exact r_tabI hO d_W_law_33 (tgt := 208) 0 hx (by decide) rfl (by decide) rfl (by decide) (w_208 hO hml hX hb hL hi H hc hk hn kk)
  · exact r_tabI hO d_W_law_33 (tgt := 261) 1 hx (by decide) rfl (by decide) rfl (by decide) (w_261 hO hml hX hb hL hi H hc hk hn kk)
  · exact r_tabI hO d_W_law_33 (tgt := 294) 2 hx (by decide) rfl (by decide) rfl (by decide) (w_294 hO hml hX hb hL hi H hc hk hn kk)
  · exact r_tabI hO d_W_law_33 (tgt := 327) 3 hx (by decide) rfl (by decide) rfl (by decide) (w_327 hO hml hX hb hL hi H hc hk hn kk)
  · exact r_tabI hO d_W_law_33 (tgt := 360) 4 hx (by decide) rfl (by decide) rfl (by decide) (w_360 hO hml hX hb hL hi H hc hk hn kk)
  · exact r_tabI hO d_W_law_33 (tgt := 403) 5 hx (by decide) rfl (by decide) rfl (by decide) (w_403 hO hml hX hb hL hi H hc hk hn kk)
  · exact r_tabI hO d_W_law_33 (tgt := 436) 6 hx (by decide) rfl (by decide) rfl (by decide) (w_436 hO hml hX hb hL hi H hc hk hn kk)
  · exact r_tabI hO d_W_law_33 (tgt := 459) 7 hx (by decide) rfl (by decide) rfl (by decide) (w_459 hO hml hX hb hL hi H hc hk hn kk)
  · exact r_tabI hO d_W_law_33 (tgt := 482) 8 hx (by decide) rfl (by decide) rfl (by decide) (w_482 hO hml hX hb hL hi H hc hk hn kk)
  · exact r_tabI hO d_W_law_33 (tgt := 505) 9 hx (by decide) rfl (by decide) rfl (by decide) (w_505 hO hml hX hb hL hi H hc hk hn kk)
  · exact r_tabI hO d_W_law_33 (tgt := 528) 10 hx (by decide) rfl (by decide) rfl (by decide) (w_528 hO hml hX hb hL hi H hc hk hn kk)
  · exact r_tabI hO d_W_law_33 (tgt := 551) 11 hx (by decide) rfl (by decide) rfl (by decide) (w_551 hO hml hX hb hL hi H hc hk hn kk)
  · exact r_tabI hO d_W_law_33 (tgt := 584) 12 hx (by decide) rfl (by decide) rfl (by decide) (w_584 hO hml hX hb hL hi H hc hk hn kk)
  · exact r_tabI hO d_W_law_33 (tgt := 597) 13 hx (by decide) rfl (by decide) rfl (by decide) (w_597 hO hml hX hb hL hi H hc hk hn kk)
  · exact r_tabI hO d_W_law_33 (tgt := 630) 14 hx (by decide) rfl (by decide) rfl (by decide) (w_630 hO hml hX hb hL hi H hc hk hn kk)
  · exact r_tabI hO d_W_law_33 (tgt := 663) 15 hx (by decide) rfl (by decide) rfl (by decide) (w_663 hO hml hX hb hL hi H hc hk hn kk)
  · exact r_tabI hO d_W_law_33 (tgt := 696) 16 hx (by decide) rfl (by decide) rfl (by decide) (w_696 hO hml hX hb hL hi H hc hk hn kk)
  · exact r_tabI hO d_W_law_33 (tgt := 719) 17 hx (by decide) rfl (by decide) rfl (by decide) (w_719 hO hml hX hb hL hi H hc hk hn kk)
  · exact r_tabI hO d_W_law_33 (tgt := 742) 18 hx (by decide) rfl (by decide) rfl (by decide) (w_742 hO hml hX hb hL hi H hc hk hn kk)
  · exact r_tabI hO d_W_law_33 (tgt := 775) 19 hx (by decide) rfl (by decide) rfl (by decide) (w_775 hO hml hX hb hL hi H hc hk hn kk)
  · exact r_tabI hO d_W_law_33 (tgt := 788) 20 hx (by decide) rfl (by decide) rfl (by decide) (w_788 hO hml hX hb hL hi H hc hk hn kk)
  · exact r_tabI hO d_W_law_33 (tgt := 811) 21 hx (by decide) rfl (by decide) rfl (by decide) (w_811 hO hml hX hb hL hi H hc hk hn kk)
  · exact r_tabI hO d_W_law_33 (tgt := 854) 22 hx (by decide) rfl (by decide) rfl (by decide) (w_854 hO hml hX hb hL hi H hc hk hn kk)
  · exact r_tabI hO d_W_law_33 (tgt := 877) 23 hx (by decide) rfl (by decide) rfl (by decide) (w_877 hO hml hX hb hL hi H hc hk hn kk)
  · exact r_tabI hO d_W_law_33 (tgt := 890) 24 hx (by decide) rfl (by decide) rfl (by decide) (w_890 hO hml hX hb hL hi H hc hk hn kk)
  · exact r_tabI hO d_W_law_33 (tgt := 923) 25 hx (by decide) rfl (by decide) rfl (by decide) (w_923 hO hml hX hb hL hi H hc hk hn kk)
  · exact r_tabI hO d_W_law_33 (tgt := 946) 26 hx (by decide) rfl (by decide) rfl (by decide) (w_946 hO hml hX hb hL hi H hc hk hn kk)
  · exact r_tabI hO d_W_law_33 (tgt := 989) 27 hx (by decide) rfl (by decide) rfl (by decide) (w_989 hO hml hX hb hL hi H hc hk hn kk)
  · exact r_tabI hO d_W_law_33 (tgt := 1032) 28 hx (by decide) rfl (by decide) rfl (by decide) (w_1032 hO hml hX hb hL hi H hc hk hn kk)
  · exact r_tabI hO d_W_law_33 (tgt := 1055) 29 hx (by decide) rfl (by decide) rfl (by decide) (w_1055 hO hml hX hb hL hi H hc hk hn kk)
  · exact r_tabI hO d_W_law_33 (tgt := 1078) 30 hx (by decide) rfl (by decide) rfl (by decide) (w_1078 hO hml hX hb hL hi H hc hk hn kk)
  · exact r_tabI hO d_W_law_33 (tgt := 1141) 31 hx (by decide) rfl (by decide) rfl (by decide) (w_1141 hO hml hX hb hL hi H hc hk hn kk)
  · exact r_tabI hO d_W_law_33 (tgt := 1184) 32 hx (by decide) rfl (by decide) rfl (by decide) (w_1184 hO hml hX hb hL hi H hc hk hn kk)
  · exact r_tabI hO d_W_law_33 (tgt := 1217) 33 hx (by decide) rfl (by decide) rfl (by decide) (w_1217 hO hml hX hb hL hi H hc hk hn kk)
  · exact r_tabI hO d_W_law_33 (tgt := 1250) 34 hx (by decide) rfl (by decide) rfl (by decide) (w_1250 hO hml hX hb hL hi H hc hk hn kk)
  · exact r_tabI hO d_W_law_33 (tgt := 1283) 35 hx (by decide) rfl (by decide) rfl (by decide) (w_1283 hO hml hX hb hL hi H hc hk hn kk)
  · exact r_tabI hO d_W_law_33 (tgt := 1306) 36 hx (by decide) rfl (by decide) rfl (by decide) (w_1306 hO hml hX hb hL hi H hc hk hn kk)
  · exact r_tabI hO d_W_law_33 (tgt := 1329) 37 hx (by decide) rfl (by decide) rfl (by decide) (w_1329 hO hml hX hb hL hi H hc hk hn kk)
  · exact r_tabI hO d_W_law_33 (tgt := 1342) 38 hx (by decide) rfl (by decide) rfl (by decide) (w_1342 hO hml hX hb hL hi H hc hk hn kk)
  · exact r_tabI hO d_W_law_33 (tgt := 1355) 39 hx (by decide) rfl (by decide) rfl (by decide) (w_1355 hO hml hX hb hL hi H hc hk hn kk)
  · refine r_tabO hO d_W_law_33 (tgt := 1378) (Or.inr ?_) (by decide) (kk _ _ _ _ (by omega) (by omega) (H.th (cd_ss.rf _ _) (fun _ _ _ => rfl)))
    rw [hx, nI_toInt (by omega)]
    omega

theorem w_loop {l : Launch} {w : cd_WT} {X : cd_XT} {b L m : Nat} {xs : Nat → Int32} (hO : cd_O w X code "CatDoorsLaw" 83 600000 7302250 l) (hml : X.2.2.2.2.2.2.2.2.2.1.maxLocals = 4) (hX : va_X b L xs X.2.2.2.2.1 w.2.1) (hb : b < w.1) (hL : L ≤ 3072) (hend : ∀ (k n i : Nat) (S : cd_Sp) (I : cd_Mem), k ≤ 600000 → n ≤ 7302250 → cd_J w X k n S I 1385 [some (.ref b), some (.ref w.1), some (.ref m), some (.int (nI i))] [.int (nI 1)]) : ∀ (r c i k n : Nat) (S : cd_Sp) (I : cd_Mem), i = 6 * c → L < 6 * c + 6 * r + 6 → c ≤ 512 → k ≤ 112 + 3 * c → n ≤ 6100 + 196 * c → px_SM w m S I c → cd_J w X k n S I 18 [some (.ref b), some (.ref w.1), some (.ref m), some (.int (nI i))] [] := by
  intro r
  induction r with
  | zero =>
    intro c i k n S I hi hr hc hk hn H
    refine r_iload hO d_W_law_18 rfl ?_
    refine r_aload hO d_W_law_19 rfl ?_
    refine r_scl hO hX hb d_W_law_20 ?_
    refine r_k hO d_W_law_21 ?_
    refine r_isub hO d_W_law_23 ?_
    refine r_icmp_gt hO d_W_law_24 (fun c_24 => ?_) (fun c_24 => ?_)
    · refine r_k hO d_W_law_1384 ?_
      exact hend _ _ _ _ _ (by omega) (by omega)
    · exact absurd ((px_len6 hL (by omega)).2 (by omega)) c_24
  | succ r ih =>
    intro c i k n S I hi hr hc hk hn H
    refine r_iload hO d_W_law_18 rfl ?_
    refine r_aload hO d_W_law_19 rfl ?_
    refine r_scl hO hX hb d_W_law_20 ?_
    refine r_k hO d_W_law_21 ?_
    refine r_isub hO d_W_law_23 ?_
    refine r_icmp_gt hO d_W_law_24 (fun c_24 => ?_) (fun c_24 => ?_)
    · refine r_k hO d_W_law_1384 ?_
      exact hend _ _ _ _ _ (by omega) (by omega)
    · have hle : ¬ L < i + 6 := fun q => c_24 ((px_len6 hL (by omega)).2 q)
      refine r_aload hO d_W_law_27 rfl ?_
      refine r_iload hO d_W_law_28 rfl ?_
      refine r_scr hO hX hb hL (by omega) d_W_law_29 ?_
      refine r_k hO d_W_law_30 ?_
      refine r_iand hO d_W_law_32 ?_
      refine w_sw hO hml hX hb hL (by omega) H (by omega) (by omega) (by omega) (fun k' n' S' I' hk' hn' H' => ?_)
      refine r_inc3 hO d_W_law_1378 rfl rfl ?_
      refine r_goto hO d_W_law_1381 ?_
      have e6 : nI i + Int32.ofInt 6 = nI (i + 6) := nI_add i 6
      rw [e6]
      exact ih (c + 1) (i + 6) _ _ _ _ (by omega) (by omega) (by omega) (by omega) (by omega) H'
/-- from the law's first row -/
theorem w_start {l : Launch} {w : cd_WT} {X : cd_XT} {b L : Nat} {xs : Nat → Int32} (hO : cd_O w X code "CatDoorsLaw" 83 600000 7302250 l) (hml : X.2.2.2.2.2.2.2.2.2.1.maxLocals = 4) (hX : va_X b L xs X.2.2.2.2.1 w.2.1) (hb : b < w.1) (hL : L ≤ 3072) (hend : ∀ (k n i : Nat) (S : cd_Sp) (I : cd_Mem), k ≤ 600000 → n ≤ 7302250 → cd_J w X k n S I 1385 [some (.ref b), some (.ref w.1), some (.ref (w.1 + 90)), some (.int (nI i))] [.int (nI 1)]) {S : cd_Sp} {I : cd_Mem} (hS : S.1 = 0) (hz : ∀ b, (S.2.1 b).1 = 0) : cd_J w X 0 0 S I 0 [some (.ref b), none, none, none] [] := by
  refine r_newa (w.1) hO (show w.1 = w.1 + S.1 by omega) cd_ci6 df_C cl_W_7 in_C it_C d_W_law_0 (by omega) (by omega) ?_
  refine r_dup hO d_W_law_3 rfl ?_
  refine cd_callI (rest := [.ref w.1]) hO hml (c_C_init (cd_al_e _ _ _) (show S.1 + 1 = 1 by omega)) mf_C_init lk_W_9 (by decide) rfl rfl rfl (Nat.le_of_ble_eq_true rfl) d_W_law_4 ⟨by omega, by omega⟩ ?_
  rintro r S1 I1 ⟨rfl, HC⟩
  show cd_J w X _ _ S1 I1 7 [some (.ref b), none, none, none] [.ref w.1]
  have z1 := HC.1
  refine r_sA1 hO d_W_law_7 rfl ?_
  refine r_newa (w.1 + 90) hO (show w.1 + 90 = w.1 + S1.1 by omega) cd_ci7 df_M cl_W_10 in_M it_M d_W_law_8 (by omega) (by omega) ?_
  refine r_dup hO d_W_law_11 rfl ?_
  refine cd_callI (rest := [.ref (w.1 + 90)]) hO hml (c_M_init (m := w.1 + 90) (cd_al_e _ _ _) (by omega) (show w.1 + (S1.1 + 1) = w.1 + 90 + 1 by omega)) mf_M_init lk_W_12 (by decide) rfl rfl rfl (Nat.le_of_ble_eq_true rfl) d_W_law_12 ⟨by omega, by omega⟩ ?_
  rintro r S3 I3 ⟨rfl, HM⟩
  show cd_J w X _ _ S3 I3 15 [some (.ref b), some (.ref w.1), none, none] [.ref (w.1 + 90)]
  have HS : px_SM w (w.1 + 90) S3 I3 0 := px_start rfl HC (fun b hb => by rw [cd_al_n (by omega)]; exact hz b) HM
  refine r_sA2 hO d_W_law_15 rfl ?_
  refine r_k hO d_W_law_16 ?_
  refine r_sI3 hO d_W_law_17 rfl ?_
  exact w_loop hO hml hX hb hL hend 513 0 0 _ _ S3 I3 rfl (by omega) (by omega) (by omega) (by omega) HS
