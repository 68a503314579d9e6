def bt (x : Int32) (i : Nat) : Bool := x.toBitVec.getLsbD i
theorem b_ext {x y : Int32} (h : ∀ i, i < 32 → bt x i = bt y i) : x = y := Int32.toBitVec_inj.mp (BitVec.eq_of_getLsbD_eq (fun i hi => h i hi))
theorem b_and (x y : Int32) (i : Nat) : bt (x &&& y) i = (bt x i && bt y i) := by unfold bt; rw [Int32.toBitVec_and, BitVec.getLsbD_and]
theorem b_big {x : Int32} {i : Nat} (h : 32 ≤ i) : bt x i = false := BitVec.getLsbD_of_ge _ _ h
theorem b_255 (i : Nat) : bt 255 i = decide (i < 8) := by
  rcases Nat.lt_or_ge i 32 with h | h
  · exact (by decide +kernel : ∀ i, i < 32 → bt 255 i = decide (i < 8)) i h
  · rw [b_big h, decide_eq_false (by omega)]
theorem s_l : ∀ n, n < 32 → ((nI n &&& 31).toBitVec.smod 32).toNat = n := by decide +kernel
theorem s_u : ∀ n, n < 32 → (((nI n).toUInt32 &&& Int32.toUInt32 31).toBitVec % 32).toNat = n := by decide +kernel
theorem b_ushr (n : Nat) (hn : n < 32) (x : Int32) (i : Nat) : bt ((x.toUInt32 >>> ((nI n).toUInt32 &&& Int32.toUInt32 31)).toInt32) i = bt x (n + i) := by
  show (x.toUInt32 >>> ((nI n).toUInt32 &&& Int32.toUInt32 31)).toBitVec.getLsbD i = x.toUInt32.toBitVec.getLsbD (n + i)
  rw [UInt32.toBitVec_shiftRight]
  show (x.toUInt32.toBitVec >>> (((nI n).toUInt32 &&& Int32.toUInt32 31).toBitVec % 32).toNat).getLsbD i = _
  rw [s_u n hn, BitVec.getLsbD_ushiftRight]
theorem b_sshr (n : Nat) (hn : n < 32) (x : Int32) {i : Nat} (hi : i < 32) : bt (x >>> (nI n &&& 31)) i = if n + i < 32 then bt x (n + i) else bt x 31 := by
  unfold bt
  rw [Int32.toBitVec_shiftRight]
  show (x.toBitVec.sshiftRight ((nI n &&& 31).toBitVec.smod 32).toNat).getLsbD i = _
  rw [s_l n hn, BitVec.getLsbD_sshiftRight, BitVec.msb_eq_getLsbD_last]
  simp [hi]
theorem px_i8 {a b : Int32} (h : ∀ i, i < 8 → bt a i = bt b i) : a.toInt8 = b.toInt8 := by
  apply Int8.toBitVec_inj.mp
  rw [Int32.toBitVec_toInt8, Int32.toBitVec_toInt8]
  apply BitVec.eq_of_getLsbD_eq
  intro i hi
  rw [BitVec.getLsbD_signExtend, BitVec.getLsbD_signExtend, if_pos (show i < 32 by omega), if_pos (show i < 32 by omega)]
  have := h i hi
  unfold bt at this
  rw [this]
theorem px_byte {x : Int32} {n : Nat} (hn : n ≤ 24) : (cd_ush x (nI n)).toInt8 = (x >>> (nI n &&& 31) &&& nI 255).toInt8 := by
  refine px_i8 (fun i hi => ?_)
  unfold cd_ush
  rw [b_ushr n (by omega), b_and, b_sshr n (by omega) x (by omega), if_pos (by omega), show nI 255 = 255 from rfl, b_255, decide_eq_true hi, Bool.and_true]
theorem px_m255 (x : Int32) : ∃ b, b < 256 ∧ x &&& nI 255 = nI b := by
  refine ⟨(x &&& nI 255).toBitVec.toNat, ?_, ?_⟩
  · rw [Int32.toBitVec_and, BitVec.toNat_and]
    exact Nat.lt_of_le_of_lt Nat.and_le_right (by decide)
  · apply Int32.toBitVec_inj.mp
    show _ = BitVec.ofNat 32 _
    rw [BitVec.ofNat_toNat, BitVec.setWidth_eq]
def px_bf (x : Int32) (k : Nat) : Int32 := x >>> (nI (24 - 8 * k) &&& 31) &&& nI 255
/-- some bytes came behind the first L -/
def px_AB (I I' : cd_Mem) (w : cd_WT) (L n : Nat) (f : Nat → Int32) : Prop := I' (w.1 + 55) 0 = nI (L + n) ∧ (∀ j, j < L → I' (w.1 + 56) j = I (w.1 + 56) j) ∧ (∀ k, k < n → I' (w.1 + 56) (L + k) = (f k).toInt8.toInt32) ∧ cd_off I I' [w.1 + 55, w.1 + 56]
theorem px_AB.tr {I I1 I2 : cd_Mem} {w : cd_WT} {L n m : Nat} {f g : Nat → Int32} (a : px_AB I I1 w L n f) (b : px_AB I1 I2 w (L + n) m g) : px_AB I I2 w L (n + m) (fun k => if k < n then f k else g (k - n)) := by
  refine ⟨by rw [b.1, Nat.add_assoc], fun j hj => (b.2.1 j (by omega)).trans (a.2.1 j hj), fun k hk => ?_, a.2.2.2.tr b.2.2.2⟩
  show _ = (if k < n then f k else g (k - n)).toInt8.toInt32
  by_cases h : k < n
  · rw [b.2.1 _ (by omega), a.2.2.1 k h, if_pos h]
  · have := b.2.2.1 (k - n) (by omega)
    rw [show L + n + (k - n) = L + k by omega] at this
    rw [this, if_neg h]
def px_sh (k : Nat) : Int32 := match k with
  | 0 => nI 24
  | 1 => nI 16
  | 2 => nI 8
  | 3 => nI 0
  | _ => -8
theorem px_sh_n : ∀ k, k < 4 → px_sh k = nI (24 - 8 * k) ∧ ¬ px_sh k < 0 ∧ px_sh k + Int32.ofInt (-8) = px_sh (k + 1) := by decide
theorem d_T_addsBytes_0 : cd_Dk b_T_addsBytes 0 (nI 24) 2 := Or.inr (Or.inl ⟨24, ⟨by decide +kernel, rfl⟩, by decide +kernel⟩)
theorem d_T_addsBytes_2 : cd_D_istore b_T_addsBytes 2 2 3 := Or.inr ⟨2, ⟨by decide +kernel, rfl⟩, rfl⟩
theorem d_T_addsBytes_3 : cd_D_iload b_T_addsBytes 3 2 4 := Or.inr ⟨2, ⟨by decide +kernel, rfl⟩, rfl⟩
theorem d_T_addsBytes_4 : cd_D_if_lt b_T_addsBytes 4 45 7 := ⟨41, by decide +kernel, by decide, rfl⟩
theorem d_T_addsBytes_7 : cd_D_aload b_T_addsBytes 7 0 8 := Or.inr ⟨0, ⟨by decide +kernel, rfl⟩, rfl⟩
theorem d_T_addsBytes_8 : cd_D 3 b_T_addsBytes 8 (.getfield 9) 11 := ⟨by decide +kernel, rfl⟩
theorem d_T_addsBytes_11 : cd_Dk b_T_addsBytes 11 (nI 96) 13 := Or.inr (Or.inl ⟨96, ⟨by decide +kernel, rfl⟩, by decide +kernel⟩)
theorem d_T_addsBytes_13 : cd_D_icmp_ge b_T_addsBytes 13 45 16 := ⟨32, by decide +kernel, by decide, rfl⟩
theorem d_T_addsBytes_16 : cd_D_aload b_T_addsBytes 16 0 17 := Or.inr ⟨0, ⟨by decide +kernel, rfl⟩, rfl⟩
theorem d_T_addsBytes_17 : cd_D 3 b_T_addsBytes 17 (.getfield 33) 20 := ⟨by decide +kernel, rfl⟩
theorem d_T_addsBytes_20 : cd_D_aload b_T_addsBytes 20 0 21 := Or.inr ⟨0, ⟨by decide +kernel, rfl⟩, rfl⟩
theorem d_T_addsBytes_21 : cd_D 3 b_T_addsBytes 21 (.getfield 9) 24 := ⟨by decide +kernel, rfl⟩
theorem d_T_addsBytes_24 : cd_D_iload b_T_addsBytes 24 1 25 := Or.inr ⟨1, ⟨by decide +kernel, rfl⟩, rfl⟩
theorem d_T_addsBytes_25 : cd_D_iload b_T_addsBytes 25 2 26 := Or.inr ⟨2, ⟨by decide +kernel, rfl⟩, rfl⟩
theorem d_T_addsBytes_26 : cd_D 1 b_T_addsBytes 26 .iushr 27 := ⟨by decide +kernel, rfl⟩
theorem d_T_addsBytes_27 : cd_D 1 b_T_addsBytes 27 .i2b 28 := ⟨by decide +kernel, rfl⟩
theorem d_T_addsBytes_28 : cd_D 1 b_T_addsBytes 28 .bastore 29 := ⟨by decide +kernel, rfl⟩
theorem d_T_addsBytes_29 : cd_D_aload b_T_addsBytes 29 0 30 := Or.inr ⟨0, ⟨by decide +kernel, rfl⟩, rfl⟩
theorem d_T_addsBytes_30 : cd_D 1 b_T_addsBytes 30 .dup 31 := ⟨by decide +kernel, rfl⟩
theorem d_T_addsBytes_31 : cd_D 3 b_T_addsBytes 31 (.getfield 9) 34 := ⟨by decide +kernel, rfl⟩
theorem d_T_addsBytes_34 : cd_Dk b_T_addsBytes 34 (nI 1) 35 := Or.inl ⟨1, ⟨by decide +kernel, rfl⟩, by decide +kernel⟩
theorem d_T_addsBytes_35 : cd_D 1 b_T_addsBytes 35 .iadd 36 := ⟨by decide +kernel, rfl⟩
theorem d_T_addsBytes_36 : cd_D 3 b_T_addsBytes 36 (.putfield 9) 39 := ⟨by decide +kernel, rfl⟩
theorem d_T_addsBytes_39 : cd_D 3 b_T_addsBytes 39 (.iinc 2 (-8)) 42 := ⟨by decide +kernel, rfl⟩
theorem d_T_addsBytes_42 : cd_D_goto b_T_addsBytes 42 3 := ⟨-39, by decide +kernel, by decide⟩
theorem d_T_addsBytes_45 : cd_D 1 b_T_addsBytes 45 .return_ 46 := ⟨by decide +kernel, rfl⟩
theorem c_T_addsBytes {l : Launch} {w : cd_WT} {S : cd_Sp} {I : cd_Mem} (hC : cd_CD w S) {L : Nat} (hL : I (w.1 + 55) 0 = nI L) (hL9 : L + 4 ≤ 96) (x : Int32) : cd_C l w m_T_addsBytes 0 0 0 [.ref (w.1 + 55), .int x] S I (cd_Pv S (fun I' => px_AB I I' w L 4 (px_bf x))) := by
  refine cd_intro (by decide) (by simp [Value.category]) (Nat.le_of_ble_eq_true rfl) ?_
  intro X hO hE
  show cd_J w X 0 0 S I 0 [some (.ref (w.1 + 55)), some (.int x), none] []
  have loop : ∀ (r k : Nat) (I1 : cd_Mem), k + r = 4 → px_AB I I1 w L k (px_bf x) → cd_J w X 0 0 S I1 3 [some (.ref (w.1 + 55)), some (.int x), some (.int (px_sh k))] [] := by
    intro r
    induction r with
    | zero =>
      intro k I1 hk ha
      have hk4 : k = 4 := by omega
      subst hk4
      refine r_iload hO d_T_addsBytes_3 rfl ?_
      refine r_if_lt hO d_T_addsBytes_4 (fun c_4 => ?_) (fun c_4 => ?_)
      · refine r_vret hO hE (Nat.zero_le _) (Nat.zero_le _) d_T_addsBytes_45 ?_
        exact ⟨rfl, rfl, ha⟩
      · exact absurd (by decide) c_4
    | succ r ih =>
      intro k I1 hk ha
      obtain ⟨hs1, hs2, hs3⟩ := px_sh_n k (by omega)
      refine r_iload hO d_T_addsBytes_3 rfl ?_
      refine r_if_lt hO d_T_addsBytes_4 (fun c_4 => ?_) (fun c_4 => ?_)
      · exact absurd c_4 hs2
      · refine r_aload hO d_T_addsBytes_7 rfl ?_
        refine r_getI hO f_T_9 rfl hC.2.2.2.2.2.2.2.2.2.2.2.2.1.1 d_T_addsBytes_8 ?_
        refine r_tops (show _ = nI (L + k) from ha.1) ?_
        refine r_k hO d_T_addsBytes_11 ?_
        refine r_icmp_ge hO d_T_addsBytes_13 (fun c_13 => ?_) (fun c_13 => ?_)
        · exact absurd c_13 (nI_ge (by omega) (by omega))
        · refine r_aload hO d_T_addsBytes_16 rfl ?_
          refine r_getR hO f_T_33 rfl hC.2.2.2.2.2.2.2.2.2.2.2.2.1.1 hC.2.2.2.2.2.2.2.2.2.2.2.2.1.2.1 d_T_addsBytes_17 ?_
          refine r_aload hO d_T_addsBytes_20 rfl ?_
          refine r_getI hO f_T_9 rfl hC.2.2.2.2.2.2.2.2.2.2.2.2.1.1 d_T_addsBytes_21 ?_
          refine r_tops (show _ = nI (L + k) from ha.1) ?_
          refine r_iload hO d_T_addsBytes_24 rfl ?_
          refine r_iload hO d_T_addsBytes_25 rfl ?_
          skip
          refine r_iushr hO d_T_addsBytes_26 ?_
          refine r_i2b hO d_T_addsBytes_27 ?_
          refine r_bast hO hC.2.2.2.2.2.2.2.2.2.2.2.2.1.2.2.2.1 (Nat.le_add_right _ _) (by omega) (by decide) d_T_addsBytes_28 ?_
          refine r_aload hO d_T_addsBytes_29 rfl ?_
          refine r_dup hO d_T_addsBytes_30 rfl ?_
          refine r_getI hO f_T_9 rfl hC.2.2.2.2.2.2.2.2.2.2.2.2.1.1 d_T_addsBytes_31 ?_
          try simp (disch := omega) only [cd_set_eq, cd_set_ne, cd_set_set]
          refine r_tops (show _ = nI (L + k) from ha.1) ?_
          refine r_k hO d_T_addsBytes_34 ?_
          refine r_iaddN hO d_T_addsBytes_35 ?_
          refine r_putI hO f_T_9 rfl hC.2.2.2.2.2.2.2.2.2.2.2.2.1.1 (Nat.le_add_right _ _) d_T_addsBytes_36 ?_
          try simp (disch := omega) only [cd_set_eq, cd_set_ne, cd_set_set]
          refine r_inc2 hO d_T_addsBytes_39 hs3 rfl ?_
          refine r_goto hO d_T_addsBytes_42 ?_
          refine ih (k + 1) _ (by omega) ⟨?_, fun j hj => ?_, fun q hq => ?_, ?_⟩
          · rw [cd_set_eq]; rfl
          · rw [cd_set_ne _ _ (by omega), cd_set_eq, px_un _ _ (by omega)]
            exact ha.2.1 j hj
          · rw [cd_set_ne _ _ (by omega), cd_set_eq]
            by_cases e : q = k
            · subst e
              rw [px_ue, hs1, Int8.toInt8_toInt32, px_byte (by omega)]
              rfl
            · rw [px_un _ _ (by omega)]
              exact ha.2.2.1 q (by omega)
          · exact (ha.2.2.2.tr (cd_off.set _ _ (by simp))).tr (cd_off.set _ _ (by simp))
  refine r_k hO d_T_addsBytes_0 ?_
  refine r_sI2 hO d_T_addsBytes_2 rfl ?_
  exact loop 4 0 I (by omega) ⟨hL, fun _ _ => rfl, fun k hk => absurd hk (Nat.not_lt_zero _), cd_off.rf _ _⟩
theorem d_C_feed_0 : cd_D_aload b_C_feed 0 0 1 := Or.inr ⟨0, ⟨by decide +kernel, rfl⟩, rfl⟩
theorem d_C_feed_1 : cd_D 3 b_C_feed 1 (.getfield 29) 4 := ⟨by decide +kernel, rfl⟩
theorem d_C_feed_4 : cd_D 3 b_C_feed 4 (.getfield 202) 7 := ⟨by decide +kernel, rfl⟩
theorem d_C_feed_7 : cd_Dk b_C_feed 7 (nI 84) 9 := Or.inr (Or.inl ⟨84, ⟨by decide +kernel, rfl⟩, by decide +kernel⟩)
theorem d_C_feed_9 : cd_D_icmp_le b_C_feed 9 15 12 := ⟨6, by decide +kernel, by decide, rfl⟩
theorem d_C_feed_12 : cd_D 2 b_C_feed 12 (.ldc 66) 14 := ⟨by decide +kernel, rfl⟩
theorem d_C_feed_14 : cd_D 1 b_C_feed 14 .ireturn 15 := ⟨by decide +kernel, rfl⟩
theorem d_C_feed_15 : cd_D_aload b_C_feed 15 0 16 := Or.inr ⟨0, ⟨by decide +kernel, rfl⟩, rfl⟩
theorem d_C_feed_16 : cd_D 3 b_C_feed 16 (.getfield 29) 19 := ⟨by decide +kernel, rfl⟩
theorem d_C_feed_19 : cd_D_iload b_C_feed 19 1 20 := Or.inr ⟨1, ⟨by decide +kernel, rfl⟩, rfl⟩
theorem d_C_feed_20 : cd_D 3 b_C_feed 20 (.invokevirtual 205) 23 := ⟨by decide +kernel, rfl⟩
theorem d_C_feed_23 : cd_D_aload b_C_feed 23 0 24 := Or.inr ⟨0, ⟨by decide +kernel, rfl⟩, rfl⟩
theorem d_C_feed_24 : cd_D 3 b_C_feed 24 (.getfield 29) 27 := ⟨by decide +kernel, rfl⟩
theorem d_C_feed_27 : cd_D_iload b_C_feed 27 2 28 := Or.inr ⟨2, ⟨by decide +kernel, rfl⟩, rfl⟩
theorem d_C_feed_28 : cd_D 3 b_C_feed 28 (.invokevirtual 205) 31 := ⟨by decide +kernel, rfl⟩
theorem d_C_feed_31 : cd_D_aload b_C_feed 31 0 32 := Or.inr ⟨0, ⟨by decide +kernel, rfl⟩, rfl⟩
theorem d_C_feed_32 : cd_D 3 b_C_feed 32 (.getfield 29) 35 := ⟨by decide +kernel, rfl⟩
theorem d_C_feed_35 : cd_D_iload b_C_feed 35 3 36 := Or.inr ⟨3, ⟨by decide +kernel, rfl⟩, rfl⟩
theorem d_C_feed_36 : cd_D 3 b_C_feed 36 (.invokevirtual 205) 39 := ⟨by decide +kernel, rfl⟩
theorem d_C_feed_39 : cd_D_aload b_C_feed 39 0 40 := Or.inr ⟨0, ⟨by decide +kernel, rfl⟩, rfl⟩
theorem d_C_feed_40 : cd_D 3 b_C_feed 40 (.getfield 29) 43 := ⟨by decide +kernel, rfl⟩
theorem d_C_feed_43 : cd_D 3 b_C_feed 43 (.getfield 202) 46 := ⟨by decide +kernel, rfl⟩
theorem d_C_feed_46 : cd_D 1 b_C_feed 46 .ireturn 47 := ⟨by decide +kernel, rfl⟩
theorem c_C_feed {l : Launch} {w : cd_WT} {S : cd_Sp} {I : cd_Mem} (hC : cd_CD w S) {L : Nat} (hL : I (w.1 + 55) 0 = nI L) (hL9 : L ≤ 96) (a b c : Int32) : cd_C l w m_C_feed 1 0 0 [.ref w.1, .int a, .int b, .int c] S I (cd_Pi S (fun y I' => y = (if L ≤ 84 then nI (L + 12) else cd_FULL) ∧ (L ≤ 84 → px_AB I I' w L 12 (cd_by a b c)) ∧ (¬ L ≤ 84 → I' = I))) := by
  refine cd_intro (by decide) (by simp [Value.category]) (Nat.le_of_ble_eq_true rfl) ?_
  intro X hO hE
  show cd_J w X 0 0 S I 0 [some (.ref w.1), some (.int a), some (.int b), some (.int c)] []
  have hH : cd_HO w S (w.1 + 1) := hC.2.2.2.2.2.2.2.2.2.1
  have hT : cd_HO w S (w.1 + 19) := hC.2.2.2.2.2.2.2.2.2.2.1
  have hI : cd_HO w S (w.1 + 37) := hC.2.2.2.2.2.2.2.2.2.2.2.1
  refine r_aload hO d_C_feed_0 rfl ?_
  refine r_getR hO f_C_29 rfl hC.1 hC.2.2.2.2.1 d_C_feed_1 ?_
  refine r_getI hO f_C_202 rfl hC.2.2.2.2.2.2.2.2.2.2.2.2.1.1 d_C_feed_4 ?_
  rw [hL]
  refine r_k hO d_C_feed_7 ?_
  refine r_icmp_le hO d_C_feed_9 (fun c_9 => ?_) (fun c_9 => ?_)
  · rw [nI_leI (by omega) (by omega)] at c_9
    refine r_aload hO d_C_feed_15 rfl ?_
    refine r_getR hO f_C_29 rfl hC.1 hC.2.2.2.2.1 d_C_feed_16 ?_
    refine r_iload hO d_C_feed_19 rfl ?_
    refine r_cV1v hO hE (c_T_addsBytes hC hL (by omega) _) mf_T_addsBytes lk_C_205 hC.2.2.2.2.2.2.2.2.2.2.2.2.1.1 rfl (by decide) rfl (Nat.le_of_ble_eq_true rfl) d_C_feed_20 (Nat.zero_le _) (Nat.zero_le _) ?_
    intro I1 g1
    refine r_aload hO d_C_feed_23 rfl ?_
    refine r_getR hO f_C_29 rfl hC.1 hC.2.2.2.2.1 d_C_feed_24 ?_
    refine r_iload hO d_C_feed_27 rfl ?_
    refine r_cV1v hO hE (c_T_addsBytes hC g1.1 (by omega) _) mf_T_addsBytes lk_C_205 hC.2.2.2.2.2.2.2.2.2.2.2.2.1.1 rfl (by decide) rfl (Nat.le_of_ble_eq_true rfl) d_C_feed_28 (Nat.zero_le _) (Nat.zero_le _) ?_
    intro I2 g2
    refine r_aload hO d_C_feed_31 rfl ?_
    refine r_getR hO f_C_29 rfl hC.1 hC.2.2.2.2.1 d_C_feed_32 ?_
    refine r_iload hO d_C_feed_35 rfl ?_
    refine r_cV1v hO hE (c_T_addsBytes hC g2.1 (by omega) _) mf_T_addsBytes lk_C_205 hC.2.2.2.2.2.2.2.2.2.2.2.2.1.1 rfl (by decide) rfl (Nat.le_of_ble_eq_true rfl) d_C_feed_36 (Nat.zero_le _) (Nat.zero_le _) ?_
    intro I3 g3
    refine r_aload hO d_C_feed_39 rfl ?_
    refine r_getR hO f_C_29 rfl hC.1 hC.2.2.2.2.1 d_C_feed_40 ?_
    refine r_getI hO f_C_202 rfl hC.2.2.2.2.2.2.2.2.2.2.2.2.1.1 d_C_feed_43 ?_
    refine r_iret hO hE (Nat.zero_le _) (Nat.zero_le _) d_C_feed_46 ?_
    have g := (g1.tr g2).tr g3
    refine ⟨_, rfl, rfl, by rw [if_pos (by omega), g3.1], fun _ => ⟨g.1, g.2.1, fun k hk => ?_, g.2.2.2⟩, fun q => absurd q (by omega)⟩
    rw [g.2.2.1 k hk]
    unfold cd_by
    congr 2
    show (if k < 4 + 4 then (if k < 4 then px_bf a k else px_bf b (k - 4)) else px_bf c (k - (4 + 4))) = _
    by_cases h4 : k < 4
    · rw [if_pos (by omega), if_pos h4, if_neg (by omega), show k % 4 = k by omega]; rfl
    · by_cases h8 : k < 8
      · rw [if_pos (by omega), if_neg h4, if_pos (by omega), if_neg (by omega), show k % 4 = k - 4 by omega]; rfl
      · rw [if_neg (by omega), if_pos (by omega), if_pos (by omega), show k % 4 = k - 8 by omega]; rfl
  · rw [nI_leI (by omega) (by omega)] at c_9
    refine r_ldc hO k_C_66 d_C_feed_12 ?_
    refine r_iret hO hE (Nat.zero_le _) (Nat.zero_le _) d_C_feed_14 ?_
    exact ⟨_, rfl, rfl, by rw [if_neg (by omega)], fun q => absurd q (by omega), fun _ => rfl⟩
