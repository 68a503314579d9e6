theorem d_T_readsPiece_0 : cd_D_aload b_T_readsPiece 0 0 1 := Or.inr ⟨0, ⟨by decide +kernel, rfl⟩, rfl⟩
theorem d_T_readsPiece_1 : cd_D 3 b_T_readsPiece 1 (.getfield 21) 4 := ⟨by decide +kernel, rfl⟩
theorem d_T_readsPiece_4 : cd_Dk b_T_readsPiece 4 (nI 2) 5 := Or.inl ⟨2, ⟨by decide +kernel, rfl⟩, by decide +kernel⟩
theorem d_T_readsPiece_5 : cd_D_icmp_eq b_T_readsPiece 5 16 8 := ⟨11, by decide +kernel, by decide, rfl⟩
theorem d_T_readsPiece_8 : cd_D_aload b_T_readsPiece 8 0 9 := Or.inr ⟨0, ⟨by decide +kernel, rfl⟩, rfl⟩
theorem d_T_readsPiece_9 : cd_D 3 b_T_readsPiece 9 (.getfield 21) 12 := ⟨by decide +kernel, rfl⟩
theorem d_T_readsPiece_12 : cd_Dk b_T_readsPiece 12 (nI 1) 13 := Or.inl ⟨1, ⟨by decide +kernel, rfl⟩, by decide +kernel⟩
theorem d_T_readsPiece_13 : cd_D_icmp_ne b_T_readsPiece 13 21 16 := ⟨8, by decide +kernel, by decide, rfl⟩
theorem d_T_readsPiece_16 : cd_D_aload b_T_readsPiece 16 0 17 := Or.inr ⟨0, ⟨by decide +kernel, rfl⟩, rfl⟩
theorem d_T_readsPiece_17 : cd_D 3 b_T_readsPiece 17 (.invokevirtual 85) 20 := ⟨by decide +kernel, rfl⟩
theorem d_T_readsPiece_20 : cd_D 1 b_T_readsPiece 20 .ireturn 21 := ⟨by decide +kernel, rfl⟩
theorem d_T_readsPiece_21 : cd_D_aload b_T_readsPiece 21 0 22 := Or.inr ⟨0, ⟨by decide +kernel, rfl⟩, rfl⟩
theorem d_T_readsPiece_22 : cd_Dk b_T_readsPiece 22 (nI 33) 24 := Or.inr (Or.inl ⟨33, ⟨by decide +kernel, rfl⟩, by decide +kernel⟩)
theorem d_T_readsPiece_24 : cd_D 3 b_T_readsPiece 24 (.invokevirtual 88) 27 := ⟨by decide +kernel, rfl⟩
theorem d_T_readsPiece_27 : cd_D_if_eq b_T_readsPiece 27 57 30 := ⟨30, by decide +kernel, by decide, rfl⟩
theorem d_T_readsPiece_30 : cd_D_iload b_T_readsPiece 30 2 31 := Or.inr ⟨2, ⟨by decide +kernel, rfl⟩, rfl⟩
theorem d_T_readsPiece_31 : cd_Dk b_T_readsPiece 31 (nI 8) 33 := Or.inr (Or.inl ⟨8, ⟨by decide +kernel, rfl⟩, by decide +kernel⟩)
theorem d_T_readsPiece_33 : cd_D_icmp_ge b_T_readsPiece 33 57 36 := ⟨24, by decide +kernel, by decide, rfl⟩
theorem d_T_readsPiece_36 : cd_D_aload b_T_readsPiece 36 0 37 := Or.inr ⟨0, ⟨by decide +kernel, rfl⟩, rfl⟩
theorem d_T_readsPiece_37 : cd_D 3 b_T_readsPiece 37 (.invokevirtual 41) 40 := ⟨by decide +kernel, rfl⟩
theorem d_T_readsPiece_40 : cd_D_aload b_T_readsPiece 40 0 41 := Or.inr ⟨0, ⟨by decide +kernel, rfl⟩, rfl⟩
theorem d_T_readsPiece_41 : cd_D_iload b_T_readsPiece 41 1 42 := Or.inr ⟨1, ⟨by decide +kernel, rfl⟩, rfl⟩
theorem d_T_readsPiece_42 : cd_D_iload b_T_readsPiece 42 2 43 := Or.inr ⟨2, ⟨by decide +kernel, rfl⟩, rfl⟩
theorem d_T_readsPiece_43 : cd_Dk b_T_readsPiece 43 (nI 1) 44 := Or.inl ⟨1, ⟨by decide +kernel, rfl⟩, by decide +kernel⟩
theorem d_T_readsPiece_44 : cd_D 1 b_T_readsPiece 44 .iadd 45 := ⟨by decide +kernel, rfl⟩
theorem d_T_readsPiece_45 : cd_D 3 b_T_readsPiece 45 (.invokevirtual 73) 48 := ⟨by decide +kernel, rfl⟩
theorem d_T_readsPiece_48 : cd_D_istore b_T_readsPiece 48 3 49 := Or.inr ⟨3, ⟨by decide +kernel, rfl⟩, rfl⟩
theorem d_T_readsPiece_49 : cd_D_aload b_T_readsPiece 49 0 50 := Or.inr ⟨0, ⟨by decide +kernel, rfl⟩, rfl⟩
theorem d_T_readsPiece_50 : cd_Dk b_T_readsPiece 50 (-33) 52 := Or.inr (Or.inl ⟨-33, ⟨by decide +kernel, rfl⟩, by decide +kernel⟩)
theorem d_T_readsPiece_52 : cd_D 3 b_T_readsPiece 52 (.invokevirtual 81) 55 := ⟨by decide +kernel, rfl⟩
theorem d_T_readsPiece_55 : cd_D_iload b_T_readsPiece 55 3 56 := Or.inr ⟨3, ⟨by decide +kernel, rfl⟩, rfl⟩
theorem d_T_readsPiece_56 : cd_D 1 b_T_readsPiece 56 .ireturn 57 := ⟨by decide +kernel, rfl⟩
theorem d_T_readsPiece_57 : cd_D_aload b_T_readsPiece 57 0 58 := Or.inr ⟨0, ⟨by decide +kernel, rfl⟩, rfl⟩
theorem d_T_readsPiece_58 : cd_Dk b_T_readsPiece 58 (nI 40) 60 := Or.inr (Or.inl ⟨40, ⟨by decide +kernel, rfl⟩, by decide +kernel⟩)
theorem d_T_readsPiece_60 : cd_D 3 b_T_readsPiece 60 (.invokevirtual 88) 63 := ⟨by decide +kernel, rfl⟩
theorem d_T_readsPiece_63 : cd_D_if_eq b_T_readsPiece 63 72 66 := ⟨9, by decide +kernel, by decide, rfl⟩
theorem d_T_readsPiece_66 : cd_D_iload b_T_readsPiece 66 1 67 := Or.inr ⟨1, ⟨by decide +kernel, rfl⟩, rfl⟩
theorem d_T_readsPiece_67 : cd_Dk b_T_readsPiece 67 (nI 8) 69 := Or.inr (Or.inl ⟨8, ⟨by decide +kernel, rfl⟩, by decide +kernel⟩)
theorem d_T_readsPiece_69 : cd_D_icmp_lt b_T_readsPiece 69 74 72 := ⟨5, by decide +kernel, by decide, rfl⟩
theorem d_T_readsPiece_72 : cd_Dk b_T_readsPiece 72 (nI 0) 73 := Or.inl ⟨0, ⟨by decide +kernel, rfl⟩, by decide +kernel⟩
theorem d_T_readsPiece_73 : cd_D 1 b_T_readsPiece 73 .ireturn 74 := ⟨by decide +kernel, rfl⟩
theorem d_T_readsPiece_74 : cd_D_aload b_T_readsPiece 74 0 75 := Or.inr ⟨0, ⟨by decide +kernel, rfl⟩, rfl⟩
theorem d_T_readsPiece_75 : cd_D 3 b_T_readsPiece 75 (.invokevirtual 41) 78 := ⟨by decide +kernel, rfl⟩
theorem d_T_readsPiece_78 : cd_D_aload b_T_readsPiece 78 0 79 := Or.inr ⟨0, ⟨by decide +kernel, rfl⟩, rfl⟩
theorem d_T_readsPiece_79 : cd_Dk b_T_readsPiece 79 (nI 0) 80 := Or.inl ⟨0, ⟨by decide +kernel, rfl⟩, by decide +kernel⟩
theorem d_T_readsPiece_80 : cd_D_iload b_T_readsPiece 80 1 81 := Or.inr ⟨1, ⟨by decide +kernel, rfl⟩, rfl⟩
theorem d_T_readsPiece_81 : cd_Dk b_T_readsPiece 81 (nI 1) 82 := Or.inl ⟨1, ⟨by decide +kernel, rfl⟩, by decide +kernel⟩
theorem d_T_readsPiece_82 : cd_D 1 b_T_readsPiece 82 .iadd 83 := ⟨by decide +kernel, rfl⟩
theorem d_T_readsPiece_83 : cd_D_iload b_T_readsPiece 83 2 84 := Or.inr ⟨2, ⟨by decide +kernel, rfl⟩, rfl⟩
theorem d_T_readsPiece_84 : cd_D 3 b_T_readsPiece 84 (.invokevirtual 48) 87 := ⟨by decide +kernel, rfl⟩
theorem d_T_readsPiece_87 : cd_D_if_eq b_T_readsPiece 87 99 90 := ⟨12, by decide +kernel, by decide, rfl⟩
theorem d_T_readsPiece_90 : cd_D_aload b_T_readsPiece 90 0 91 := Or.inr ⟨0, ⟨by decide +kernel, rfl⟩, rfl⟩
theorem d_T_readsPiece_91 : cd_Dk b_T_readsPiece 91 (nI 41) 93 := Or.inr (Or.inl ⟨41, ⟨by decide +kernel, rfl⟩, by decide +kernel⟩)
theorem d_T_readsPiece_93 : cd_D 3 b_T_readsPiece 93 (.invokevirtual 88) 96 := ⟨by decide +kernel, rfl⟩
theorem d_T_readsPiece_96 : cd_D_if_ne b_T_readsPiece 96 101 99 := ⟨5, by decide +kernel, by decide, rfl⟩
theorem d_T_readsPiece_99 : cd_Dk b_T_readsPiece 99 (nI 0) 100 := Or.inl ⟨0, ⟨by decide +kernel, rfl⟩, by decide +kernel⟩
theorem d_T_readsPiece_100 : cd_D 1 b_T_readsPiece 100 .ireturn 101 := ⟨by decide +kernel, rfl⟩
theorem d_T_readsPiece_101 : cd_D_aload b_T_readsPiece 101 0 102 := Or.inr ⟨0, ⟨by decide +kernel, rfl⟩, rfl⟩
theorem d_T_readsPiece_102 : cd_D 3 b_T_readsPiece 102 (.invokevirtual 41) 105 := ⟨by decide +kernel, rfl⟩
theorem d_T_readsPiece_105 : cd_Dk b_T_readsPiece 105 (nI 1) 106 := Or.inl ⟨1, ⟨by decide +kernel, rfl⟩, by decide +kernel⟩
theorem d_T_readsPiece_106 : cd_D 1 b_T_readsPiece 106 .ireturn 107 := ⟨by decide +kernel, rfl⟩
theorem d_T_readsLevel_0 : cd_D_iload b_T_readsLevel 0 1 1 := Or.inr ⟨1, ⟨by decide +kernel, rfl⟩, rfl⟩
theorem d_T_readsLevel_1 : cd_Dk b_T_readsLevel 1 (nI 5) 2 := Or.inl ⟨5, ⟨by decide +kernel, rfl⟩, by decide +kernel⟩
theorem d_T_readsLevel_2 : cd_D_icmp_ne b_T_readsLevel 2 12 5 := ⟨10, by decide +kernel, by decide, rfl⟩
theorem d_T_readsLevel_5 : cd_D_aload b_T_readsLevel 5 0 6 := Or.inr ⟨0, ⟨by decide +kernel, rfl⟩, rfl⟩
theorem d_T_readsLevel_6 : cd_D_iload b_T_readsLevel 6 2 7 := Or.inr ⟨2, ⟨by decide +kernel, rfl⟩, rfl⟩
theorem d_T_readsLevel_7 : cd_D_iload b_T_readsLevel 7 3 8 := Or.inr ⟨3, ⟨by decide +kernel, rfl⟩, rfl⟩
theorem d_T_readsLevel_8 : cd_D 3 b_T_readsLevel 8 (.invokevirtual 73) 11 := ⟨by decide +kernel, rfl⟩
theorem d_T_readsLevel_11 : cd_D 1 b_T_readsLevel 11 .ireturn 12 := ⟨by decide +kernel, rfl⟩
theorem d_T_readsLevel_12 : cd_D_aload b_T_readsLevel 12 0 13 := Or.inr ⟨0, ⟨by decide +kernel, rfl⟩, rfl⟩
theorem d_T_readsLevel_13 : cd_D_iload b_T_readsLevel 13 1 14 := Or.inr ⟨1, ⟨by decide +kernel, rfl⟩, rfl⟩
theorem d_T_readsLevel_14 : cd_Dk b_T_readsLevel 14 (nI 1) 15 := Or.inl ⟨1, ⟨by decide +kernel, rfl⟩, by decide +kernel⟩
theorem d_T_readsLevel_15 : cd_D 1 b_T_readsLevel 15 .iadd 16 := ⟨by decide +kernel, rfl⟩
theorem d_T_readsLevel_16 : cd_D_iload b_T_readsLevel 16 2 17 := Or.inr ⟨2, ⟨by decide +kernel, rfl⟩, rfl⟩
theorem d_T_readsLevel_17 : cd_D_iload b_T_readsLevel 17 3 18 := Or.inr ⟨3, ⟨by decide +kernel, rfl⟩, rfl⟩
theorem d_T_readsLevel_18 : cd_D 3 b_T_readsLevel 18 (.invokevirtual 48) 21 := ⟨by decide +kernel, rfl⟩
theorem d_T_readsLevel_21 : cd_D_if_ne b_T_readsLevel 21 26 24 := ⟨5, by decide +kernel, by decide, rfl⟩
theorem d_T_readsLevel_24 : cd_Dk b_T_readsLevel 24 (nI 0) 25 := Or.inl ⟨0, ⟨by decide +kernel, rfl⟩, by decide +kernel⟩
theorem d_T_readsLevel_25 : cd_D 1 b_T_readsLevel 25 .ireturn 26 := ⟨by decide +kernel, rfl⟩
theorem d_T_readsLevel_26 : cd_D_iload b_T_readsLevel 26 1 27 := Or.inr ⟨1, ⟨by decide +kernel, rfl⟩, rfl⟩
theorem d_T_readsLevel_27 : cd_Dk b_T_readsLevel 27 (nI 2) 28 := Or.inl ⟨2, ⟨by decide +kernel, rfl⟩, by decide +kernel⟩
theorem d_T_readsLevel_28 : cd_D_icmp_ne b_T_readsLevel 28 35 31 := ⟨7, by decide +kernel, by decide, rfl⟩
theorem d_T_readsLevel_31 : cd_Dk b_T_readsLevel 31 (nI 1) 32 := Or.inl ⟨1, ⟨by decide +kernel, rfl⟩, by decide +kernel⟩
theorem d_T_readsLevel_32 : cd_D_goto b_T_readsLevel 32 37 := ⟨5, by decide +kernel, by decide⟩
theorem d_T_readsLevel_35 : cd_Dk b_T_readsLevel 35 (nI 96) 37 := Or.inr (Or.inl ⟨96, ⟨by decide +kernel, rfl⟩, by decide +kernel⟩)
theorem d_T_readsLevel_37 : cd_D_istore b_T_readsLevel 37 4 39 := Or.inl ⟨by decide +kernel, rfl⟩
theorem d_T_readsLevel_39 : cd_Dk b_T_readsLevel 39 (nI 0) 40 := Or.inl ⟨0, ⟨by decide +kernel, rfl⟩, by decide +kernel⟩
theorem d_T_readsLevel_40 : cd_D_istore b_T_readsLevel 40 5 42 := Or.inl ⟨by decide +kernel, rfl⟩
theorem d_T_readsLevel_42 : cd_D_iload b_T_readsLevel 42 5 44 := Or.inl ⟨by decide +kernel, rfl⟩
theorem d_T_readsLevel_44 : cd_D_iload b_T_readsLevel 44 4 46 := Or.inl ⟨by decide +kernel, rfl⟩
theorem d_T_readsLevel_46 : cd_D_icmp_ge b_T_readsLevel 46 99 49 := ⟨53, by decide +kernel, by decide, rfl⟩
theorem d_T_readsLevel_49 : cd_D_aload b_T_readsLevel 49 0 50 := Or.inr ⟨0, ⟨by decide +kernel, rfl⟩, rfl⟩
theorem d_T_readsLevel_50 : cd_D_iload b_T_readsLevel 50 1 51 := Or.inr ⟨1, ⟨by decide +kernel, rfl⟩, rfl⟩
theorem d_T_readsLevel_51 : cd_D 3 b_T_readsLevel 51 (.invokevirtual 77) 54 := ⟨by decide +kernel, rfl⟩
theorem d_T_readsLevel_54 : cd_D_if_eq b_T_readsLevel 54 99 57 := ⟨45, by decide +kernel, by decide, rfl⟩
theorem d_T_readsLevel_57 : cd_D_aload b_T_readsLevel 57 0 58 := Or.inr ⟨0, ⟨by decide +kernel, rfl⟩, rfl⟩
theorem d_T_readsLevel_58 : cd_D 3 b_T_readsLevel 58 (.getfield 33) 61 := ⟨by decide +kernel, rfl⟩
theorem d_T_readsLevel_61 : cd_D_aload b_T_readsLevel 61 0 62 := Or.inr ⟨0, ⟨by decide +kernel, rfl⟩, rfl⟩
theorem d_T_readsLevel_62 : cd_D 3 b_T_readsLevel 62 (.getfield 15) 65 := ⟨by decide +kernel, rfl⟩
theorem d_T_readsLevel_65 : cd_D 1 b_T_readsLevel 65 .baload 66 := ⟨by decide +kernel, rfl⟩
theorem d_T_readsLevel_66 : cd_D_istore b_T_readsLevel 66 6 68 := Or.inl ⟨by decide +kernel, rfl⟩
theorem d_T_readsLevel_68 : cd_D_aload b_T_readsLevel 68 0 69 := Or.inr ⟨0, ⟨by decide +kernel, rfl⟩, rfl⟩
theorem d_T_readsLevel_69 : cd_D 3 b_T_readsLevel 69 (.invokevirtual 41) 72 := ⟨by decide +kernel, rfl⟩
theorem d_T_readsLevel_72 : cd_D_aload b_T_readsLevel 72 0 73 := Or.inr ⟨0, ⟨by decide +kernel, rfl⟩, rfl⟩
theorem d_T_readsLevel_73 : cd_D_iload b_T_readsLevel 73 1 74 := Or.inr ⟨1, ⟨by decide +kernel, rfl⟩, rfl⟩
theorem d_T_readsLevel_74 : cd_Dk b_T_readsLevel 74 (nI 1) 75 := Or.inl ⟨1, ⟨by decide +kernel, rfl⟩, by decide +kernel⟩
theorem d_T_readsLevel_75 : cd_D 1 b_T_readsLevel 75 .iadd 76 := ⟨by decide +kernel, rfl⟩
theorem d_T_readsLevel_76 : cd_D_iload b_T_readsLevel 76 2 77 := Or.inr ⟨2, ⟨by decide +kernel, rfl⟩, rfl⟩
theorem d_T_readsLevel_77 : cd_D_iload b_T_readsLevel 77 3 78 := Or.inr ⟨3, ⟨by decide +kernel, rfl⟩, rfl⟩
theorem d_T_readsLevel_78 : cd_D 3 b_T_readsLevel 78 (.invokevirtual 48) 81 := ⟨by decide +kernel, rfl⟩
theorem d_T_readsLevel_81 : cd_D_if_ne b_T_readsLevel 81 86 84 := ⟨5, by decide +kernel, by decide, rfl⟩
theorem d_T_readsLevel_84 : cd_Dk b_T_readsLevel 84 (nI 0) 85 := Or.inl ⟨0, ⟨by decide +kernel, rfl⟩, by decide +kernel⟩
theorem d_T_readsLevel_85 : cd_D 1 b_T_readsLevel 85 .ireturn 86 := ⟨by decide +kernel, rfl⟩
theorem d_T_readsLevel_86 : cd_D_aload b_T_readsLevel 86 0 87 := Or.inr ⟨0, ⟨by decide +kernel, rfl⟩, rfl⟩
theorem d_T_readsLevel_87 : cd_D_iload b_T_readsLevel 87 6 89 := Or.inl ⟨by decide +kernel, rfl⟩
theorem d_T_readsLevel_89 : cd_D 1 b_T_readsLevel 89 .ineg 90 := ⟨by decide +kernel, rfl⟩
theorem d_T_readsLevel_90 : cd_D 3 b_T_readsLevel 90 (.invokevirtual 81) 93 := ⟨by decide +kernel, rfl⟩
theorem d_T_readsLevel_93 : cd_D 3 b_T_readsLevel 93 (.iinc 5 (1)) 96 := ⟨by decide +kernel, rfl⟩
theorem d_T_readsLevel_96 : cd_D_goto b_T_readsLevel 96 42 := ⟨-54, by decide +kernel, by decide⟩
theorem d_T_readsLevel_99 : cd_Dk b_T_readsLevel 99 (nI 1) 100 := Or.inl ⟨1, ⟨by decide +kernel, rfl⟩, by decide +kernel⟩
theorem d_T_readsLevel_100 : cd_D 1 b_T_readsLevel 100 .ireturn 101 := ⟨by decide +kernel, rfl⟩
theorem rd_k12 {B : Nat → Nat} {L ky f op nt : Nat} {t : px_Tok} (hk : t.2.1 = 1 ∨ t.2.1 = 2) : px_rdt B L ky (f + 1) 5 op nt t = (if (px_lfo B ky t).isSome = true then (true, px_adv B L t, [(px_lfo B ky t).getD 0]) else (false, t, [])) := by
  cases hc : px_lfo B ky t with
  | some c => rw [rd_leaf hc]; rfl
  | none => rw [rd_bad hc (fun q => by have := q.1.1; omega) (fun q => by have := q.1.1; omega)]; rfl
theorem px_lfo_n {B : Nat → Nat} {ky : Nat} {t : px_Tok} (h1 : ¬ t.2.1 = 1) (h2 : ¬ t.2.1 = 2) : px_lfo B ky t = none := by
  unfold px_lfo
  rw [if_neg h2, if_neg (fun q => h1 q.1)]
theorem px_PO_z {I : cd_Mem} {w : cd_WT} {B : Nat → Nat} {L ky u v : Nat} {r : Bool × px_Tok × List Int32} {y : Int32} {I' : cd_Mem} (h : px_PO I w B L ky u v r y I') : y = 0 ∨ y = 1 := by
  rcases h with h | h
  · exact Or.inr h.2.1
  · exact Or.inl h.2.1
theorem px_trs : ∀ b, b < 256 → 0 < px_sgn b → -(px_sx b) = cd_tr (px_sc (px_sgn b)) := by decide +kernel
theorem px_trn : (-33 : Int32) = cd_tr (px_sc 10) := by decide
theorem px_lv_sc {n : Nat} (h1 : 1 ≤ n) (h2 : n ≤ 10) : px_lv [px_sc n] = 0 := px_lv_s [n] (fun x hx => by rw [List.mem_singleton.mp hx]; exact ⟨h1, h2⟩)
theorem tp_piece {l : Launch} {w : cd_WT} {S : cd_Sp} (hC : cd_CD w S) {B : Nat → Nat} {L ky n : Nat} (ih : ∀ f, f ≤ n → (∀ op nt t I u v, op ≤ 8 → nt ≤ 8 → px_need L 5 t ≤ f → px_CT I w B L ky t u v → u ≤ t.1 → cd_C l w m_T_readsPiece (6 + 7 * (8 - op) + (8 - nt)) 0 0 [.ref (w.1 + 55), .int (nI op), .int (nI nt)] S I (cd_Pi S (px_PO I w B L ky u v (px_rdt B L ky f 5 op nt t)))) ∧ ∀ lev op nt t I u v, lev ≤ 5 → op ≤ 8 → nt ≤ 8 → px_need L lev t ≤ f → px_CT I w B L ky t u v → u ≤ t.1 → cd_C l w m_T_readsLevel (6 + 7 * (8 - op) + (8 - nt) + 1 + (5 - lev)) 0 0 [.ref (w.1 + 55), .int (nI lev), .int (nI op), .int (nI nt)] S I (cd_Pi S (px_PO I w B L ky u v (px_rdt B L ky f lev op nt t)))) {op nt : Nat} {t : px_Tok} {I : cd_Mem} {u v : Nat} (hop : op ≤ 8) (hnt : nt ≤ 8) (hf : px_need L 5 t ≤ n + 1) (h : px_CT I w B L ky t u v) (hu : u ≤ t.1) : cd_C l w m_T_readsPiece (6 + 7 * (8 - op) + (8 - nt)) 0 0 [.ref (w.1 + 55), .int (nI op), .int (nI nt)] S I (cd_Pi S (px_PO I w B L ky u v (px_rdt B L ky (n + 1) 5 op nt t))) := by
  refine cd_intro (by decide) (by simp [Value.category]) (Nat.le_of_ble_eq_true rfl) ?_
  intro X hO hE
  show cd_J w X 0 0 S I 0 [some (.ref (w.1 + 55)), some (.int (nI op)), some (.int (nI nt)), none] []
  obtain ⟨hB, hO2, t1, t2, t3, ⟨t4, t4b⟩, t5, t6, t7⟩ := id h
  have hkd := hO2.2.2.2.2.1
  have hL9 := hB.2.1
  have hnL := hO2.2.1
  have htL := hO2.1
  have hn5 : 8 * (L - t.1) + 2 ≤ n + 1 := hf
  refine r_aload hO d_T_readsPiece_0 rfl ?_
  refine r_getI hO f_T_21 rfl hC.2.2.2.2.2.2.2.2.2.2.2.2.1.1 d_T_readsPiece_1 ?_
  refine r_tops (show _ = nI t.2.1 from t3) ?_
  refine r_k hO d_T_readsPiece_4 ?_
  refine r_icmp_eq hO d_T_readsPiece_5 (fun c_5 => ?_) (fun c_5 => ?_)
  · rw [nI_eq (by omega) (by omega)] at c_5
    have hk12 : t.2.1 = 1 ∨ t.2.1 = 2 := by omega
    refine r_aload hO d_T_readsPiece_16 rfl ?_
    refine r_cV0i hO hE (c_T_readsLeaf hC h hk12 hu) mf_T_readsLeaf lk_T_85 hC.2.2.2.2.2.2.2.2.2.2.2.2.1.1 rfl (by omega) rfl (Nat.le_of_ble_eq_true rfl) d_T_readsPiece_17 (Nat.zero_le _) (Nat.zero_le _) ?_
    rintro y I2 hp
    rw [← rd_k12 (f := n) (op := op) (nt := nt) hk12] at hp
    refine r_zret hO hE (px_PO_z hp) (Nat.zero_le _) (Nat.zero_le _) d_T_readsPiece_20 ?_
    exact ⟨_, rfl, rfl, hp⟩
  · rw [nI_eq (by omega) (by omega)] at c_5
    refine r_aload hO d_T_readsPiece_8 rfl ?_
    refine r_getI hO f_T_21 rfl hC.2.2.2.2.2.2.2.2.2.2.2.2.1.1 d_T_readsPiece_9 ?_
    refine r_tops (show _ = nI t.2.1 from t3) ?_
    refine r_k hO d_T_readsPiece_12 ?_
    refine r_icmp_ne hO d_T_readsPiece_13 (fun c_13 => ?_) (fun c_13 => ?_)
    · rw [nI_eq (by omega) (by omega)] at c_13
      refine r_aload hO d_T_readsPiece_21 rfl ?_
      refine r_k hO d_T_readsPiece_22 ?_
      refine r_cV1fi hO hE (c_T_isSign hC h 33 (by decide)) mf_T_isSign lk_T_88 hC.2.2.2.2.2.2.2.2.2.2.2.2.1.1 rfl (by omega) rfl (Nat.le_of_ble_eq_true rfl) d_T_readsPiece_24 (Nat.zero_le _) (Nat.zero_le _) ?_
      refine r_if_eqB hO d_T_readsPiece_27 (fun c_27 => ?_) (fun c_27 => ?_)
      · refine r_aload hO d_T_readsPiece_57 rfl ?_
        refine r_k hO d_T_readsPiece_58 ?_
        refine r_cV1fi hO hE (c_T_isSign hC h 40 (by decide)) mf_T_isSign lk_T_88 hC.2.2.2.2.2.2.2.2.2.2.2.2.1.1 rfl (by omega) rfl (Nat.le_of_ble_eq_true rfl) d_T_readsPiece_60 (Nat.zero_le _) (Nat.zero_le _) ?_
        refine r_if_eqB hO d_T_readsPiece_63 (fun c_63 => ?_) (fun c_63 => ?_)
        · refine r_k hO d_T_readsPiece_72 ?_
          refine r_zret hO hE (by first | exact Or.inl rfl | exact Or.inr rfl) (Nat.zero_le _) (Nat.zero_le _) d_T_readsPiece_73 ?_
          rw [rd_bad (px_lfo_n c_13 c_5) (fun q => c_27 q.1) (fun q => c_63 q.1)]
          exact ⟨_, rfl, rfl, Or.inr ⟨rfl, rfl, hB, t1, ⟨u, t7, t6⟩, cd_off.rf _ _⟩⟩
        · have hk3 := c_63.1
          refine r_iload hO d_T_readsPiece_66 rfl ?_
          refine r_k hO d_T_readsPiece_67 ?_
          refine r_icmp_lt hO d_T_readsPiece_69 (fun c_69 => ?_) (fun c_69 => ?_)
          · rw [nI_ltI (by omega) (by omega)] at c_69
            have hadv := px_adv_lt hO2 (by omega)
            have hato := (px_adv_ok hO2).1
            have hatL := hato.1
            refine r_aload hO d_T_readsPiece_74 rfl ?_
            refine r_cV0v hO hE (c_T_advances_r hC h) mf_T_advances lk_T_41 hC.2.2.2.2.2.2.2.2.2.2.2.2.1.1 rfl (by omega) rfl (Nat.le_of_ble_eq_true rfl) d_T_readsPiece_75 (Nat.zero_le _) (Nat.zero_le _) ?_
            rintro I2 ⟨g1, g2⟩
            refine r_aload hO d_T_readsPiece_78 rfl ?_
            refine r_k hO d_T_readsPiece_79 ?_
            refine r_iload hO d_T_readsPiece_80 rfl ?_
            refine r_k hO d_T_readsPiece_81 ?_
            refine r_iaddN hO d_T_readsPiece_82 ?_
            refine r_iload hO d_T_readsPiece_83 rfl ?_
            refine r_cV3i hO hE ((ih n (Nat.le_refl _)).2 0 (op + 1) nt (px_adv B L t) I2 u v (by decide) (by omega) hnt (by unfold px_need; rw [if_pos (by decide)]; omega) g1 (by omega)) mf_T_readsLevel lk_T_48 hC.2.2.2.2.2.2.2.2.2.2.2.2.1.1 rfl (by omega) rfl (Nat.le_of_ble_eq_true rfl) d_T_readsPiece_84 (Nat.zero_le _) (Nat.zero_le _) ?_
            rintro y I3 hp
            have hrd := rd_ok (B := B) (L := L) (ky := ky) n 0 (op + 1) nt _ hato (Or.inl (by decide))
            generalize ga : px_rdt B L ky n 0 (op + 1) nt (px_adv B L t) = a at hp hrd
            rcases hp with ⟨e1, rfl, e3, e4⟩ | ⟨e1, rfl, q1, q2, ⟨u', q3, q4⟩, q5⟩
            · refine r_if_eq hO d_T_readsPiece_87 (fun c_87 => ?_) (fun c_87 => ?_)
              · exact absurd c_87 (by decide)
              · refine r_aload hO d_T_readsPiece_90 rfl ?_
                refine r_k hO d_T_readsPiece_91 ?_
                refine r_cV1fi hO hE (c_T_isSign hC e3 41 (by decide)) mf_T_isSign lk_T_88 hC.2.2.2.2.2.2.2.2.2.2.2.2.1.1 rfl (by omega) rfl (Nat.le_of_ble_eq_true rfl) d_T_readsPiece_93 (Nat.zero_le _) (Nat.zero_le _) ?_
                refine r_if_neB hO d_T_readsPiece_96 (fun c_96 => ?_) (fun c_96 => ?_)
                · refine r_aload hO d_T_readsPiece_101 rfl ?_
                  refine r_cV0v hO hE (c_T_advances_r hC e3) mf_T_advances lk_T_41 hC.2.2.2.2.2.2.2.2.2.2.2.2.1.1 rfl (by omega) rfl (Nat.le_of_ble_eq_true rfl) d_T_readsPiece_102 (Nat.zero_le _) (Nat.zero_le _) ?_
                  rintro I4 ⟨g5, g6⟩
                  refine r_k hO d_T_readsPiece_105 ?_
                  refine r_zret hO hE (by first | exact Or.inl rfl | exact Or.inr rfl) (Nat.zero_le _) (Nat.zero_le _) d_T_readsPiece_106 ?_
                  rw [rd_openY (px_lfo_n c_13 c_5) c_63 (by omega) ga e1 c_96]
                  have e5 := ((px_AP.nil g2).tr e4).tr (px_AP.nil g6)
                  rw [List.nil_append, List.append_nil] at e5
                  exact ⟨_, rfl, rfl, Or.inl ⟨rfl, rfl, g5, e5⟩⟩
                · refine r_k hO d_T_readsPiece_99 ?_
                  refine r_zret hO hE (by first | exact Or.inl rfl | exact Or.inr rfl) (Nat.zero_le _) (Nat.zero_le _) d_T_readsPiece_100 ?_
                  rw [rd_openN (px_lfo_n c_13 c_5) c_63 (by omega) ga (fun q => c_96 q.2)]
                  exact ⟨_, rfl, rfl, Or.inr ⟨rfl, rfl, e3.1, e3.2.2.1, ⟨_, e3.2.2.2.2.2.2.2.2, e3.2.2.2.2.2.2.2.1⟩, (g2.mono (fun b hb => by simp at hb ⊢; omega)).tr e4.1⟩⟩
            · have e0 := rd_openN (L := L) (f := n) (nt := nt) (px_lfo_n (B := B) (ky := ky) c_13 c_5) c_63 (by omega) ga (fun q => by rw [e1] at q; exact absurd q.1 (by decide))
              rw [e0] at hE
              refine r_if_eq hO d_T_readsPiece_87 (fun c_87 => ?_) (fun c_87 => ?_)
              · refine r_k hO d_T_readsPiece_99 ?_
                refine r_zret hO hE (by first | exact Or.inl rfl | exact Or.inr rfl) (Nat.zero_le _) (Nat.zero_le _) d_T_readsPiece_100 ?_
                exact ⟨_, rfl, rfl, Or.inr ⟨rfl, rfl, q1, q2, ⟨u', q3, q4⟩, (g2.mono (fun b hb => by simp at hb ⊢; omega)).tr q5⟩⟩
              · exact absurd rfl c_87
          · rw [nI_ltI (by omega) (by omega)] at c_69
            refine r_k hO d_T_readsPiece_72 ?_
            refine r_zret hO hE (by first | exact Or.inl rfl | exact Or.inr rfl) (Nat.zero_le _) (Nat.zero_le _) d_T_readsPiece_73 ?_
            rw [rd_bad (px_lfo_n c_13 c_5) (fun q => c_27 q.1) (fun q => by omega)]
            exact ⟨_, rfl, rfl, Or.inr ⟨rfl, rfl, hB, t1, ⟨u, t7, t6⟩, cd_off.rf _ _⟩⟩
      · have hk3 := c_27.1
        refine r_iload hO d_T_readsPiece_30 rfl ?_
        refine r_k hO d_T_readsPiece_31 ?_
        refine r_icmp_ge hO d_T_readsPiece_33 (fun c_33 => ?_) (fun c_33 => ?_)
        · rw [nI_leI (by omega) (by omega)] at c_33
          refine r_aload hO d_T_readsPiece_57 rfl ?_
          refine r_k hO d_T_readsPiece_58 ?_
          refine r_cV1fi hO hE (c_T_isSign hC h 40 (by decide)) mf_T_isSign lk_T_88 hC.2.2.2.2.2.2.2.2.2.2.2.2.1.1 rfl (by omega) rfl (Nat.le_of_ble_eq_true rfl) d_T_readsPiece_60 (Nat.zero_le _) (Nat.zero_le _) ?_
          refine r_if_eqB hO d_T_readsPiece_63 (fun c_63 => ?_) (fun c_63 => ?_)
          · refine r_k hO d_T_readsPiece_72 ?_
            refine r_zret hO hE (by first | exact Or.inl rfl | exact Or.inr rfl) (Nat.zero_le _) (Nat.zero_le _) d_T_readsPiece_73 ?_
            rw [rd_bad (px_lfo_n c_13 c_5) (fun q => by omega) (fun q => c_63 q.1)]
            exact ⟨_, rfl, rfl, Or.inr ⟨rfl, rfl, hB, t1, ⟨u, t7, t6⟩, cd_off.rf _ _⟩⟩
          · have hk3 := c_63.1
            refine r_iload hO d_T_readsPiece_66 rfl ?_
            refine r_k hO d_T_readsPiece_67 ?_
            refine r_icmp_lt hO d_T_readsPiece_69 (fun c_69 => ?_) (fun c_69 => ?_)
            · rw [nI_ltI (by omega) (by omega)] at c_69
              have hadv := px_adv_lt hO2 (by omega)
              have hato := (px_adv_ok hO2).1
              have hatL := hato.1
              refine r_aload hO d_T_readsPiece_74 rfl ?_
              refine r_cV0v hO hE (c_T_advances_r hC h) mf_T_advances lk_T_41 hC.2.2.2.2.2.2.2.2.2.2.2.2.1.1 rfl (by omega) rfl (Nat.le_of_ble_eq_true rfl) d_T_readsPiece_75 (Nat.zero_le _) (Nat.zero_le _) ?_
              rintro I2 ⟨g1, g2⟩
              refine r_aload hO d_T_readsPiece_78 rfl ?_
              refine r_k hO d_T_readsPiece_79 ?_
              refine r_iload hO d_T_readsPiece_80 rfl ?_
              refine r_k hO d_T_readsPiece_81 ?_
              refine r_iaddN hO d_T_readsPiece_82 ?_
              refine r_iload hO d_T_readsPiece_83 rfl ?_
              refine r_cV3i hO hE ((ih n (Nat.le_refl _)).2 0 (op + 1) nt (px_adv B L t) I2 u v (by decide) (by omega) hnt (by unfold px_need; rw [if_pos (by decide)]; omega) g1 (by omega)) mf_T_readsLevel lk_T_48 hC.2.2.2.2.2.2.2.2.2.2.2.2.1.1 rfl (by omega) rfl (Nat.le_of_ble_eq_true rfl) d_T_readsPiece_84 (Nat.zero_le _) (Nat.zero_le _) ?_
              rintro y I3 hp
              have hrd := rd_ok (B := B) (L := L) (ky := ky) n 0 (op + 1) nt _ hato (Or.inl (by decide))
              generalize ga : px_rdt B L ky n 0 (op + 1) nt (px_adv B L t) = a at hp hrd
              rcases hp with ⟨e1, rfl, e3, e4⟩ | ⟨e1, rfl, q1, q2, ⟨u', q3, q4⟩, q5⟩
              · refine r_if_eq hO d_T_readsPiece_87 (fun c_87 => ?_) (fun c_87 => ?_)
                · exact absurd c_87 (by decide)
                · refine r_aload hO d_T_readsPiece_90 rfl ?_
                  refine r_k hO d_T_readsPiece_91 ?_
                  refine r_cV1fi hO hE (c_T_isSign hC e3 41 (by decide)) mf_T_isSign lk_T_88 hC.2.2.2.2.2.2.2.2.2.2.2.2.1.1 rfl (by omega) rfl (Nat.le_of_ble_eq_true rfl) d_T_readsPiece_93 (Nat.zero_le _) (Nat.zero_le _) ?_
                  refine r_if_neB hO d_T_readsPiece_96 (fun c_96 => ?_) (fun c_96 => ?_)
                  · refine r_aload hO d_T_readsPiece_101 rfl ?_
                    refine r_cV0v hO hE (c_T_advances_r hC e3) mf_T_advances lk_T_41 hC.2.2.2.2.2.2.2.2.2.2.2.2.1.1 rfl (by omega) rfl (Nat.le_of_ble_eq_true rfl) d_T_readsPiece_102 (Nat.zero_le _) (Nat.zero_le _) ?_
                    rintro I4 ⟨g5, g6⟩
                    refine r_k hO d_T_readsPiece_105 ?_
                    refine r_zret hO hE (by first | exact Or.inl rfl | exact Or.inr rfl) (Nat.zero_le _) (Nat.zero_le _) d_T_readsPiece_106 ?_
                    rw [rd_openY (px_lfo_n c_13 c_5) c_63 (by omega) ga e1 c_96]
                    have e5 := ((px_AP.nil g2).tr e4).tr (px_AP.nil g6)
                    rw [List.nil_append, List.append_nil] at e5
                    exact ⟨_, rfl, rfl, Or.inl ⟨rfl, rfl, g5, e5⟩⟩
                  · refine r_k hO d_T_readsPiece_99 ?_
                    refine r_zret hO hE (by first | exact Or.inl rfl | exact Or.inr rfl) (Nat.zero_le _) (Nat.zero_le _) d_T_readsPiece_100 ?_
                    rw [rd_openN (px_lfo_n c_13 c_5) c_63 (by omega) ga (fun q => c_96 q.2)]
                    exact ⟨_, rfl, rfl, Or.inr ⟨rfl, rfl, e3.1, e3.2.2.1, ⟨_, e3.2.2.2.2.2.2.2.2, e3.2.2.2.2.2.2.2.1⟩, (g2.mono (fun b hb => by simp at hb ⊢; omega)).tr e4.1⟩⟩
              · have e0 := rd_openN (L := L) (f := n) (nt := nt) (px_lfo_n (B := B) (ky := ky) c_13 c_5) c_63 (by omega) ga (fun q => by rw [e1] at q; exact absurd q.1 (by decide))
                rw [e0] at hE
                refine r_if_eq hO d_T_readsPiece_87 (fun c_87 => ?_) (fun c_87 => ?_)
                · refine r_k hO d_T_readsPiece_99 ?_
                  refine r_zret hO hE (by first | exact Or.inl rfl | exact Or.inr rfl) (Nat.zero_le _) (Nat.zero_le _) d_T_readsPiece_100 ?_
                  exact ⟨_, rfl, rfl, Or.inr ⟨rfl, rfl, q1, q2, ⟨u', q3, q4⟩, (g2.mono (fun b hb => by simp at hb ⊢; omega)).tr q5⟩⟩
                · exact absurd rfl c_87
            · rw [nI_ltI (by omega) (by omega)] at c_69
              refine r_k hO d_T_readsPiece_72 ?_
              refine r_zret hO hE (by first | exact Or.inl rfl | exact Or.inr rfl) (Nat.zero_le _) (Nat.zero_le _) d_T_readsPiece_73 ?_
              rw [rd_bad (px_lfo_n c_13 c_5) (fun q => by omega) (fun q => by omega)]
              exact ⟨_, rfl, rfl, Or.inr ⟨rfl, rfl, hB, t1, ⟨u, t7, t6⟩, cd_off.rf _ _⟩⟩
        · rw [nI_leI (by omega) (by omega)] at c_33
          have hadv := px_adv_lt hO2 (by omega)
          have hato := (px_adv_ok hO2).1
          have hatL := hato.1
          refine r_aload hO d_T_readsPiece_36 rfl ?_
          refine r_cV0v hO hE (c_T_advances_r hC h) mf_T_advances lk_T_41 hC.2.2.2.2.2.2.2.2.2.2.2.2.1.1 rfl (by omega) rfl (Nat.le_of_ble_eq_true rfl) d_T_readsPiece_37 (Nat.zero_le _) (Nat.zero_le _) ?_
          rintro I2 ⟨g1, g2⟩
          refine r_aload hO d_T_readsPiece_40 rfl ?_
          refine r_iload hO d_T_readsPiece_41 rfl ?_
          refine r_iload hO d_T_readsPiece_42 rfl ?_
          refine r_k hO d_T_readsPiece_43 ?_
          refine r_iaddN hO d_T_readsPiece_44 ?_
          refine r_cV2i hO hE ((ih n (Nat.le_refl _)).1 op (nt + 1) (px_adv B L t) I2 u v hop (by omega) (by unfold px_need; rw [if_pos (by decide)]; omega) g1 (by omega)) mf_T_readsPiece lk_T_73 hC.2.2.2.2.2.2.2.2.2.2.2.2.1.1 rfl (by omega) rfl (Nat.le_of_ble_eq_true rfl) d_T_readsPiece_45 (Nat.zero_le _) (Nat.zero_le _) ?_
          rintro y I3 hp
          have hrd := rd_ok (B := B) (L := L) (ky := ky) n 5 op (nt + 1) _ hato (Or.inl (by decide))
          generalize ga : px_rdt B L ky n 5 op (nt + 1) (px_adv B L t) = a at hp hrd
          have e0 := rd_not (L := L) (f := n) (op := op) (px_lfo_n (B := B) (ky := ky) c_13 c_5) c_27 (by omega) ga
          rw [e0] at hE
          rcases hp with ⟨e1, rfl, e3, e4⟩ | ⟨e1, rfl, q1, q2, ⟨u', q3, q4⟩, q5⟩
          · have hl1 := (hrd.2 e1).1
            have hl2 := hrd.1.1
            refine r_sI3 hO d_T_readsPiece_48 rfl ?_
            refine r_aload hO d_T_readsPiece_49 rfl ?_
            refine r_k hO d_T_readsPiece_50 ?_
            refine r_cV1v hO hE (c_T_puts_r hC e3 (by omega) (-33)) mf_T_puts lk_T_81 hC.2.2.2.2.2.2.2.2.2.2.2.2.1.1 rfl (by omega) rfl (Nat.le_of_ble_eq_true rfl) d_T_readsPiece_52 (Nat.zero_le _) (Nat.zero_le _) ?_
            rintro I4 ⟨g5, g6, g7⟩
            refine r_iload hO d_T_readsPiece_55 rfl ?_
            refine r_zret hO hE (Or.inr rfl) (Nat.zero_le _) (Nat.zero_le _) d_T_readsPiece_56 ?_
            refine ⟨_, rfl, rfl, Or.inl ⟨e1, rfl, ?_, ?_⟩⟩
            · show px_CT I4 w B L ky a.2.1 (u + (a.2.2 ++ [px_sc 10]).length) (v + px_lv (a.2.2 ++ [px_sc 10]))
              rw [px_lv_app, px_lv_sc (by decide) (by decide), List.length_append]
              exact g5
            · exact ((px_AP.nil g2).tr e4).tr (px_AP.one g7 (by rw [g6]; rfl) px_trn)
          · refine r_sI3 hO d_T_readsPiece_48 rfl ?_
            refine r_aload hO d_T_readsPiece_49 rfl ?_
            refine r_k hO d_T_readsPiece_50 ?_
            refine r_cV1fv hO hE (c_T_puts hC q4 q3 (-33)) mf_T_puts lk_T_81 hC.2.2.2.2.2.2.2.2.2.2.2.2.1.1 rfl (by omega) rfl (Nat.le_of_ble_eq_true rfl) d_T_readsPiece_52 (Nat.zero_le _) (Nat.zero_le _) ?_
            refine r_iload hO d_T_readsPiece_55 rfl ?_
            refine r_zret hO hE (Or.inl rfl) (Nat.zero_le _) (Nat.zero_le _) d_T_readsPiece_56 ?_
            refine ⟨_, rfl, rfl, Or.inr ⟨e1, rfl, ?_⟩⟩
            have hg2 : cd_off I I2 [w.1 + 55, w.1 + 57] := g2.mono (fun b hb => by simp at hb ⊢; omega)
            split
            · refine ⟨?_, ?_, ⟨u' + 1, by omega, by rw [cd_set_eq]; rfl⟩, ((hg2.tr q5).tr (cd_off.set _ _ (by simp))).tr (cd_off.set _ _ (by simp))⟩
              · unfold px_CP
                rw [cd_set_eq, cd_set_ne _ _ (show w.1 + 56 ≠ w.1 + 55 by omega), cd_set_ne _ _ (show w.1 + 56 ≠ w.1 + 57 by omega)]
                exact q1
              · rw [cd_set_eq]; exact q2
            · exact ⟨q1, q2, ⟨u', q3, q4⟩, hg2.tr q5⟩
    · rw [nI_eq (by omega) (by omega)] at c_13
      have hk12 : t.2.1 = 1 ∨ t.2.1 = 2 := by omega
      refine r_aload hO d_T_readsPiece_16 rfl ?_
      refine r_cV0i hO hE (c_T_readsLeaf hC h hk12 hu) mf_T_readsLeaf lk_T_85 hC.2.2.2.2.2.2.2.2.2.2.2.2.1.1 rfl (by omega) rfl (Nat.le_of_ble_eq_true rfl) d_T_readsPiece_17 (Nat.zero_le _) (Nat.zero_le _) ?_
      rintro y I2 hp
      rw [← rd_k12 (f := n) (op := op) (nt := nt) hk12] at hp
      refine r_zret hO hE (px_PO_z hp) (Nat.zero_le _) (Nat.zero_le _) d_T_readsPiece_20 ?_
      exact ⟨_, rfl, rfl, hp⟩
