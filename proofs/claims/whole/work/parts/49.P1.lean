/-! The reading of a text, as pure functions: a byte row B of L bytes; a token (from, kind, next): 0 end, 1 letters, 2 digits, 3 sign, 4 wrong. -/
abbrev px_Tok : Type := Nat × Nat × Nat
def px_rn (P : Nat → Bool) : Nat → Nat → Nat
  | 0, p => p
  | f + 1, p => if P p = true then px_rn P f (p + 1) else p
theorem px_rn_y {P : Nat → Bool} {f p : Nat} (h : P p = true) : px_rn P (f + 1) p = px_rn P f (p + 1) := if_pos h
theorem px_rn_n {P : Nat → Bool} {f p : Nat} (h : ¬ P p = true) : px_rn P f p = p := by
  cases f with
  | zero => rfl
  | succ f => exact if_neg h
theorem px_rn_b (P : Nat → Bool) : ∀ f p, p ≤ px_rn P f p ∧ px_rn P f p ≤ p + f
  | 0, p => ⟨Nat.le_refl _, Nat.le_refl _⟩
  | f + 1, p => by
    by_cases h : P p = true
    · rw [px_rn_y h]
      have := px_rn_b P f (p + 1)
      omega
    · rw [px_rn_n h]
      omega
theorem px_rn_in (P : Nat → Bool) : ∀ f p j, p ≤ j → j < px_rn P f p → P j = true
  | 0, p, j, h1, h2 => by
    have : px_rn P 0 p = p := rfl
    omega
  | f + 1, p, j, h1, h2 => by
    by_cases h : P p = true
    · rw [px_rn_y h] at h2
      by_cases e : j = p
      · rw [e]; exact h
      · exact px_rn_in P f (p + 1) j (by omega) h2
    · rw [px_rn_n h] at h2
      omega
abbrev px_ltr (B : Nat → Nat) (L k : Nat) : Prop := k < L ∧ 97 ≤ B k ∧ B k ≤ 122
abbrev px_fig (B : Nat → Nat) (L k : Nat) : Prop := k < L ∧ 48 ≤ B k ∧ B k ≤ 57
def px_sk (B : Nat → Nat) (L p : Nat) : Nat := px_rn (fun j => decide (B j = 32)) (L - p) p
def px_lr (B : Nat → Nat) (L p : Nat) : Nat := px_rn (fun j => decide (px_ltr B L j)) (L - p) p
def px_fr (B : Nat → Nat) (L p : Nat) : Nat := px_rn (fun j => decide (px_fig B L j)) (L - p) p
/-- the token from p on; bw: a word ends at p -/
def px_tk (B : Nat → Nat) (L : Nat) (bw : Prop) [Decidable bw] (p : Nat) : px_Tok :=
  if px_sk B L p = L then (px_sk B L p, 0, px_sk B L p)
  else if px_ltr B L (px_sk B L p) then (px_sk B L p, if bw ∧ px_sk B L p = p then 4 else 1, px_lr B L (px_sk B L p))
  else if px_fig B L (px_sk B L p) then (px_sk B L p, if (bw ∧ px_sk B L p = p) ∨ 4 < px_fr B L (px_sk B L p) - px_sk B L p then 4 else 2, px_fr B L (px_sk B L p))
  else (px_sk B L p, 3, px_sk B L p + 1)
def px_adv (B : Nat → Nat) (L : Nat) (t : px_Tok) : px_Tok := px_tk B L (t.2.1 = 1 ∨ t.2.1 = 2) t.2.2
/-- what is known of a token -/
def px_TO (B : Nat → Nat) (L : Nat) (t : px_Tok) : Prop := t.1 ≤ L ∧ t.2.2 ≤ L ∧ (t.2.1 ≠ 0 → t.1 < t.2.2) ∧ (t.2.1 = 0 → t.1 = L) ∧ t.2.1 ≤ 4 ∧ (t.2.1 = 1 → 97 ≤ B t.1 ∧ B t.1 ≤ 122) ∧ (t.2.1 = 2 → t.2.2 ≤ t.1 + 4 ∧ ∀ j, t.1 ≤ j → j < t.2.2 → 48 ≤ B j ∧ B j ≤ 57)
theorem px_sk_b (B : Nat → Nat) {L p : Nat} (h : p ≤ L) : p ≤ px_sk B L p ∧ px_sk B L p ≤ L := by
  have := px_rn_b (fun j => decide (B j = 32)) (L - p) p
  unfold px_sk
  omega
theorem px_lr_b (B : Nat → Nat) {L p : Nat} (h : px_ltr B L p) : p < px_lr B L p ∧ px_lr B L p ≤ L := by
  have h1 := h.1
  have := px_rn_b (fun j => decide (px_ltr B L j)) (L - p - 1) (p + 1)
  unfold px_lr
  rw [show L - p = L - p - 1 + 1 by omega, px_rn_y (decide_eq_true h)]
  omega
theorem px_fr_b (B : Nat → Nat) {L p : Nat} (h : px_fig B L p) : p < px_fr B L p ∧ px_fr B L p ≤ L := by
  have h1 := h.1
  have := px_rn_b (fun j => decide (px_fig B L j)) (L - p - 1) (p + 1)
  unfold px_fr
  rw [show L - p = L - p - 1 + 1 by omega, px_rn_y (decide_eq_true h)]
  omega
theorem px_fr_in (B : Nat → Nat) {L p j : Nat} (h1 : p ≤ j) (h2 : j < px_fr B L p) : 48 ≤ B j ∧ B j ≤ 57 := (of_decide_eq_true (px_rn_in _ _ _ _ h1 h2)).2
theorem px_tk_ok (B : Nat → Nat) {L : Nat} (bw : Prop) [Decidable bw] {p : Nat} (h : p ≤ L) : px_TO B L (px_tk B L bw p) ∧ p ≤ (px_tk B L bw p).1 := by
  have hs := px_sk_b B h
  unfold px_tk
  by_cases h0 : px_sk B L p = L
  · rw [if_pos h0]
    exact ⟨⟨hs.2, hs.2, fun q => absurd rfl q, fun _ => h0, (show 0 ≤ 4 by decide), fun q => absurd (show 0 = 1 from q) (by decide), fun q => absurd (show 0 = 2 from q) (by decide)⟩, hs.1⟩
  · rw [if_neg h0]
    by_cases h1 : px_ltr B L (px_sk B L p)
    · rw [if_pos h1]
      have hl := px_lr_b B h1
      refine ⟨⟨hs.2, hl.2, fun _ => hl.1, fun q => ?_, ?_, fun _ => h1.2, fun q => ?_⟩, hs.1⟩
      · exfalso; revert q; show (if _ then 4 else 1) = 0 → False; split <;> simp
      · show (if _ then 4 else 1) ≤ 4; split <;> simp
      · exfalso; revert q; show (if _ then 4 else 1) = 2 → False; split <;> simp
    · rw [if_neg h1]
      by_cases h2 : px_fig B L (px_sk B L p)
      · rw [if_pos h2]
        have hl := px_fr_b B h2
        refine ⟨⟨hs.2, hl.2, fun _ => hl.1, fun q => ?_, ?_, fun q => ?_, fun q => ?_⟩, hs.1⟩
        · exfalso; revert q; show (if _ then 4 else 2) = 0 → False; split <;> simp
        · show (if _ then 4 else 2) ≤ 4; split <;> simp
        · exfalso; revert q; show (if _ then 4 else 2) = 1 → False; split <;> simp
        · refine ⟨?_, fun j h1 h2 => px_fr_in B h1 h2⟩
          show px_fr B L (px_sk B L p) ≤ px_sk B L p + 4
          by_cases h3 : (bw ∧ px_sk B L p = p) ∨ 4 < px_fr B L (px_sk B L p) - px_sk B L p
          · exfalso; revert q; show (if _ then 4 else 2) = 2 → False; rw [if_pos h3]; simp
          · omega
      · rw [if_neg h2]
        exact ⟨⟨hs.2, by show px_sk B L p + 1 ≤ L; omega, fun _ => Nat.lt_succ_self _, fun q => absurd (show 3 = 0 from q) (by decide), (show 3 ≤ 4 by decide), fun q => absurd (show 3 = 1 from q) (by decide), fun q => absurd (show 3 = 2 from q) (by decide)⟩, hs.1⟩
theorem px_adv_ok {B : Nat → Nat} {L : Nat} {t : px_Tok} (h : px_TO B L t) : px_TO B L (px_adv B L t) ∧ t.2.2 ≤ (px_adv B L t).1 := px_tk_ok B _ h.2.1
theorem px_adv_lt {B : Nat → Nat} {L : Nat} {t : px_Tok} (h : px_TO B L t) (h0 : t.2.1 ≠ 0) : t.1 < (px_adv B L t).1 := Nat.lt_of_lt_of_le (h.2.2.1 h0) (px_adv_ok h).2
/-- the number of some digits -/
def px_nm (B : Nat → Nat) (s : Nat) : Nat → Nat
  | 0 => 0
  | k + 1 => 10 * px_nm B s k + (B (s + k) - 48)
theorem px_nm_b {B : Nat → Nat} {s : Nat} : ∀ k, (∀ j, s ≤ j → j < s + k → 48 ≤ B j ∧ B j ≤ 57) → px_nm B s k < 10 ^ k
  | 0, _ => (show 0 < 10 ^ 0 by decide)
  | k + 1, h => by
    have ih := px_nm_b k (fun j h1 h2 => h j h1 (by omega))
    have hk := h (s + k) (by omega) (by omega)
    show 10 * px_nm B s k + (B (s + k) - 48) < 10 ^ (k + 1)
    rw [Nat.pow_succ]
    omega
def px_sgn (b : Nat) : Nat := if b = 38 then 2 else if b = 42 then 8 else if b = 43 then 6 else if b = 45 then 7 else if b = 47 then 9 else if b = 60 then 3 else if b = 61 then 4 else if b = 62 then 5 else if b = 124 then 1 else 0
def px_rk (n : Nat) : Nat := if n = 1 then 1 else if n = 2 then 2 else if n ≤ 5 then 3 else if n ≤ 7 then 4 else if n ≤ 9 then 5 else 6
def px_ssg (B : Nat → Nat) (t : px_Tok) : Nat := if t.2.1 = 3 then px_sgn (B t.1) else 0
abbrev px_isC (B : Nat → Nat) (t : px_Tok) (b : Nat) : Prop := t.2.1 = 3 ∧ B t.1 = b
theorem px_sgn_b (b : Nat) : px_sgn b ≤ 9 := by
  unfold px_sgn
  repeat' split
  all_goals decide
theorem px_ssg_b (B : Nat → Nat) (t : px_Tok) : px_ssg B t ≤ 9 := by
  unfold px_ssg
  split
  · exact px_sgn_b _
  · decide
theorem px_rk_b {n : Nat} (h : n ≤ 9) : px_rk n ≤ 5 := by
  unfold px_rk
  repeat' split
  all_goals omega
theorem px_rk_p (n : Nat) : 1 ≤ px_rk n := by
  unfold px_rk
  repeat' split
  all_goals omega
/-- the place of a name among those of a key; 9: none -/
def px_npl (ky b : Nat) : Nat := if ky = 0 then (if b = 104 then 0 else if b = 109 then 1 else if b = 119 then 2 else 9) else if ky = 1 then (if b = 114 then 0 else if b = 112 then 1 else 9) else (if b = 104 then 0 else if b = 119 then 1 else 9)
theorem px_npl_b {ky b : Nat} (h : px_npl ky b < 9) : px_npl ky b < cd_nb ky := by
  revert h
  unfold px_npl cd_nb
  repeat' split
  all_goals omega
def px_lfo (B : Nat → Nat) (ky : Nat) (t : px_Tok) : Option Int32 := if t.2.1 = 2 then some (nI (px_nm B t.1 (t.2.2 - t.1))) else if t.2.1 = 1 ∧ t.2.2 - t.1 = 1 ∧ px_npl ky (B t.1) < 9 then some (nI (10000 + px_npl ky (B t.1))) else none
def px_sc (n : Nat) : Int32 := -(nI n)
/-- the grammar: levels 0 to 5 (5: a piece), 10 and on: what goes on behind the first of a level -/
def px_rdt (B : Nat → Nat) (L ky : Nat) : Nat → Nat → Nat → Nat → px_Tok → Bool × px_Tok × List Int32
  | 0, _, _, _, t => (false, t, [])
  | f + 1, lev, op, nt, t =>
    if lev = 5 then
      (if (px_lfo B ky t).isSome then (true, px_adv B L t, [(px_lfo B ky t).getD 0])
      else if px_isC B t 33 ∧ nt < 8 then ((px_rdt B L ky f 5 op (nt + 1) (px_adv B L t)).1, (px_rdt B L ky f 5 op (nt + 1) (px_adv B L t)).2.1, (px_rdt B L ky f 5 op (nt + 1) (px_adv B L t)).2.2 ++ [px_sc 10])
      else if px_isC B t 40 ∧ op < 8 then
        (if (px_rdt B L ky f 0 (op + 1) nt (px_adv B L t)).1 = true ∧ px_isC B (px_rdt B L ky f 0 (op + 1) nt (px_adv B L t)).2.1 41 then (true, px_adv B L (px_rdt B L ky f 0 (op + 1) nt (px_adv B L t)).2.1, (px_rdt B L ky f 0 (op + 1) nt (px_adv B L t)).2.2)
        else (false, (px_rdt B L ky f 0 (op + 1) nt (px_adv B L t)).2.1, []))
      else (false, t, []))
    else if lev < 5 then
      (if (px_rdt B L ky f (lev + 1) op nt t).1 = true then ((px_rdt B L ky f (lev + 10) op nt (px_rdt B L ky f (lev + 1) op nt t).2.1).1, (px_rdt B L ky f (lev + 10) op nt (px_rdt B L ky f (lev + 1) op nt t).2.1).2.1, (px_rdt B L ky f (lev + 1) op nt t).2.2 ++ (px_rdt B L ky f (lev + 10) op nt (px_rdt B L ky f (lev + 1) op nt t).2.1).2.2)
      else (false, (px_rdt B L ky f (lev + 1) op nt t).2.1, []))
    else
      (if 0 < px_ssg B t ∧ px_rk (px_ssg B t) = lev - 9 then
        (if (px_rdt B L ky f (lev - 9) op nt (px_adv B L t)).1 = true then
          (if lev = 12 then (true, (px_rdt B L ky f (lev - 9) op nt (px_adv B L t)).2.1, (px_rdt B L ky f (lev - 9) op nt (px_adv B L t)).2.2 ++ [px_sc (px_ssg B t)])
          else ((px_rdt B L ky f lev op nt (px_rdt B L ky f (lev - 9) op nt (px_adv B L t)).2.1).1, (px_rdt B L ky f lev op nt (px_rdt B L ky f (lev - 9) op nt (px_adv B L t)).2.1).2.1, (px_rdt B L ky f (lev - 9) op nt (px_adv B L t)).2.2 ++ px_sc (px_ssg B t) :: (px_rdt B L ky f lev op nt (px_rdt B L ky f (lev - 9) op nt (px_adv B L t)).2.1).2.2))
        else (false, (px_rdt B L ky f (lev - 9) op nt (px_adv B L t)).2.1, []))
      else (true, t, []))
section CDR
variable {B : Nat → Nat} {L ky f lev op nt : Nat} {t : px_Tok}
theorem rd_leaf {c : Int32} (h : px_lfo B ky t = some c) : px_rdt B L ky (f + 1) 5 op nt t = (true, px_adv B L t, [c]) := by
  simp only [px_rdt, h, if_true, Option.isSome_some, Option.getD_some]
theorem rd_not {a : Bool × px_Tok × List Int32} (h : px_lfo B ky t = none) (h1 : px_isC B t 33) (h2 : nt < 8) (ha : px_rdt B L ky f 5 op (nt + 1) (px_adv B L t) = a) : px_rdt B L ky (f + 1) 5 op nt t = (a.1, a.2.1, a.2.2 ++ [px_sc 10]) := by
  rw [px_rdt, if_pos rfl, if_neg (by rw [h]; simp), if_pos ⟨h1, h2⟩, ha]
theorem rd_openY {a : Bool × px_Tok × List Int32} (h : px_lfo B ky t = none) (h1 : px_isC B t 40) (h2 : op < 8) (ha : px_rdt B L ky f 0 (op + 1) nt (px_adv B L t) = a) (h3 : a.1 = true) (h4 : px_isC B a.2.1 41) : px_rdt B L ky (f + 1) 5 op nt t = (true, px_adv B L a.2.1, a.2.2) := by
  rw [px_rdt, if_pos rfl, if_neg (by rw [h]; simp), if_neg (fun q => by have e := q.1.2; rw [h1.2] at e; exact absurd e (by decide)), if_pos ⟨h1, h2⟩, ha, if_pos ⟨h3, h4⟩]
theorem rd_openN {a : Bool × px_Tok × List Int32} (h : px_lfo B ky t = none) (h1 : px_isC B t 40) (h2 : op < 8) (ha : px_rdt B L ky f 0 (op + 1) nt (px_adv B L t) = a) (h3 : ¬ (a.1 = true ∧ px_isC B a.2.1 41)) : px_rdt B L ky (f + 1) 5 op nt t = (false, a.2.1, []) := by
  rw [px_rdt, if_pos rfl, if_neg (by rw [h]; simp), if_neg (fun q => by have e := q.1.2; rw [h1.2] at e; exact absurd e (by decide)), if_pos ⟨h1, h2⟩, ha, if_neg h3]
theorem rd_bad (h : px_lfo B ky t = none) (h1 : ¬ (px_isC B t 33 ∧ nt < 8)) (h2 : ¬ (px_isC B t 40 ∧ op < 8)) : px_rdt B L ky (f + 1) 5 op nt t = (false, t, []) := by
  rw [px_rdt, if_pos rfl, if_neg (by rw [h]; simp), if_neg h1, if_neg h2]
theorem rd_levY {a b : Bool × px_Tok × List Int32} (hl : lev < 5) (ha : px_rdt B L ky f (lev + 1) op nt t = a) (h : a.1 = true) (hb : px_rdt B L ky f (lev + 10) op nt a.2.1 = b) : px_rdt B L ky (f + 1) lev op nt t = (b.1, b.2.1, a.2.2 ++ b.2.2) := by
  rw [px_rdt, if_neg (by omega), if_pos hl, ha, if_pos h, hb]
theorem rd_levN {a : Bool × px_Tok × List Int32} (hl : lev < 5) (ha : px_rdt B L ky f (lev + 1) op nt t = a) (h : ¬ a.1 = true) : px_rdt B L ky (f + 1) lev op nt t = (false, a.2.1, []) := by
  rw [px_rdt, if_neg (by omega), if_pos hl, ha, if_neg h]
theorem rd_loopE (hl : 10 ≤ lev) (h : ¬ (0 < px_ssg B t ∧ px_rk (px_ssg B t) = lev - 9)) : px_rdt B L ky (f + 1) lev op nt t = (true, t, []) := by
  rw [px_rdt, if_neg (by omega), if_neg (by omega), if_neg h]
theorem rd_loopN {a : Bool × px_Tok × List Int32} (hl : 10 ≤ lev) (h : 0 < px_ssg B t ∧ px_rk (px_ssg B t) = lev - 9) (ha : px_rdt B L ky f (lev - 9) op nt (px_adv B L t) = a) (h1 : ¬ a.1 = true) : px_rdt B L ky (f + 1) lev op nt t = (false, a.2.1, []) := by
  rw [px_rdt, if_neg (by omega), if_neg (by omega), if_pos h, ha, if_neg h1]
theorem rd_loop2 {a : Bool × px_Tok × List Int32} (hl : lev = 12) (h : 0 < px_ssg B t ∧ px_rk (px_ssg B t) = lev - 9) (ha : px_rdt B L ky f (lev - 9) op nt (px_adv B L t) = a) (h1 : a.1 = true) : px_rdt B L ky (f + 1) lev op nt t = (true, a.2.1, a.2.2 ++ [px_sc (px_ssg B t)]) := by
  rw [px_rdt, if_neg (by omega), if_neg (by omega), if_pos h, ha, if_pos h1, if_pos hl]
theorem rd_loopY {a b : Bool × px_Tok × List Int32} (hl : 10 ≤ lev) (hl2 : lev ≠ 12) (h : 0 < px_ssg B t ∧ px_rk (px_ssg B t) = lev - 9) (ha : px_rdt B L ky f (lev - 9) op nt (px_adv B L t) = a) (h1 : a.1 = true) (hb : px_rdt B L ky f lev op nt a.2.1 = b) : px_rdt B L ky (f + 1) lev op nt t = (b.1, b.2.1, a.2.2 ++ px_sc (px_ssg B t) :: b.2.2) := by
  rw [px_rdt, if_neg (by omega), if_neg (by omega), if_pos h, ha, if_pos h1, if_neg hl2, hb]
end CDR
/-- the depth behind some codes -/
def px_rp (nb : Nat) : List Int32 → Nat → Option Nat
  | [], d => some d
  | x :: l, d => if x < 0 then (if x = (-10) then (if 1 ≤ d then px_rp nb l d else none) else if (-10) ≤ x ∧ 2 ≤ d then px_rp nb l (d - 1) else none) else if ¬ nI 10000 ≤ x ∨ ∃ j, j < nb ∧ x = nI (10000 + j) then px_rp nb l (d + 1) else none
theorem px_rp_app (nb : Nat) (b : List Int32) : ∀ (a : List Int32) (d : Nat), px_rp nb (a ++ b) d = (px_rp nb a d).bind (px_rp nb b)
  | [], d => rfl
  | x :: l, d => by
    simp only [List.cons_append, px_rp]
    repeat' split
    all_goals first | exact px_rp_app nb b l _ | rfl
theorem px_rp_ap {nb : Nat} {a b : List Int32} {d d1 : Nat} (h : px_rp nb a d = some d1) : px_rp nb (a ++ b) d = px_rp nb b d1 := by rw [px_rp_app, h]; rfl
theorem px_sc_c {n : Nat} (h1 : 1 ≤ n) (h9 : n ≤ 9) : px_sc n < 0 ∧ ¬ px_sc n = (-10) ∧ (-10) ≤ px_sc n := by
  rcases (show n = 1 ∨ n = 2 ∨ n = 3 ∨ n = 4 ∨ n = 5 ∨ n = 6 ∨ n = 7 ∨ n = 8 ∨ n = 9 by omega) with rfl | rfl | rfl | rfl | rfl | rfl | rfl | rfl | rfl <;> decide
theorem px_rp_s {nb n d : Nat} {l : List Int32} (h1 : 1 ≤ n) (h9 : n ≤ 9) : px_rp nb (px_sc n :: l) (d + 1 + 1) = px_rp nb l (d + 1) := by
  obtain ⟨a, b, c⟩ := px_sc_c h1 h9
  simp only [px_rp]
  rw [if_pos a, if_neg b, if_pos ⟨c, by omega⟩]
  rfl
theorem px_rp_n {nb d : Nat} {l : List Int32} : px_rp nb (px_sc 10 :: l) (d + 1) = px_rp nb l (d + 1) := by
  simp only [px_rp]
  rw [if_pos (by decide), if_pos (by decide), if_pos (by omega)]
theorem px_lfo_k {B : Nat → Nat} {L ky : Nat} {t : px_Tok} (h : px_TO B L t) {c : Int32} (hc : px_lfo B ky t = some c) : t.2.1 ≠ 0 ∧ ¬ c < 0 ∧ (¬ nI 10000 ≤ c ∨ ∃ j, j < cd_nb ky ∧ c = nI (10000 + j)) := by
  unfold px_lfo at hc
  by_cases h2 : t.2.1 = 2
  · rw [if_pos h2] at hc
    cases hc
    obtain ⟨a1, a2⟩ := h.2.2.2.2.2.2 h2
    have hb := px_nm_b (t.2.2 - t.1) (fun j h1 h2 => a2 j h1 (by omega))
    have hp : (10 : Nat) ^ (t.2.2 - t.1) ≤ 10 ^ 4 := Nat.pow_le_pow_right (by decide) (by omega)
    have h4 : (10 : Nat) ^ 4 = 10000 := by decide
    refine ⟨by rw [h2]; decide, nI_pos (by omega), Or.inl (nI_ge (by omega) (by decide))⟩
  · rw [if_neg h2] at hc
    by_cases h1 : t.2.1 = 1 ∧ t.2.2 - t.1 = 1 ∧ px_npl ky (B t.1) < 9
    · rw [if_pos h1] at hc
      cases hc
      exact ⟨by rw [h1.1]; decide, nI_pos (by omega), Or.inr ⟨_, px_npl_b h1.2.2, rfl⟩⟩
    · rw [if_neg h1] at hc
      cases hc
theorem px_rp_l {nb d : Nat} {c : Int32} {l : List Int32} (h : ¬ c < 0) (h1 : ¬ nI 10000 ≤ c ∨ ∃ j, j < nb ∧ c = nI (10000 + j)) : px_rp nb (c :: l) d = px_rp nb l (d + 1) := by
  simp only [px_rp]
  rw [if_neg h, if_pos h1]
theorem px_ssg_k {B : Nat → Nat} {t : px_Tok} (h : 0 < px_ssg B t) : t.2.1 = 3 := by
  unfold px_ssg at h
  split at h
  · assumption
  · omega
/-- what a reading gives -/
theorem rd_ok {B : Nat → Nat} {L ky : Nat} : ∀ (f lev op nt : Nat) (t : px_Tok), px_TO B L t → lev ≤ 5 ∨ 10 ≤ lev → px_TO B L (px_rdt B L ky f lev op nt t).2.1 ∧ ((px_rdt B L ky f lev op nt t).1 = true → t.1 + (px_rdt B L ky f lev op nt t).2.2.length ≤ (px_rdt B L ky f lev op nt t).2.1.1 ∧ (lev ≤ 5 → t.1 < (px_rdt B L ky f lev op nt t).2.1.1 ∧ ∀ d, px_rp (cd_nb ky) (px_rdt B L ky f lev op nt t).2.2 d = some (d + 1)) ∧ (10 ≤ lev → ∀ d, px_rp (cd_nb ky) (px_rdt B L ky f lev op nt t).2.2 (d + 1) = some (d + 1)))
  | 0, _, _, _, t, h, _ => ⟨h, fun q => by cases q⟩
  | f + 1, lev, op, nt, t, h, hlev => by
    have ih := rd_ok (B := B) (L := L) (ky := ky) f
    by_cases h5 : lev = 5
    · subst h5
      cases hc : px_lfo B ky t with
      | some c =>
        rw [rd_leaf hc]
        dsimp only
        obtain ⟨k1, k2, k3⟩ := px_lfo_k h hc
        have hl := px_adv_lt h k1
        exact ⟨(px_adv_ok h).1, fun _ => ⟨hl, fun _ => ⟨hl, fun d => by rw [px_rp_l k2 k3]; rfl⟩, fun q => absurd q (by decide)⟩⟩
      | none =>
        by_cases h1 : px_isC B t 33 ∧ nt < 8
        · have hl := px_adv_lt h (by rw [h1.1.1]; decide)
          obtain ⟨i1, i2⟩ := ih 5 op (nt + 1) _ (px_adv_ok h).1 (Or.inl (by decide))
          rw [rd_not hc h1.1 h1.2 rfl]
          dsimp only
          refine ⟨i1, fun q => ?_⟩
          obtain ⟨j1, j2, -⟩ := i2 q
          obtain ⟨j3, j4⟩ := j2 (by decide)
          refine ⟨?_, fun _ => ⟨by omega, fun d => ?_⟩, fun q => absurd q (by decide)⟩
          · simp only [List.length_append, List.length_cons, List.length_nil]
            omega
          · rw [px_rp_ap (j4 d), px_rp_n]
            rfl
        · by_cases h2 : px_isC B t 40 ∧ op < 8
          · have hl := px_adv_lt h (by rw [h2.1.1]; decide)
            obtain ⟨i1, i2⟩ := ih 0 (op + 1) nt _ (px_adv_ok h).1 (Or.inl (by decide))
            by_cases h3 : (px_rdt B L ky f 0 (op + 1) nt (px_adv B L t)).1 = true ∧ px_isC B (px_rdt B L ky f 0 (op + 1) nt (px_adv B L t)).2.1 41
            · rw [rd_openY hc h2.1 h2.2 rfl h3.1 h3.2]
              dsimp only
              obtain ⟨j1, j2, -⟩ := i2 h3.1
              obtain ⟨j3, j4⟩ := j2 (by decide)
              have hl2 := px_adv_lt i1 (by rw [h3.2.1]; decide)
              exact ⟨(px_adv_ok i1).1, fun _ => ⟨by omega, fun _ => ⟨by omega, j4⟩, fun q => absurd q (by decide)⟩⟩
            · rw [rd_openN hc h2.1 h2.2 rfl h3]
              exact ⟨i1, fun q => by cases q⟩
          · rw [rd_bad hc h1 h2]
            exact ⟨h, fun q => by cases q⟩
    · by_cases hl5 : lev < 5
      · obtain ⟨i1, i2⟩ := ih (lev + 1) op nt t h (Or.inl (by omega))
        by_cases ha : (px_rdt B L ky f (lev + 1) op nt t).1 = true
        · rw [rd_levY hl5 rfl ha rfl]
          dsimp only
          obtain ⟨i3, i4⟩ := ih (lev + 10) op nt _ i1 (Or.inr (by omega))
          obtain ⟨j1, j2, -⟩ := i2 ha
          obtain ⟨j3, j4⟩ := j2 (by omega)
          refine ⟨i3, fun q => ?_⟩
          obtain ⟨j5, -, j6⟩ := i4 q
          refine ⟨?_, fun _ => ⟨by omega, fun d => ?_⟩, fun q => absurd q (by omega)⟩
          · simp only [List.length_append, List.length_cons, List.length_nil]
            omega
          · rw [px_rp_ap (j4 d)]
            exact j6 (by omega) d
        · rw [rd_levN hl5 rfl ha]
          exact ⟨i1, fun q => by cases q⟩
      · have hl10 : 10 ≤ lev := by omega
        by_cases hs : 0 < px_ssg B t ∧ px_rk (px_ssg B t) = lev - 9
        · have hsb := px_ssg_b B t
          have hrb := px_rk_b hsb
          have hl := px_adv_lt h (by rw [px_ssg_k hs.1]; decide)
          obtain ⟨i1, i2⟩ := ih (lev - 9) op nt _ (px_adv_ok h).1 (Or.inl (by omega))
          by_cases ha : (px_rdt B L ky f (lev - 9) op nt (px_adv B L t)).1 = true
          · obtain ⟨j1, j2, -⟩ := i2 ha
            obtain ⟨j3, j4⟩ := j2 (by omega)
            by_cases h12 : lev = 12
            · rw [rd_loop2 h12 hs rfl ha]
              dsimp only
              refine ⟨i1, fun _ => ⟨?_, fun q => absurd q (by omega), fun _ d => ?_⟩⟩
              · simp only [List.length_append, List.length_cons, List.length_nil]
                omega
              · rw [px_rp_ap (j4 _), px_rp_s hs.1 hsb]
                rfl
            · rw [rd_loopY hl10 h12 hs rfl ha rfl]
              dsimp only
              obtain ⟨i3, i4⟩ := ih lev op nt _ i1 (Or.inr hl10)
              refine ⟨i3, fun q => ?_⟩
              obtain ⟨j5, -, j6⟩ := i4 q
              refine ⟨?_, fun q => absurd q (by omega), fun _ d => ?_⟩
              · simp only [List.length_append, List.length_cons, List.length_nil]
                omega
              · rw [px_rp_ap (j4 _), px_rp_s hs.1 hsb]
                exact j6 hl10 d
          · rw [rd_loopN hl10 hs rfl ha]
            exact ⟨i1, fun q => by cases q⟩
        · rw [rd_loopE hl10 hs]
          exact ⟨h, fun _ => ⟨Nat.le_refl _, fun q => absurd q (by omega), fun _ d => rfl⟩⟩
