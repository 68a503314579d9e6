/-! The program logic of this claim: the memory as ints by cell and place, shapes and references by cell; the machine's judgement W over it. -/
abbrev cd_XT : Type := Program × Launch × Env × Room × State × MethodId × Array Value × List Frame × Method × Code × (State → Prop)
/-- base address, heap below it, class numbers and slots, array classes, static arrays, String constants and their byte arrays -/
abbrev cd_WT : Type := Nat × Heap × va_G × (Nat → ClassId) × (Nat → Nat) × (Nat → Nat) × (Nat → Nat)
/-- number of cells from the base on, shapes, references -/
abbrev cd_Sp : Type := Nat × (Nat → Nat × Nat) × (Nat → Nat → Option Nat)
abbrev cd_Mem : Type := Nat → Nat → Int32
abbrev cd_Pt : Type := Option Value → cd_Sp → cd_Mem → Prop
/-- the words that a call hands on -/
def cd_ws : List Cond := lw_tbl.filter goodWord
/-- classes -/
def cd_R0 : String := "CatDoors$Asking"
def cd_R1 : String := "CatDoors$House"
def cd_R2 : String := "CatDoors$Sheet"
def cd_R3 : String := "CatDoors$Slot"
def cd_R4 : String := "CatDoors$Tape"
def cd_R5 : String := "CatDoors$Text"
def cd_R6 : String := "CatDoors"
def cd_R7 : String := "CatDoorsModel"
def cd_T0 : u_T := fun k => match k with
  | 0 => ("CatDoors$Asking", "kind", "I", false)
  | 1 => ("CatDoors$Asking", "hour", "I", false)
  | 2 => ("CatDoors$Asking", "habit", "I", false)
  | 3 => ("CatDoors$Asking", "means", "I", false)
  | _ => ("CatDoors$Asking", "worked", "I", false)
def cd_t0 : Nat → FieldType := fun k => match k with
  | 0 => .int
  | 1 => .int
  | 2 => .int
  | 3 => .int
  | _ => .int
theorem cd_nm0 : ∀ a, a < 5 → ∀ b, b < 5 → a ≠ b → (cd_T0 a).2.1 ≠ (cd_T0 b).2.1 := by decide +kernel
theorem cd_ty0 : ∀ k, k < 5 → parseFieldDescriptor (cd_T0 k).2.2.1 = some (cd_t0 k) := by decide +kernel
theorem cd_in0 : ∀ q ∈ u_ws cd_R0 cd_T0 5, q ∈ cd_ws := by decide +kernel
def cd_T1 : u_T := fun k => match k with
  | 0 => ("CatDoors$House", "rules", "[I", true)
  | 1 => ("CatDoors$House", "tallies", "[I", true)
  | 2 => ("CatDoors$House", "askings", "[LCatDoors$Asking;", true)
  | 3 => ("CatDoors$House", "many", "I", false)
  | 4 => ("CatDoors$House", "hour", "I", false)
  | 5 => ("CatDoors$House", "z", "I", false)
  | 6 => ("CatDoors$House", "texts", "[LCatDoors$Text;", true)
  | 7 => ("CatDoors$House", "textCount", "I", false)
  | _ => ("CatDoors$House", "counting", "[I", true)
def cd_t1 : Nat → FieldType := fun k => match k with
  | 0 => .array .int
  | 1 => .array .int
  | 2 => .array (.object "CatDoors$Asking")
  | 3 => .int
  | 4 => .int
  | 5 => .int
  | 6 => .array (.object "CatDoors$Text")
  | 7 => .int
  | _ => .array .int
theorem cd_nm1 : ∀ a, a < 9 → ∀ b, b < 9 → a ≠ b → (cd_T1 a).2.1 ≠ (cd_T1 b).2.1 := by decide +kernel
theorem cd_ty1 : ∀ k, k < 9 → parseFieldDescriptor (cd_T1 k).2.2.1 = some (cd_t1 k) := by decide +kernel
theorem cd_in1 : ∀ q ∈ u_ws cd_R1 cd_T1 9, q ∈ cd_ws := by decide +kernel
def cd_T2 : u_T := fun k => match k with
  | 0 => ("CatDoors$Sheet", "sort", "I", false)
  | 1 => ("CatDoors$Sheet", "size", "I", false)
  | _ => ("CatDoors$Sheet", "places", "[I", true)
def cd_t2 : Nat → FieldType := fun k => match k with
  | 0 => .int
  | 1 => .int
  | _ => .array .int
theorem cd_nm2 : ∀ a, a < 3 → ∀ b, b < 3 → a ≠ b → (cd_T2 a).2.1 ≠ (cd_T2 b).2.1 := by decide +kernel
theorem cd_ty2 : ∀ k, k < 3 → parseFieldDescriptor (cd_T2 k).2.2.1 = some (cd_t2 k) := by decide +kernel
theorem cd_in2 : ∀ q ∈ u_ws cd_R2 cd_T2 3, q ∈ cd_ws := by decide +kernel
def cd_T3 : u_T := fun k => match k with
  | 0 => ("CatDoors$Slot", "thing", "I", false)
  | 1 => ("CatDoors$Slot", "number", "I", false)
  | 2 => ("CatDoors$Slot", "asking", "LCatDoors$Asking;", true)
  | _ => ("CatDoors$Slot", "sheet", "LCatDoors$Sheet;", true)
def cd_t3 : Nat → FieldType := fun k => match k with
  | 0 => .int
  | 1 => .int
  | 2 => .object "CatDoors$Asking"
  | _ => .object "CatDoors$Sheet"
theorem cd_nm3 : ∀ a, a < 4 → ∀ b, b < 4 → a ≠ b → (cd_T3 a).2.1 ≠ (cd_T3 b).2.1 := by decide +kernel
theorem cd_ty3 : ∀ k, k < 4 → parseFieldDescriptor (cd_T3 k).2.2.1 = some (cd_t3 k) := by decide +kernel
theorem cd_in3 : ∀ q ∈ u_ws cd_R3 cd_T3 4, q ∈ cd_ws := by decide +kernel
def cd_T4 : u_T := fun k => match k with
  | 0 => ("CatDoors$Tape", "length", "I", false)
  | 1 => ("CatDoors$Tape", "start", "I", false)
  | 2 => ("CatDoors$Tape", "end", "I", false)
  | 3 => ("CatDoors$Tape", "sort", "I", false)
  | 4 => ("CatDoors$Tape", "key", "I", false)
  | 5 => ("CatDoors$Tape", "leaves", "I", false)
  | 6 => ("CatDoors$Tape", "used", "I", false)
  | 7 => ("CatDoors$Tape", "bytes", "[B", true)
  | _ => ("CatDoors$Tape", "codes", "[I", true)
def cd_t4 : Nat → FieldType := fun k => match k with
  | 0 => .int
  | 1 => .int
  | 2 => .int
  | 3 => .int
  | 4 => .int
  | 5 => .int
  | 6 => .int
  | 7 => .array .byte
  | _ => .array .int
theorem cd_nm4 : ∀ a, a < 9 → ∀ b, b < 9 → a ≠ b → (cd_T4 a).2.1 ≠ (cd_T4 b).2.1 := by decide +kernel
theorem cd_ty4 : ∀ k, k < 9 → parseFieldDescriptor (cd_T4 k).2.2.1 = some (cd_t4 k) := by decide +kernel
theorem cd_in4 : ∀ q ∈ u_ws cd_R4 cd_T4 9, q ∈ cd_ws := by decide +kernel
def cd_T5 : u_T := fun k => match k with
  | 0 => ("CatDoors$Text", "key", "I", true)
  | 1 => ("CatDoors$Text", "leaves", "I", true)
  | 2 => ("CatDoors$Text", "codes", "[I", true)
  | _ => ("CatDoors$Text", "stack", "[I", true)
def cd_t5 : Nat → FieldType := fun k => match k with
  | 0 => .int
  | 1 => .int
  | 2 => .array .int
  | _ => .array .int
theorem cd_nm5 : ∀ a, a < 4 → ∀ b, b < 4 → a ≠ b → (cd_T5 a).2.1 ≠ (cd_T5 b).2.1 := by decide +kernel
theorem cd_ty5 : ∀ k, k < 4 → parseFieldDescriptor (cd_T5 k).2.2.1 = some (cd_t5 k) := by decide +kernel
theorem cd_in5 : ∀ q ∈ u_ws cd_R5 cd_T5 4, q ∈ cd_ws := by decide +kernel
def cd_T6 : u_T := fun k => match k with
  | 0 => ("CatDoors", "now", "LCatDoors$House;", true)
  | 1 => ("CatDoors", "thought", "LCatDoors$House;", true)
  | 2 => ("CatDoors", "image", "LCatDoors$House;", true)
  | 3 => ("CatDoors", "kept", "Z", false)
  | 4 => ("CatDoors", "tape", "LCatDoors$Tape;", true)
  | 5 => ("CatDoors", "sheets", "[LCatDoors$Sheet;", true)
  | 6 => ("CatDoors", "slots", "[LCatDoors$Slot;", true)
  | 7 => ("CatDoors", "waiting", "[I", true)
  | 8 => ("CatDoors", "waits", "I", false)
  | _ => ("CatDoors", "differences", "[I", true)
def cd_t6 : Nat → FieldType := fun k => match k with
  | 0 => .object "CatDoors$House"
  | 1 => .object "CatDoors$House"
  | 2 => .object "CatDoors$House"
  | 3 => .boolean
  | 4 => .object "CatDoors$Tape"
  | 5 => .array (.object "CatDoors$Sheet")
  | 6 => .array (.object "CatDoors$Slot")
  | 7 => .array .int
  | 8 => .int
  | _ => .array .int
theorem cd_nm6 : ∀ a, a < 10 → ∀ b, b < 10 → a ≠ b → (cd_T6 a).2.1 ≠ (cd_T6 b).2.1 := by decide +kernel
theorem cd_ty6 : ∀ k, k < 10 → parseFieldDescriptor (cd_T6 k).2.2.1 = some (cd_t6 k) := by decide +kernel
theorem cd_in6 : ∀ q ∈ u_ws cd_R6 cd_T6 10, q ∈ cd_ws := by decide +kernel
def cd_T7 : u_T := fun k => match k with
  | 0 => ("CatDoorsModel", "now", "[I", true)
  | 1 => ("CatDoorsModel", "image", "[I", true)
  | 2 => ("CatDoorsModel", "aside", "[I", true)
  | 3 => ("CatDoorsModel", "hasImage", "Z", false)
  | 4 => ("CatDoorsModel", "before", "[I", true)
  | 5 => ("CatDoorsModel", "tape", "[I", true)
  | 6 => ("CatDoorsModel", "taped", "I", false)
  | 7 => ("CatDoorsModel", "next", "I", false)
  | 8 => ("CatDoorsModel", "from", "I", false)
  | 9 => ("CatDoorsModel", "token", "I", false)
  | 10 => ("CatDoorsModel", "value", "I", false)
  | 11 => ("CatDoorsModel", "ended", "I", false)
  | 12 => ("CatDoorsModel", "key", "I", false)
  | 13 => ("CatDoorsModel", "keys", "[C", true)
  | 14 => ("CatDoorsModel", "keyAt", "[I", true)
  | 15 => ("CatDoorsModel", "code", "[I", true)
  | 16 => ("CatDoorsModel", "codes", "I", false)
  | 17 => ("CatDoorsModel", "atoms", "I", false)
  | 18 => ("CatDoorsModel", "waits", "[I", true)
  | 19 => ("CatDoorsModel", "held", "I", false)
  | 20 => ("CatDoorsModel", "tested", "[Z", true)
  | 21 => ("CatDoorsModel", "stack", "[I", true)
  | 22 => ("CatDoorsModel", "facts", "[I", true)
  | 23 => ("CatDoorsModel", "sorts", "[I", true)
  | 24 => ("CatDoorsModel", "sizes", "[I", true)
  | 25 => ("CatDoorsModel", "cells", "[I", true)
  | 26 => ("CatDoorsModel", "holds", "[I", true)
  | 27 => ("CatDoorsModel", "holdsA", "[I", true)
  | 28 => ("CatDoorsModel", "holdsB", "[I", true)
  | 29 => ("CatDoorsModel", "heldCells", "[I", true)
  | 30 => ("CatDoorsModel", "moved", "[I", true)
  | 31 => ("CatDoorsModel", "tells", "[I", true)
  | _ => ("CatDoorsModel", "waiting", "I", false)
def cd_t7 : Nat → FieldType := fun k => match k with
  | 0 => .array .int
  | 1 => .array .int
  | 2 => .array .int
  | 3 => .boolean
  | 4 => .array .int
  | 5 => .array .int
  | 6 => .int
  | 7 => .int
  | 8 => .int
  | 9 => .int
  | 10 => .int
  | 11 => .int
  | 12 => .int
  | 13 => .array .char
  | 14 => .array .int
  | 15 => .array .int
  | 16 => .int
  | 17 => .int
  | 18 => .array .int
  | 19 => .int
  | 20 => .array .boolean
  | 21 => .array .int
  | 22 => .array .int
  | 23 => .array .int
  | 24 => .array .int
  | 25 => .array .int
  | 26 => .array .int
  | 27 => .array .int
  | 28 => .array .int
  | 29 => .array .int
  | 30 => .array .int
  | 31 => .array .int
  | _ => .int
theorem cd_nm7 : ∀ a, a < 33 → ∀ b, b < 33 → a ≠ b → (cd_T7 a).2.1 ≠ (cd_T7 b).2.1 := by decide +kernel
theorem cd_ty7 : ∀ k, k < 33 → parseFieldDescriptor (cd_T7 k).2.2.1 = some (cd_t7 k) := by decide +kernel
theorem cd_in7 : ∀ q ∈ u_ws cd_R7 cd_T7 33, q ∈ cd_ws := by decide +kernel
abbrev cd_cls : List vw_C := [(cd_R0, cd_T0, 5), (cd_R1, cd_T1, 9), (cd_R2, cd_T2, 3), (cd_R3, cd_T3, 4), (cd_R4, cd_T4, 9), (cd_R5, cd_T5, 4), (cd_R6, cd_T6, 10), (cd_R7, cd_T7, 33)]
def cd_rt : List (List Bool) := [[false, false, false, false, false], [true, true, true, false, false, false, true, false, true], [false, false, true], [false, false, true, true], [false, false, false, false, false, false, false, true, true], [false, false, true, true], [true, true, true, false, true, true, true, true, false, true], [true, true, true, false, true, true, false, false, false, false, false, false, false, true, true, true, false, false, true, false, true, true, true, true, true, true, true, true, true, true, true, true, false]]
def cd_nf : List (String × Nat × String × String × String × String) := [("CatDoors$Asking", 27, "CatDoors", "KIND_ABOVE", "[I", "CatDoors"), ("CatDoors$Asking", 46, "CatDoors", "LEARNS", "[I", "CatDoors"), ("CatDoors$House", 115, "CatDoors", "SCRATCHES", "[I", "CatDoors"), ("CatDoors$Asking", 52, "CatDoors", "FORGETS", "[I", "CatDoors")]
def cd_nn : List (String × Nat × MethodName × String) := [("CatDoors$House", 47, ⟨"CatDoors$Asking", "<init>", "()V"⟩, "CatDoors"), ("CatDoors", 28, ⟨"CatDoors$Tape", "<init>", "()V"⟩, "CatDoors"), ("CatDoors", 56, ⟨"CatDoors$Sheet", "<init>", "()V"⟩, "CatDoors"), ("CatDoors", 57, ⟨"CatDoors$Slot", "<init>", "()V"⟩, "CatDoors"), ("CatDoors$Slot", 20, ⟨"CatDoors$Asking", "<init>", "()V"⟩, "CatDoors"), ("CatDoors$Slot", 27, ⟨"CatDoors$Sheet", "<init>", "()V"⟩, "CatDoors"), ("CatDoors$House", 82, ⟨"CatDoors", "heldWithin", "(II)I"⟩, "CatDoors")]
/-- which fields are references -/
def cd_isR (c k : Nat) : Bool := ((cd_rt.getD c []).getD k false)
def cd_ov (c k : Nat) (i : Int32) (r : Option Nat) : Value := match cd_isR c k with
  | true => va_rf r
  | false => .int i
/-- array kinds: 0 int, 1 byte, 2 char, 3 boolean, 4 Asking, 5 Text, 6 Sheet, 7 Slot -/
def cd_aty (t : Nat) : FieldType := match t with
  | 0 => .int
  | 1 => .byte
  | 2 => .char
  | 3 => .boolean
  | 4 => .object "CatDoors$Asking"
  | 5 => .object "CatDoors$Text"
  | 6 => .object "CatDoors$Sheet"
  | _ => .object "CatDoors$Slot"
def cd_av (t : Nat) (i : Int32) (r : Option Nat) : Value := match t with
  | 0 => .int i
  | 1 => .int i
  | 2 => .int i
  | 3 => .int i
  | _ => va_rf r
def cd_tys (w : cd_WT) : List (ClassId × FieldType) := [(w.2.2.2.1 0, cd_aty 0), (w.2.2.2.1 1, cd_aty 1), (w.2.2.2.1 2, cd_aty 2), (w.2.2.2.1 3, cd_aty 3), (w.2.2.2.1 4, cd_aty 4), (w.2.2.2.1 5, cd_aty 5), (w.2.2.2.1 6, cd_aty 6), (w.2.2.2.1 7, cd_aty 7)]
theorem cd_tys_at (w : cd_WT) {t : Nat} (h : t < 8) : (cd_tys w)[t]? = some (w.2.2.2.1 t, cd_aty t) := by
  match t, h with
  | 0, _ => rfl
  | 1, _ => rfl
  | 2, _ => rfl
  | 3, _ => rfl
  | 4, _ => rfl
  | 5, _ => rfl
  | 6, _ => rfl
  | 7, _ => rfl
/-- a cell is as its shape says: (1, c) an object of class c; (t + 2, n) an array of kind t with n places -/
def cd_cell (w : cd_WT) (S : cd_Sp) (I : cd_Mem) (H : Heap) (a : Nat) : Prop := match S.2.1 a with
  | (0, _) => True
  | (1, c) => ∃ q, cd_cls[c]? = some q ∧ t_OB a (w.2.2.1.1 c) q.2.2 (w.2.2.1.2 c) H (fun k => cd_ov c k (I a k) (S.2.2 a k))
  | (t + 2, n) => H[a]? = some (arrV (w.2.2.2.1 t) n (fun j => cd_av t (I a j) (S.2.2 a j)))
def cd_R (w : cd_WT) (S : cd_Sp) (I : cd_Mem) (H : Heap) : Prop := (∀ a, cd_cell w S I H a) ∧ H.size = w.1 + S.1 ∧ ∀ q : Nat, q < w.1 → H[q]? = w.2.1[q]?
theorem cd_obj {w : cd_WT} {S : cd_Sp} {I : cd_Mem} {H : Heap} (h : cd_R w S I H) {a c : Nat} (hs : S.2.1 a = (1, c)) : ∃ q, cd_cls[c]? = some q ∧ t_OB a (w.2.2.1.1 c) q.2.2 (w.2.2.1.2 c) H (fun k => cd_ov c k (I a k) (S.2.2 a k)) := by
  have h1 := h.1 a
  unfold cd_cell at h1
  rw [hs] at h1
  exact h1
theorem cd_arr {w : cd_WT} {S : cd_Sp} {I : cd_Mem} {H : Heap} (h : cd_R w S I H) {a t n : Nat} (hs : S.2.1 a = (t + 2, n)) : H[a]? = some (arrV (w.2.2.2.1 t) n (fun j => cd_av t (I a j) (S.2.2 a j))) := by
  have h1 := h.1 a
  unfold cd_cell at h1
  rw [hs] at h1
  exact h1
theorem cd_cell_kept {w : cd_WT} {S S' : cd_Sp} {I I' : cd_Mem} {H H' : Heap} {a : Nat} (h : cd_cell w S I H a) (h1 : S'.2.1 a = S.2.1 a) (h2 : S'.2.2 a = S.2.2 a) (h3 : I' a = I a) (h4 : (S.2.1 a).1 ≠ 0 → H'[a]? = H[a]?) : cd_cell w S' I' H' a := by
  unfold cd_cell at h ⊢
  rw [h1, h2, h3]
  generalize hz : S.2.1 a = z at h h4 ⊢
  obtain ⟨z1, z2⟩ := z
  match z1, h, h4 with
  | 0, _, _ => trivial
  | 1, h, h4 =>
    obtain ⟨q, q1, q2⟩ := h
    exact ⟨q, q1, q2.kept (h4 (by simp))⟩
  | t + 2, h, h4 => exact (h4 (by simp)).trans h
/-- rows of ints: the row of a cell is another -/
def cd_set (I : cd_Mem) (a : Nat) (r : Nat → Int32) : cd_Mem := fun b => if b = a then r else I b
theorem cd_set_eq (I : cd_Mem) (a : Nat) (r : Nat → Int32) : cd_set I a r a = r := by simp [cd_set]
theorem cd_set_ne (I : cd_Mem) {a b : Nat} (r : Nat → Int32) (h : b ≠ a) : cd_set I a r b = I b := by simp [cd_set, h]
theorem cd_set_set (I : cd_Mem) (a : Nat) (r r' : Nat → Int32) : cd_set (cd_set I a r) a r' = cd_set I a r' := by
  funext b
  by_cases h : b = a <;> simp [cd_set, h]
theorem cd_set_self (I : cd_Mem) (a : Nat) : cd_set I a (I a) = I := by
  funext b
  by_cases h : b = a
  · subst h; simp [cd_set]
  · simp [cd_set, h]
/-- the locals -/
def cd_L (ls : Array Slot) (lv : List (Option Value)) : Prop := ls.size = lv.length ∧ lv_wf ls ∧ ∀ (i : Nat) (v : Value), lv[i]? = some (some v) → ls[i]? = some (.val v)
/-- what the tables and the heap below the base say: the classes, static arrays, String constants -/
def cd_A (w : cd_WT) : Nat → Prop := fun q => w.1 ≤ q
def cd_sn (i : Nat) : String := match i with
  | 0 => "KIND_ABOVE"
  | 1 => "LEARNS"
  | 2 => "FORGETS"
  | 3 => "SCRATCHES"
  | _ => "MOST_OF_RULE"
def cd_sl (i : Nat) : Nat := match i with
  | 4 => 7
  | _ => 6
def cd_sv (i : Nat) : List Int32 := match i with
  | 0 => [-1, 0, 0, 1, 2, 0]
  | 1 => [8, 3, 8, 12, 16, 15]
  | 2 => [4, 6, 4, 6, 1, 9]
  | 3 => [2, 0, 2, 7, 3, 1]
  | _ => [99, 100, 100, 1, 1, 1, 1]
def cd_tx (i : Nat) : String := match i with
  | 0 => "press"
  | 1 => "fee"
  | 2 => "fine"
  | 3 => "hmw"
  | 4 => "\x72p"
  | _ => "hw"
def cd_ti (i : Nat) : Nat := match i with
  | 0 => 63
  | 1 => 69
  | 2 => 71
  | 3 => 99
  | 4 => 101
  | _ => 103
def cd_tl : List Nat := [5, 3, 4, 3, 2, 2]
def cd_tb : List (List Int32) := [[112, 114, 101, 115, 115], [102, 101, 101], [102, 105, 110, 101], [104, 109, 119], [114, 112], [104, 119]]
def cd_ST (w : cd_WT) (U : State) : Prop := (∀ i, i < 5 → va_Z "CatDoors" (cd_sn i) "[I" (.ref (w.2.2.2.2.1 i)) (cd_A w) U w.2.1 ∧ va_T .int (w.2.2.2.2.1 i) (cd_sl i) (fun j => .int ((cd_sv i).getD j 0)) (cd_A w) U w.2.1) ∧ vk_S 6 cd_tl cd_tb w.2.2.2.2.2.1 w.2.2.2.2.2.2 (cd_A w) U w.2.1 ∧ (∀ i, i < 6 → vk_R "CatDoors$Tape" (cd_ti i) (cd_tx i) (w.2.2.2.2.2.1 i) U) ∧ va_Z "java/lang/String" "COMPACT_STRINGS" "Z" (.int 1) (cd_A w) U w.2.1 ∧ ∃ v : Value, v.category = 1 ∧ va_Z "jdk/internal/util/Preconditions" "SIOOBE_FORMATTER" "Ljava/util/function/BiFunction;" v (cd_A w) U w.2.1
/-- element classes of the component's rows of references -/
def cd_oc (i : Nat) : String := match i with
  | 0 => "CatDoors$Asking"
  | 1 => "CatDoors$Text"
  | 2 => "CatDoors$Sheet"
  | _ => "CatDoors$Slot"
def cd_NW (U : State) : Prop := (∀ q ∈ cd_nf, va_Nw (.fieldLinkNest q.1 q.2.1 q.2.2.1 q.2.2.2.1 q.2.2.2.2.1 q.2.2.2.2.2) U) ∧ (∀ q ∈ cd_nn, va_Nw (.methodLinkNest q.1 q.2.1 q.2.2.1 q.2.2.2) U) ∧ ∀ i, i < 4 → va_AO (cd_oc i) U
def cd_K (w : cd_WT) (U : State) : Prop := va_K w.2.2.1 cd_cls (cd_tys w) U ∧ cd_ST w U ∧ w.2.1.size = w.1 ∧ cd_NW U
theorem cd_K.warm {w : cd_WT} {s U : State} (hW : s.WarmedH U.vm) (h : cd_K w s) : cd_K w U :=
  ⟨h.1.moved hW.alike, ⟨fun i hi => ⟨(h.2.1.1 i hi).1.moved hW.alike, (h.2.1.1 i hi).2.moved hW.alike⟩, h.2.1.2.1.moved hW.alike, fun i hi => (h.2.1.2.2.1 i hi).warm hW, h.2.1.2.2.2.1.moved hW.alike, h.2.1.2.2.2.2.imp (fun v q => ⟨q.1, q.2.moved hW.alike⟩)⟩, h.2.2.1, fun q hq => (h.2.2.2.1 q hq).warmF hW, fun q hq => (h.2.2.2.2.1 q hq).warmM hW, fun i hi => (h.2.2.2.2.2 i hi).moved hW.alike⟩
theorem cd_K.same {w : cd_WT} {s U : State} (hv : U.vm = s.vm) (h : cd_K w s) : cd_K w U := by
  have ha : s.vm.Alike U.vm := by rw [hv]; exact Vm.Alike.refl _
  exact ⟨h.1.moved ha, ⟨fun i hi => ⟨(h.2.1.1 i hi).1.moved ha, (h.2.1.1 i hi).2.moved ha⟩, h.2.1.2.1.moved ha, fun i hi => (h.2.1.2.2.1 i hi).same hv, h.2.1.2.2.2.1.moved ha, h.2.1.2.2.2.2.imp (fun v q => ⟨q.1, q.2.moved ha⟩)⟩, h.2.2.1, fun q hq => (h.2.2.2.1 q hq).same rfl hv.symm, fun q hq => (h.2.2.2.2.1 q hq).same rfl hv.symm, fun i hi => (h.2.2.2.2.2 i hi).moved ha⟩
/-- the judgement -/
def cd_J (w : cd_WT) (X : cd_XT) (k n : Nat) (S : cd_Sp) (I : cd_Mem) (pc : Nat) (lv : List (Option Value)) (st : List Value) : Prop :=
  ∀ (H : Heap) (ls : Array Slot) (locs : List Loc), cd_R w S I H → cd_L ls lv → (∀ q ∈ locs, w.1 ≤ q.base) →
    W X.1 X.2.1 X.2.2.1 X.2.2.2.1 X.2.2.2.2.1 X.2.2.2.2.2.1 X.2.2.2.2.2.2.1 X.2.2.2.2.2.2.2.1 X.2.2.2.2.2.2.2.2.1 X.2.2.2.2.2.2.2.2.2.1 H locs k n X.2.2.2.2.2.2.2.2.2.2 (F0 X.2.2.2.2.2.1 pc ls st)
/-- what holds in a method's body -/
def cd_O (w : cd_WT) (X : cd_XT) (cc : ByteArray) (own : String) (d mc ms : Nat) (l : Launch) : Prop :=
  X.1.tables.exec = Jvm.exec ∧ X.2.2.2.2.2.2.2.2.2.1.code = cc ∧ X.2.2.2.2.1.vm.findClass own = some X.2.2.2.2.2.1.cls ∧ (∀ q ∈ cd_ws, q.before X.2.2.2.2.2.2.1 X.2.2.2.2.1 = true) ∧ cd_K w X.2.2.2.2.1 ∧ d ≤ X.2.2.2.1.frames ∧ 41 * d ≤ X.2.2.2.1.locals ∧ mc ≤ X.2.2.2.1.cells ∧ ms ≤ X.2.2.2.1.slots ∧ X.2.1 = l
/-- its locals' number, what it answers, its end -/
def cd_E (w : cd_WT) (X : cd_XT) (nL : Nat) (rt : Option FieldType) (mc ms : Nat) (nm : String) (post : cd_Pt) : Prop :=
  X.2.2.2.2.2.2.2.2.2.1.maxLocals = nL ∧ X.2.2.2.2.2.2.2.2.1.sig.returnType = rt ∧ X.2.2.2.2.2.2.2.2.1.locks = false ∧ X.2.2.2.2.2.2.2.2.1.name = nm ∧
  X.2.2.2.2.2.2.2.2.2.2 = MQ X.2.2.2.2.2.2.2.1 (fun _ _ o t => ∃ (r : Option Value) (S' : cd_Sp) (I' : cd_Mem), o = .returned r ∧ post r S' I' ∧ cd_R w S' I' t.heap) X.2.2.2.2.2.2.1 X.2.2.2.2.1 mc ms (fun q => w.1 ≤ q)
abbrev cd_MT : Type := MethodName × ByteArray × Nat × Option FieldType
def cd_rm (d mc ms : Nat) : Room := { frames := d, cells := mc, slots := ms, locals := 41 * d }
/-- a method's contract -/
def cd_C (l : Launch) (w : cd_WT) (m : cd_MT) (d mc ms : Nat) (av : List Value) (S : cd_Sp) (I : cd_Mem) (post : cd_Pt) : Prop :=
  Met l m.1 (Cond.code m.1 m.2.1 m.2.2.1 m.2.2.2 :: cd_ws) (cd_rm d mc ms) (va_Pc av (fun U => cd_R w S I U.heap ∧ cd_K w U)) (fun _ _ o t => ∃ (r : Option Value) (S' : cd_Sp) (I' : cd_Mem), o = .returned r ∧ post r S' I' ∧ cd_R w S' I' t.heap) mc ms (fun q => w.1 ≤ q)
theorem cd_good : ∀ w ∈ cd_ws, (w.onTables && w.keeps) = true ∨ ∃ ty, w = .arrayClass ty := fun w hw => good_of_word (List.mem_filter.mp hw).2
/-- entry: the locals of a method whose arguments are all of one slot -/
theorem cd_entry (vs : List Value) (n : Nat) (h1 : ∀ v ∈ vs, v.category = 1) (hn : vs.length ≤ n) : cd_L ((lg_sl vs ++ List.replicate (n - (lg_sl vs).length) Slot.unset).toArray) (vs.map some ++ List.replicate (n - vs.length) none) := by
  have e : lg_sl vs = vs.map Slot.val := by
    clear hn
    induction vs with
    | nil => rfl
    | cons v l ih =>
      have hv := h1 v List.mem_cons_self
      have := ih (fun x hx => h1 x (List.mem_cons_of_mem _ hx))
      simp only [lg_sl, List.flatMap_cons, List.map_cons] at this ⊢
      rw [this, hv]
      simp
  rw [e]
  have key : ∀ (i : Nat) (x : Slot), (vs.map Slot.val ++ List.replicate (n - (vs.map Slot.val).length) Slot.unset)[i]? = some x → (∃ v ∈ vs, x = .val v) ∨ x = .unset := by
    intro i x hx
    rcases List.mem_append.mp (List.mem_of_getElem? hx) with q | q
    · obtain ⟨v, hv, rfl⟩ := List.mem_map.mp q
      exact Or.inl ⟨v, hv, rfl⟩
    · exact Or.inr (List.eq_of_mem_replicate q)
  refine ⟨by simp, ⟨fun i v hi hc => ?_, fun i hi => ?_⟩, fun i v hi => ?_⟩
  · rw [List.getElem?_toArray] at hi
    rcases key i _ hi with ⟨u, hu, q⟩ | q
    · cases q
      rw [h1 _ hu] at hc
      cases hc
    · cases q
  · rw [List.getElem?_toArray] at hi
    rcases key i _ hi with ⟨u, hu, q⟩ | q <;> cases q
  · rw [List.getElem?_toArray]
    by_cases hl : i < vs.length
    · rw [List.getElem?_append_left (by simpa using hl)] at hi ⊢
      simp only [List.getElem?_map, Option.map_eq_some_iff] at hi ⊢
      obtain ⟨a, ha, hb⟩ := hi
      exact ⟨a, ha, by rw [Option.some.inj hb]⟩
    · rw [List.getElem?_append_right (by simpa using hl)] at hi
      have := List.eq_of_mem_replicate (List.mem_of_getElem? hi)
      cases this
theorem cd_intro {l : Launch} {w : cd_WT} {m : cd_MT} {d mc ms : Nat} {av : List Value} {S : cd_Sp} {I : cd_Mem} {post : cd_Pt} (hy : plainName m.1.cls = true) (h1 : ∀ v ∈ av, v.category = 1) (hn : av.length ≤ m.2.2.1)
    (h : ∀ X : cd_XT, cd_O w X m.2.1 m.1.cls d mc ms l → cd_E w X m.2.2.1 m.2.2.2 mc ms m.1.name post → cd_J w X 0 0 S I 0 (av.map some ++ List.replicate (m.2.2.1 - av.length) none) []) : cd_C l w m d mc ms av S I post := by
  refine Met.ofW (cc := m.2.1) (maxL := m.2.2.1) (ret := m.2.2.2) hy rfl ?_
  intro p e s mm args below meth c s₁ B hml hv
  obtain ⟨rfl, hR, hK⟩ := hv
  have hts := atoms_spec (ws := Cond.code m.1 m.2.1 m.2.2.1 m.2.2.2 :: cd_ws) B.pre
  have hO : cd_O w (p, l, e, (headSpec (Cond.code m.1 m.2.1 m.2.2.1 m.2.2.2 :: cd_ws) (cd_rm d mc ms)).room, s, mm, av.toArray, below, meth, c, MQ below (fun _ _ o t => ∃ (r : Option Value) (S' : cd_Sp) (I' : cd_Mem), o = .returned r ∧ post r S' I' ∧ cd_R w S' I' t.heap) av.toArray s mc ms (fun q => w.1 ≤ q)) m.2.1 m.1.cls d mc ms l :=
    ⟨B.exec, B.bytes, findClass_of_methodNamed B.named, fun q hq => hts q (List.mem_cons_of_mem _ hq), hK, Nat.le_refl _, Nat.le_refl _, Nat.le_refl _, Nat.le_refl _, rfl⟩
  have hJ := h _ hO ⟨hml, B.returns, B.notSynchronized, (name_of_methodNamed B.named B.method).1, rfl⟩
  rw [lg_entry_eq]
  exact hJ s.heap _ [] hR (cd_entry av _ h1 hn) (fun q hq => by cases hq)
