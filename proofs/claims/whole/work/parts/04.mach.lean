/-! the small machine: ints as Int, cells by their numbers -/
abbrev MV : Type := Int ⊕ (Int ⊕ Nat)
abbrev vI (z : Int) : MV := Sum.inl z
abbrev vL (z : Int) : MV := Sum.inr (Sum.inl z)
abbrev vR (k : Nat) : MV := Sum.inr (Sum.inr k)
abbrev Om : Type := Nat → Int → Int
/-- the launch, the classes' numbers, the cells' addresses, the classes of int[] and boolean[] -/
abbrev Cx : Type := Launch × va_G × (Nat → Nat) × ClassId × ClassId
def InR (z : Int) : Prop := -2147483648 ≤ z ∧ z ≤ 2147483647
def InL (z : Int) : Prop := -9223372036854775808 ≤ z ∧ z ≤ 9223372036854775807
def RV : MV → Prop
  | .inl z => InR z
  | .inr (.inl z) => InL z
  | .inr (.inr _) => True
def emb (X : Cx) : MV → Value
  | .inl z => .int (Int32.ofInt z)
  | .inr (.inl z) => .long (Int64.ofInt z)
  | .inr (.inr k) => .ref (X.2.2.1 k)
def isL (k : Nat) (j : Int) : Bool := (k == 4 && j == 5) || (k == 5 && j == 5) || (k == 29 && j == 44)
def ROm (ω : Om) : Prop := (∀ k j, isL k j = false → InR (ω k j)) ∧ ∀ k j, InL (ω k j)
def up (ω : Om) (k : Nat) (i z : Int) : Om := fun k' i' => if k' = k ∧ i' = i then z else ω k' i'
theorem InR.L {z : Int} (h : InR z) : InL z := by unfold InR InL at *; omega
theorem up_s {ω : Om} {k : Nat} {i z : Int} : up ω k i z k i = z := by simp [up]
theorem up_k {ω : Om} {k k' : Nat} {i i' z : Int} (h : k' ≠ k) : up ω k i z k' i' = ω k' i' := by simp [up, h]
theorem up_i {ω : Om} {k k' : Nat} {i i' z : Int} (h : i' ≠ i) : up ω k i z k' i' = ω k' i' := by simp [up, h]
theorem ROm_up {ω : Om} (h : ROm ω) {k : Nat} {i z : Int} (hz : InR z) : ROm (up ω k i z) := by
  refine ⟨fun k' j hl => ?_, fun k' j => ?_⟩
  · by_cases e : k' = k ∧ j = i
    · rw [e.1, e.2, up_s]; exact hz
    · show InR (if k' = k ∧ j = i then z else ω k' j)
      rw [if_neg e]; exact h.1 k' j hl
  · by_cases e : k' = k ∧ j = i
    · rw [e.1, e.2, up_s]; exact hz.L
    · show InL (if k' = k ∧ j = i then z else ω k' j)
      rw [if_neg e]; exact h.2 k' j
theorem ROm_upL {ω : Om} (h : ROm ω) {k : Nat} {i z : Int} (hz : InL z) (hl0 : isL k i = true) : ROm (up ω k i z) := by
  refine ⟨fun k' j hl => ?_, fun k' j => ?_⟩
  · by_cases e : k' = k ∧ j = i
    · rw [e.1, e.2, hl0] at hl; cases hl
    · show InR (if k' = k ∧ j = i then z else ω k' j)
      rw [if_neg e]; exact h.1 k' j hl
  · by_cases e : k' = k ∧ j = i
    · rw [e.1, e.2, up_s]; exact hz
    · show InL (if k' = k ∧ j = i then z else ω k' j)
      rw [if_neg e]; exact h.2 k' j
/-- a cell's shape: 0 an int[], 1 a boolean[], c+2 an object of class c; its length; its fields: 0 an int, 1 a long, c+2 a reference to cell c -/
def lay : List (Nat × Nat × List Nat) := [(8, 7, [3, 4, 5, 7, 8, 9, 0]),
  (3, 2, [10, 0]),
  (4, 9, [11, 12, 13, 0, 0, 0, 0, 0, 0]),
  (7, 10, [14, 15, 16, 17, 18, 19, 20, 0, 0, 0]),
  (6, 9, [5, 21, 22, 23, 24, 1, 0, 0, 0]),
  (5, 8, [5, 6, 25, 26, 27, 1, 0, 0]),
  (2, 14, [5, 6, 7, 28, 29, 30, 0, 0, 0, 0, 0, 0, 0, 0]),
  (0, 6, []),
  (0, 40, []),
  (0, 12, []),
  (0, 12, []),
  (0, 72, []),
  (0, 8, []),
  (1, 8, []),
  (0, 96, []),
  (0, 8, []),
  (0, 8, []),
  (0, 40, []),
  (0, 240, []),
  (0, 60, []),
  (0, 40, []),
  (0, 40, []),
  (0, 40, []),
  (0, 2880, []),
  (0, 48, []),
  (0, 48, []),
  (0, 168, []),
  (0, 21, []),
  (0, 21, []),
  (9, 45, [0, 32, 0, 33, 34, 35, 36, 0, 0, 37, 38, 39, 0, 40, 41, 0, 42, 0, 0, 0, 0, 0, 0, 0, 43, 44, 45, 0, 0, 46, 47, 0, 0, 48, 49, 50, 0, 51, 52, 0, 0, 0, 53, 0, 1]),
  (0, 40, []),
  (0, 8, []),
  (1, 8, []),
  (0, 192, []),
  (0, 16, []),
  (0, 40, []),
  (0, 40, []),
  (0, 240, []),
  (0, 1920, []),
  (0, 160, []),
  (0, 6, []),
  (0, 6, []),
  (0, 6, []),
  (0, 36, []),
  (0, 60, []),
  (0, 60, []),
  (0, 61, []),
  (0, 61, []),
  (0, 61, []),
  (0, 60, []),
  (0, 60, []),
  (1, 40, [])]
def fv (X : Cx) (ω : Om) (k j : Nat) (code : Nat) : Value := match code with
  | 0 => .int (Int32.ofInt (ω k j))
  | 1 => .long (Int64.ofInt (ω k j))
  | c + 2 => .ref (X.2.2.1 c)
def cellOf (X : Cx) (ω : Om) (k : Nat) (L : Nat × Nat × List Nat) : va_E := match L.1 with
  | 0 => .inl (X.2.2.2.1, L.2.1, .inl (fun j => Int32.ofInt (ω k j)))
  | 1 => .inl (X.2.2.2.2, L.2.1, .inl (fun j => Int32.ofInt (ω k j)))
  | c + 2 => .inr (c, L.2.2.mapIdx (fun j code => fv X ω k j code))
def pic (X : Cx) (ω : Om) : va_W := lay.mapIdx (fun k L => (X.2.2.1 k, cellOf X ω k L))
def fcode (k ci j : Nat) : Option Nat := match lay[k]? with
  | some (c, _, fl) => if c = ci + 2 then fl[j]? else none
  | none => none
def acode (k : Nat) : Option (Nat × Nat) := match lay[k]? with
  | some (c, n, _) => some (c, n)
  | none => none
def tysX (X : Cx) : List (ClassId × FieldType) := [(X.2.2.2.1, .int), (X.2.2.2.2, .boolean)]
def AX (X : Cx) : Nat → Prop := fun q => ∃ k, k < 52 ∧ q = X.2.2.1 k
def InjX (X : Cx) : Prop := ∀ i j, i < 52 → j < 52 → X.2.2.1 i = X.2.2.1 j → i = j
theorem lay_len : lay.length = 52 := by decide +kernel
theorem pic_len (X : Cx) (ω : Om) : (pic X ω).length = 52 := by simp [pic, lay_len]
theorem pic_get (X : Cx) (ω : Om) (k : Nat) : (pic X ω)[k]? = (lay[k]?).map (fun L => (X.2.2.1 k, cellOf X ω k L)) := by simp [pic, List.getElem?_mapIdx]
theorem pic_obj (X : Cx) (ω : Om) {k ci j code : Nat} (h : fcode k ci j = some code) : ∃ fl : List Nat, (pic X ω)[k]? = some (X.2.2.1 k, .inr (ci, fl.mapIdx (fun j code => fv X ω k j code))) ∧ fl[j]? = some code ∧ ∃ n, lay[k]? = some (ci + 2, n, fl) := by
  unfold fcode at h
  cases hl : lay[k]? with
  | none => rw [hl] at h; cases h
  | some L =>
    obtain ⟨c, n, fl⟩ := L
    rw [hl] at h
    by_cases hc : c = ci + 2
    · subst hc
      simp only [if_true] at h
      exact ⟨fl, by rw [pic_get, hl]; rfl, h, n, rfl⟩
    · simp only [hc, if_false] at h
      cases h
theorem lay_lt {k : Nat} {L : Nat × Nat × List Nat} (h : lay[k]? = some L) : k < 52 := by
  rw [← lay_len]; exact (List.getElem?_eq_some_iff.mp h).1
theorem pic_D {X : Cx} {A : Nat → Prop} (ω : Om) (hI : InjX X) (hA : ∀ k, k < 52 → A (X.2.2.1 k)) : va_D A (pic X ω) := by
  have key : ∀ (i : Nat) (q : Nat × va_E), (pic X ω)[i]? = some q → i < 52 ∧ q.1 = X.2.2.1 i := by
    intro i q h
    rw [pic_get] at h
    cases hl : lay[i]? with
    | none => rw [hl] at h; cases h
    | some L => rw [hl] at h; cases h; exact ⟨lay_lt hl, rfl⟩
  refine ⟨fun i j p q hp hq e => ?_, fun k q h => ?_⟩
  · obtain ⟨a1, a2⟩ := key i p hp
    obtain ⟨b1, b2⟩ := key j q hq
    exact hI i j a1 b1 (by rw [← a2, ← b2, e])
  · obtain ⟨a1, a2⟩ := key k q h
    rw [a2]; exact hA k a1
theorem cellOf_ne {X : Cx} {ω : Om} {k k' : Nat} {i z : Int} (h : k' ≠ k) (L : Nat × Nat × List Nat) : cellOf X (up ω k i z) k' L = cellOf X ω k' L := by
  have e : ∀ j : Int, up ω k i z k' j = ω k' j := fun j => up_k h
  obtain ⟨c, n, fl⟩ := L
  match c with
  | 0 => simp only [cellOf, e]
  | 1 => simp only [cellOf, e]
  | c + 2 =>
    simp only [cellOf]
    congr 2
    congr 1
    funext j code
    match code with
    | 0 => simp only [fv, e]
    | 1 => simp only [fv, e]
    | c + 2 => rfl
theorem pic_set {X : Cx} {ω : Om} {k : Nat} {i z : Int} {e : va_E} {L : Nat × Nat × List Nat} (hl : lay[k]? = some L) (he : cellOf X (up ω k i z) k L = e) : (pic X ω).set k (X.2.2.1 k, e) = pic X (up ω k i z) := by
  apply List.ext_getElem?
  intro q
  rw [List.getElem?_set, pic_get X (up ω k i z)]
  by_cases hq : k = q
  · subst hq
    rw [if_pos rfl, if_pos (by rw [pic_len]; exact lay_lt hl), hl, ← he]
    rfl
  · rw [if_neg hq, pic_get]
    cases lay[q]? with
    | none => rfl
    | some L' => simp only [Option.map_some, cellOf_ne (fun h => hq h.symm)]
theorem fl_set {X : Cx} {ω : Om} {k j : Nat} {z : Int} {fl : List Nat} {code : Nat} (hf : fl[j]? = some code) (v : Value) (hv : fv X (up ω k j z) k j code = v) : fl.mapIdx (fun a code => fv X (up ω k j z) k a code) = (fl.mapIdx (fun a code => fv X ω k a code)).set j v := by
  apply List.ext_getElem?
  intro q
  rw [List.getElem?_set]
  by_cases hq : j = q
  · subst hq
    have hlt := (List.getElem?_eq_some_iff.mp hf).1
    rw [if_pos rfl, if_pos (by simpa using hlt)]
    simp [List.getElem?_mapIdx, hf, hv]
  · rw [if_neg hq]
    simp only [List.getElem?_mapIdx]
    cases fl[q]? with
    | none => rfl
    | some c =>
      have e : up ω k j z k q = ω k q := up_i (fun h => hq (by omega))
      simp only [Option.map_some]
      match c with
      | 0 => simp only [fv, e]
      | 1 => simp only [fv, e]
      | c + 2 => rfl
/-- the locals, by their places -/
def lvl (X : Cx) : Nat → List (Option MV) → List (Nat × Value)
  | _, [] => []
  | i, none :: r => lvl X (i + 1) r
  | i, some v :: r => (i, emb X v) :: lvl X (i + 1) r
theorem lvl_mem {X : Cx} : ∀ (lv : List (Option MV)) (n : Nat) (q : Nat × Value), q ∈ lvl X n lv ↔ ∃ j v, q = (n + j, emb X v) ∧ lv[j]? = some (some v) := by
  intro lv
  induction lv with
  | nil => intro n q; simp [lvl]
  | cons a r ih =>
    intro n q
    have tail : q ∈ lvl X (n + 1) r ↔ ∃ j v, q = (n + (j + 1), emb X v) ∧ (a :: r)[j + 1]? = some (some v) := by
      rw [ih]
      constructor
      · rintro ⟨j, v, h1, h2⟩; exact ⟨j, v, by rw [h1]; congr 1; omega, by simpa using h2⟩
      · rintro ⟨j, v, h1, h2⟩; exact ⟨j, v, by rw [h1]; congr 1; omega, by simpa using h2⟩
    cases a with
    | none =>
      simp only [lvl]
      rw [tail]
      constructor
      · rintro ⟨j, v, h⟩; exact ⟨j + 1, v, h⟩
      · rintro ⟨j, v, h1, h2⟩
        cases j with
        | zero => simp at h2
        | succ j => exact ⟨j, v, h1, h2⟩
    | some v0 =>
      simp only [lvl, List.mem_cons]
      rw [tail]
      constructor
      · rintro (h | ⟨j, v, h⟩)
        · exact ⟨0, v0, by simpa using h, rfl⟩
        · exact ⟨j + 1, v, h⟩
      · rintro ⟨j, v, h1, h2⟩
        cases j with
        | zero => left; simp at h2; subst h2; simpa using h1
        | succ j => exact Or.inr ⟨j, v, h1, h2⟩
theorem lvl_at {X : Cx} {ls : Array Slot} {nL : Nat} {lv : List (Option MV)} (h : lv_has ls nL (lvl X 0 lv)) {i : Nat} {v : MV} (hi : lv[i]? = some (some v)) : ls[i]? = some (.val (emb X v)) :=
  h.2.2 (i, emb X v) ((lvl_mem lv 0 _).mpr ⟨i, v, by simp, hi⟩)
def noL (o : Option (Option MV)) : Bool := match o with
  | some (some (.inr (.inl _))) => false
  | _ => true
theorem cat_noL {X : Cx} {v : MV} (h : noL (some (some v)) = true) : (emb X v).category = 1 := by
  match v, h with
  | .inl z, _ => rfl
  | .inr (.inr k), _ => rfl
theorem emb_cat1 {X : Cx} {v : MV} (h : (emb X v).category = 2) : noL (some (some v)) = false := by
  match v, h with
  | .inr (.inl z), _ => rfl
theorem lvl_set {X : Cx} {ls : Array Slot} {nL i : Nat} {lv : List (Option MV)} {v : MV} (hno : i = 0 ∨ noL lv[i - 1]? = true)
    (h : lv_has ls nL ((i, emb X v) :: (lvl X 0 lv).filter (fun q => !(q.1 == i) && !(q.1 + 1 == i && q.2.category == 2)))) : lv_has ls nL (lvl X 0 (lv.set i (some v))) := by
  refine ⟨h.1, h.2.1, fun q hq => h.2.2 q ?_⟩
  obtain ⟨j, w, h1, h2⟩ := (lvl_mem _ 0 _).mp hq
  subst h1
  rw [List.getElem?_set] at h2
  by_cases hj : i = j
  · subst hj
    rw [if_pos rfl] at h2
    split at h2
    · cases h2; simp
    · cases h2
  · rw [if_neg hj] at h2
    refine List.mem_cons_of_mem _ (List.mem_filter.mpr ⟨(lvl_mem lv 0 _).mpr ⟨j, w, rfl, h2⟩, ?_⟩)
    simp only [Nat.zero_add, Bool.and_eq_true, Bool.not_eq_true', beq_eq_false_iff_ne, ne_eq, Bool.and_eq_false_iff]
    refine ⟨fun e => hj e.symm, ?_⟩
    by_cases e : j + 1 = i
    · right
      intro hc
      rcases hno with h0 | h0
      · omega
      · rw [show i - 1 = j from by omega, h2] at h0
        rw [emb_cat1 hc] at h0
        cases h0
    · left; exact e
theorem lvl_set2 {X : Cx} {ls : Array Slot} {nL i : Nat} {lv : List (Option MV)} {v : MV} (hno : i = 0 ∨ noL lv[i - 1]? = true)
    (h : lv_has ls nL ((i, emb X v) :: (lvl X 0 lv).filter (fun q => !(q.1 == i) && (!(q.1 == i + 1) && !(q.1 + 1 == i && q.2.category == 2))))) : lv_has ls nL (lvl X 0 ((lv.set i (some v)).set (i + 1) none)) := by
  refine ⟨h.1, h.2.1, fun q hq => h.2.2 q ?_⟩
  obtain ⟨j, w, h1, h2⟩ := (lvl_mem _ 0 _).mp hq
  subst h1
  rw [List.getElem?_set] at h2
  by_cases hj1 : i + 1 = j
  · rw [if_pos hj1] at h2
    split at h2
    · cases h2
    · cases h2
  · rw [if_neg hj1, List.getElem?_set] at h2
    by_cases hj : i = j
    · subst hj
      rw [if_pos rfl] at h2
      split at h2
      · cases h2; simp
      · cases h2
    · rw [if_neg hj] at h2
      refine List.mem_cons_of_mem _ (List.mem_filter.mpr ⟨(lvl_mem lv 0 _).mpr ⟨j, w, rfl, h2⟩, ?_⟩)
      simp only [Nat.zero_add, Bool.and_eq_true, Bool.not_eq_true', beq_eq_false_iff_ne, ne_eq, Bool.and_eq_false_iff]
      refine ⟨fun e => hj e.symm, fun e => hj1 e.symm, ?_⟩
      by_cases e : j + 1 = i
      · right
        intro hc
        rcases hno with h0 | h0
        · omega
        · rw [show i - 1 = j from by omega, h2] at h0
          rw [emb_cat1 hc] at h0
          cases h0
      · left; exact e
