/-! traces, as they should be -/
/-- the cells of the tree are τ's -/
def TE (τ ω : Om) : Prop := ω 3 = τ 3 ∧ ω 12 = τ 12 ∧ ω 13 = τ 13 ∧ ω 14 = τ 14 ∧ ω 15 = τ 15 ∧ ω 16 = τ 16 ∧ ω 17 = τ 17 ∧ ω 18 = τ 18
theorem TE.rf (τ : Om) : TE τ τ := ⟨rfl, rfl, rfl, rfl, rfl, rfl, rfl, rfl⟩
/-- outside of the cells K nothing has changed -/
def Fr (K : List Nat) (ω ω' : Om) : Prop := ∀ k, k ∉ K → ω' k = ω k
theorem Fr.rf {K : List Nat} {ω : Om} : Fr K ω ω := fun _ _ => rfl
theorem Fr.tr {K : List Nat} {a b c : Om} (h1 : Fr K a b) (h2 : Fr K b c) : Fr K a c := fun k hk => (h2 k hk).trans (h1 k hk)
theorem Fr.mono {K K' : List Nat} {a b : Om} (h : Fr K a b) (hs : ∀ k ∈ K, k ∈ K') : Fr K' a b := fun k hk => h k (fun q => hk (hs k q))
theorem Fr.up {K : List Nat} {ω ω' : Om} {k : Nat} {i z : Int} (h : Fr K ω ω') (hk : k ∈ K) : Fr K ω (up ω' k i z) := fun q hq => by
  have hne : q ≠ k := fun e => hq (by rw [e]; exact hk)
  funext j
  rw [up_k hne, h q hq]
theorem up_f {ω : Om} {k k' : Nat} {i z : Int} (h : k' ≠ k) : up ω k i z k' = ω k' := by funext j; exact up_k h
theorem TE.fr {τ ω ω' : Om} {K : List Nat} (h : TE τ ω) (hf : Fr K ω ω') (hk : ([3, 12, 13, 14, 15, 16, 17, 18] : List Nat).all (fun k => !K.contains k) = true) : TE τ ω' := by
  simp only [List.all_cons, List.all_nil, Bool.and_eq_true, Bool.not_eq_true', List.contains_eq_mem, decide_eq_false_iff_not] at hk
  obtain ⟨a, b, c, d, e, f, g, i, -⟩ := hk
  obtain ⟨h1, h2, h3, h4, h5, h6, h7, h8⟩ := h
  exact ⟨(hf _ a).trans h1, (hf _ b).trans h2, (hf _ c).trans h3, (hf _ d).trans h4, (hf _ e).trans h5, (hf _ f).trans h6, (hf _ g).trans h7, (hf _ i).trans h8⟩
theorem hb_TE {τ ω : Om} (h : TE τ ω) (t m : Int) : hb ω t m = hb τ t m := by unfold hb; rw [h.1, h.2.2.2.1]
theorem pr_TE {τ ω : Om} (h : TE τ ω) (t : Int) : pr ω t = pr τ t := by unfold pr; rw [h.1, h.2.1]
theorem hds_TE {τ ω : Om} (h : TE τ ω) (t m : Int) : hds ω t m = hds τ t m := by unfold hds; rw [h.1, h.2.2.2.2.1]
theorem hol_TE {τ ω : Om} (h : TE τ ω) (t : Int) : hol ω t = hol τ t := by unfold hol; rw [h.1, h.2.2.1]
theorem itA_TE {τ ω : Om} (h : TE τ ω) (t m : Int) : itA ω t m = itA τ t m := by unfold itA; rw [h.1, h.2.2.2.2.2.2.1, h.2.2.2.2.2.2.2]
theorem nr_TE {τ ω : Om} (h : TE τ ω) (m : Int) : ∀ (f : Nat) (t : Int), nr ω m f t = nr τ m f t := by
  intro f
  induction f with
  | zero => intro t; rfl
  | succ f ih => intro t; unfold nr; rw [h.1, h.2.2.2.1, h.2.2.2.2.1, h.2.1, ih]
theorem nrS_TE {τ ω : Om} (h : TE τ ω) (t m : Int) : nrS ω t m = nrS τ t m := by unfold nrS; rw [nr_TE h]
/-- the first places of f hold the list, its last one first -/
def Arr (f : Int → Int) : List Int → Prop
  | [] => True
  | x :: r => f r.length = x ∧ Arr f r
theorem Arr_up {ω : Om} {k : Nat} {i z : Int} : ∀ {l : List Int}, (l.length : Int) ≤ i → Arr (ω k) l → Arr (up ω k i z k) l := by
  intro l
  induction l with
  | nil => intro _ _; trivial
  | cons x r ih =>
    intro hi h
    have hl : ((x :: r).length : Int) = r.length + 1 := by simp
    refine ⟨?_, ih (by omega) h.2⟩
    rw [up_i (by omega)]; exact h.1
theorem Arr_push {ω : Om} {k : Nat} {z : Int} {l : List Int} (h : Arr (ω k) l) : Arr (up ω k l.length z k) (z :: l) := ⟨up_s, Arr_up (Int.le_refl _) h⟩
theorem Arr_at {f : Int → Int} : ∀ {l : List Int} {i : Nat}, Arr f l → ∀ (h : i < l.length), f i = l[l.length - 1 - i]'(by omega) := by
  intro l
  induction l with
  | nil => intro i _ h; simp at h
  | cons x r ih =>
    intro i h hi
    by_cases e : i = r.length
    · subst e; simpa using h.1
    · have hi' : i < r.length := by simp at hi; omega
      rw [ih h.2 hi']
      have : (x :: r).length - 1 - i = (r.length - 1 - i) + 1 := by simp; omega
      simp only [this, List.getElem_cons_succ]
theorem Arr_ext {f g : Int → Int} : ∀ {l l' : List Int}, Arr f l → Arr g l' → l.length = l'.length → ((∀ i : Nat, i < l.length → f i = g i) ↔ l = l') := by
  intro l
  induction l with
  | nil => intro l' _ _ hl; cases l' with
    | nil => simp
    | cons _ _ => simp at hl
  | cons x r ih =>
    intro l' h h' hl
    cases l' with
    | nil => simp at hl
    | cons y s =>
      have hl' : r.length = s.length := by simpa using hl
      have hi := ih h.2 h'.2 hl'
      constructor
      · intro q
        have e1 : x = y := by
          have := q r.length (by simp)
          rw [h.1] at this
          rw [this, hl']; exact h'.1
        rw [e1, hi.mp (fun i hi' => q i (by simp; omega))]
      · rintro e
        cases e
        intro i hi'
        by_cases e : i = r.length
        · subst e; rw [h.1, h'.1]
        · exact hi.mpr rfl i (by simp at hi'; omega)
/-- events (the last one first, each 4 times its number and its kind), the bodies that run (the last one first; body, class, place), how many at most -/
abbrev TS : Type := List Int × List (Int × Int × Int) × Int
def useT (τ : Om) (s : TS) (h f : Int) : TS := ((if hb τ (nrS τ h f) f = -1 then 4 * f + 3 else 4 * hb τ (nrS τ h f) f + 2) :: s.1, s.2)
def meetT (τ : Om) (s : TS) (h m : Int) : TS :=
  if hb τ h m = -1 then ((4 * m + 3) :: s.1, s.2)
  else if (s.2.1.any fun x => x.1 == hb τ h m) = true then ((4 * hb τ h m + 1) :: s.1, s.2)
  else ((4 * hb τ h m + 0) :: s.1, (hb τ h m, h, 0) :: s.2.1, if s.2.2 < (s.2.1.length : Int) + 1 then (s.2.1.length : Int) + 1 else s.2.2)
def homT (τ : Om) (ty h it : Int) : Int := if 20 ≤ it then nrS τ (pr τ h) (it - 20) else if hds τ h it = 0 then nrS τ ty it else h
def stepT (τ : Om) (ty : Int) (s : TS) : TS := match s.2.1 with
  | [] => s
  | (b, h, p) :: r => if itA τ b p = -1 then (s.1, r, s.2.2) else if 6 ≤ itA τ b p ∧ itA τ b p < 12 then useT τ (s.1, (b, h, p + 1) :: r, s.2.2) h (itA τ b p) else meetT τ (s.1, (b, h, p + 1) :: r, s.2.2) (homT τ ty h (itA τ b p)) (itA τ b p % 20)
def runT (τ : Om) (ty : Int) : Nat → TS → TS
  | 0, s => s
  | f + 1, s => if s.2.1.isEmpty = true ∨ 60 ≤ s.1.length then s else runT τ ty f (stepT τ ty s)
def startT (τ : Om) (ty m : Int) : TS := meetT τ ([], [], -1) (nrS τ ty m) m
/-- the trace of a class and a method that it answers; none: it doesn't -/
def trT (τ : Om) (ty m : Int) : Option TS := if nrS τ ty m = -1 then none else some (runT τ ty 120 (startT τ ty m))
/-- a tree that can be -/
def WfT (τ : Om) : Prop := (0 ≤ τ 3 7 ∧ τ 3 7 ≤ 8) ∧ (0 ≤ τ 3 8 ∧ τ 3 8 ≤ 40) ∧ (∀ t, 0 ≤ t → t < τ 3 7 → -1 ≤ τ 12 t ∧ τ 12 t < t) ∧
  (∀ t m, 0 ≤ t → t < τ 3 7 → 0 ≤ m → m < 6 → -1 ≤ τ 14 (t * 12 + m) ∧ τ 14 (t * 12 + m) < τ 3 8) ∧ (∀ t m, 0 ≤ t → t < τ 3 7 → 6 ≤ m → m < 12 → -1 ≤ τ 14 (t * 12 + m) ∧ τ 14 (t * 12 + m) < 96) ∧
  (∀ t, 0 ≤ t → t < τ 3 7 → 0 ≤ τ 15 t ∧ τ 15 t < 64) ∧ (∀ t m, 0 ≤ t → t < τ 3 7 → 0 ≤ m → m < 6 → zb (τ 15 t) m = 1 → ¬ τ 14 (t * 12 + m) = -1) ∧
  (∀ b, 0 ≤ b → b < τ 3 8 → 0 ≤ τ 17 b ∧ τ 17 b ≤ 6) ∧ (∀ b k, 0 ≤ b → b < τ 3 8 → 0 ≤ k → k < τ 17 b → (0 ≤ τ 18 (b * 6 + k) ∧ τ 18 (b * 6 + k) < 12) ∨ (20 ≤ τ 18 (b * 6 + k) ∧ τ 18 (b * 6 + k) < 26)) ∧
  (∀ t, 0 ≤ t → t < τ 3 7 → τ 13 t = 0 ∨ τ 13 t = 1)
/-- the tracer's cells hold s, over the tree τ -/
def TR (τ ω : Om) (s : TS) : Prop := TE τ ω ∧ ω 4 7 = s.1.length ∧ Arr (ω 19) s.1 ∧ ω 4 6 = s.2.1.length ∧ Arr (ω 20) (s.2.1.map (·.1)) ∧ Arr (ω 21) (s.2.1.map (·.2.1)) ∧ Arr (ω 22) (s.2.1.map (·.2.2)) ∧ ω 4 8 = s.2.2 ∧
  ∀ c : Nat, c < 64 → tbL (ω 4 5) c = s.2.1.any (fun x => x.1 == (c : Int))
def TW (s : TS) : Prop := (∀ x ∈ s.2.1, 0 ≤ x.1 ∧ x.1 < 40 ∧ 0 ≤ x.2.2 ∧ x.2.2 ≤ 6) ∧ (s.2.1.map (·.1)).Nodup ∧ (-1 ≤ s.2.2 ∧ s.2.2 ≤ 60) ∧ s.2.1.length ≤ s.1.length ∧ s.1.length ≤ 60
theorem pigeon : ∀ (n : Nat) (l : List Int), l.Nodup → (∀ x ∈ l, 0 ≤ x ∧ x < n) → l.length ≤ n := by
  intro n
  induction n with
  | zero =>
    intro l _ h
    cases l with
    | nil => simp
    | cons x r => have := h x List.mem_cons_self; omega
  | succ n ih =>
    intro l hn h
    by_cases hm : (n : Int) ∈ l
    · have h1 := ih (l.erase n) (hn.erase _) (fun x hx => by
        have h2 := (hn.mem_erase_iff).mp hx
        have h3 := h x h2.2
        have h4 := h2.1
        constructor
        · omega
        · have : x ≠ (n : Int) := h4
          omega)
      rw [List.length_erase_of_mem hm] at h1
      omega
    · have h1 := ih l hn (fun x hx => by
        have h3 := h x hx
        have : x ≠ (n : Int) := fun e => hm (e ▸ hx)
        omega)
      omega
theorem J_ldc2z {X : Cx} {A : Nat → Prop} {own : String} {cc : ByteArray} {nL : Nat} {P : PT} {pc : Nat} {lv : List (Option MV)} {st : List MV} {ω : Om} {index : Nat} {v : Int64} (z : Int) (hw : Cond.constantLong own index v ∈ gTbl) (hz : v.toInt = z) (hd : decode cc pc = .ok (.ldc2_w index, 3)) (k : J X A own cc nL P (pc + 3) lv (vL z :: st) ω) : J X A own cc nL P pc lv st ω := by
  subst hz; exact J_ldc2 hw hd k
theorem J_ldcwz {X : Cx} {A : Nat → Prop} {own : String} {cc : ByteArray} {nL : Nat} {P : PT} {pc : Nat} {lv : List (Option MV)} {st : List MV} {ω : Om} {index : Nat} {v : Int32} (z : Int) (hw : Cond.constant own index v ∈ gTbl) (hz : v.toInt = z) (hd : decode cc pc = .ok (.ldc_w index, 3)) (k : J X A own cc nL P (pc + 3) lv (vI z :: st) ω) : J X A own cc nL P pc lv st ω := by
  subst hz; exact J_ldcw hw hd k
