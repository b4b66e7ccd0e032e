/-! bits of 32-bit words -/
theorem amtI : ∀ b : Fin 32, (((Int32.ofInt (b.val : Int) &&& 31).toBitVec.smod 32).toNat = b.val) := by decide +kernel
theorem zShr_bv (x : Int) {b : Nat} (hb : b < 32) : (Int32.ofInt (zShr x b)).toBitVec = (Int32.ofInt x).toBitVec.sshiftRight b := by
  have h := amtI ⟨b, hb⟩
  unfold zShr
  rw [Int32.ofInt_toInt]
  show ((Int32.ofInt x).toBitVec.sshiftRight' ((Int32.ofInt (b : Int) &&& 31).toBitVec.smod 32)) = _
  unfold BitVec.sshiftRight'
  rw [h]
theorem zShl_bv (x : Int) {b : Nat} (hb : b < 32) : (Int32.ofInt (zShl x b)).toBitVec = (Int32.ofInt x).toBitVec <<< b := by
  have h := amtI ⟨b, hb⟩
  unfold zShl
  rw [Int32.ofInt_toInt]
  show (Int32.ofInt x).toBitVec <<< ((Int32.ofInt (b : Int) &&& 31).toBitVec.smod 32) = _
  rw [BitVec.shiftLeft_eq', h]
theorem zAnd_bv (x y : Int) : (Int32.ofInt (zAnd x y)).toBitVec = (Int32.ofInt x).toBitVec &&& (Int32.ofInt y).toBitVec := by
  unfold zAnd; rw [Int32.ofInt_toInt]; rfl
theorem zOr_bv (x y : Int) : (Int32.ofInt (zOr x y)).toBitVec = (Int32.ofInt x).toBitVec ||| (Int32.ofInt y).toBitVec := by
  unfold zOr; rw [Int32.ofInt_toInt]; rfl
theorem bw1 (i : Nat) : (Int32.ofInt 1).toBitVec.getLsbD i = decide (i = 0) := by
  show (1#32).getLsbD i = _
  by_cases h : i = 0
  · subst h; rfl
  · simp [h]
def tbI (x : Int) (b : Nat) : Bool := (Int32.ofInt x).toBitVec.getLsbD b
theorem bwz {x : Int} (hx : InR x) : x = 0 ↔ ∀ i, i < 32 → (Int32.ofInt x).toBitVec.getLsbD i = false := by
  constructor
  · rintro rfl i _; show (0#32).getLsbD i = _; simp
  · intro h
    have e : (Int32.ofInt x).toBitVec = 0#32 := by
      apply BitVec.eq_of_getLsbD_eq
      intro i hi
      rw [h i hi]; simp
    have e2 : Int32.ofInt x = 0 := Int32.toBitVec_inj.mp e
    have e3 := congrArg Int32.toInt e2
    rw [i32_of hx] at e3
    exact e3
theorem zb_tb (x : Int) {b : Nat} (hb : b < 32) : zb x b = 0 ↔ tbI x b = false := by
  unfold zb
  rw [bwz (show InR (zAnd (zShr x b) 1) from i32_R _)]
  unfold tbI
  constructor
  · intro h
    have := h 0 (by omega)
    rw [zAnd_bv, zShr_bv x hb, BitVec.getLsbD_and, bw1, BitVec.getLsbD_sshiftRight] at this
    simpa [hb] using this
  · intro h i hi
    rw [zAnd_bv, zShr_bv x hb, BitVec.getLsbD_and, bw1, BitVec.getLsbD_sshiftRight]
    by_cases h0 : i = 0
    · subst h0; rw [if_pos (show b + 0 < 32 by omega), Nat.add_zero, h]; simp
    · simp [h0]
theorem tbI_or (x : Int) {b c : Nat} (hb : b < 32) (hc : c < 32) : tbI (zOr x (zShl 1 b)) c = (tbI x c || decide (c = b)) := by
  unfold tbI
  rw [zOr_bv, zShl_bv 1 hb, BitVec.getLsbD_or, BitVec.getLsbD_shiftLeft, bw1]
  by_cases h : c = b
  · subst h; simp [hc]
  · have : (decide (c < 32) && !decide (c < b) && decide (c - b = 0)) = false := by
      simp only [Bool.and_eq_false_iff, Bool.not_eq_false', decide_eq_true_eq, decide_eq_false_iff_not]
      omega
    rw [this]; simp [h]
theorem zb_or {x b c : Int} (hb : 0 ≤ b ∧ b < 32) (hc : 0 ≤ c ∧ c < 32) : zb (zOr x (zShl 1 b)) c = if c = b then 1 else zb x c := by
  have eb : b = ((b.toNat : Nat) : Int) := by omega
  have ec : c = ((c.toNat : Nat) : Int) := by omega
  have h1 := zb_tb (zOr x (zShl 1 b)) (b := c.toNat) (by omega)
  have h2 := zb_tb x (b := c.toNat) (by omega)
  have h3 := tbI_or x (b := b.toNat) (c := c.toNat) (by omega) (by omega)
  rw [← eb] at h3
  rw [← ec] at h1 h2
  rw [h3] at h1
  by_cases e : c = b
  · rw [if_pos e]
    have : ¬ zb (zOr x (zShl 1 b)) c = 0 := by rw [h1]; simp; omega
    rcases zb01 (zOr x (zShl 1 b)) c with q | q
    · exact absurd q this
    · exact q
  · rw [if_neg e]
    have en : decide (c.toNat = b.toNat) = false := by simp; omega
    rw [en, Bool.or_false] at h1
    rcases zb01 (zOr x (zShl 1 b)) c with q | q <;> rcases zb01 x c with w | w
    · omega
    · exfalso; have := h2.mpr (h1.mp q); omega
    · exfalso; have := h1.mpr (h2.mp w); omega
    · omega
/-! a class read from its letters -/
/-- the stage, the parent, what was told (the last one first), its bits, the hidden ones' bits, each one's items (the last one first) -/
abbrev RS : Type := Int × Int × List Int × Int × Int × (Int → List Int)
def memS (c : Int) : Int := if 97 ≤ c ∧ c ≤ 102 then c - 97 else if 117 ≤ c ∧ c ≤ 122 then c - 117 + 6 else -1
def lastS (s : RS) : Int := match s.2.2.1 with
  | [] => -1
  | x :: _ => x
def setI (f : Int → List Int) (m : Int) (l : List Int) : Int → List Int := fun k => if k = m then l else f k
def membS (c : Int) (s : RS) : Option RS :=
  if memS c = -1 then none else if zb s.2.2.2.1 (memS c) = 1 then none
  else some (if memS c < 6 then 5 else 4, s.2.1, memS c :: s.2.2.1, zOr s.2.2.2.1 (zShl 1 (memS c)), s.2.2.2.2.1, setI s.2.2.2.2.2 (memS c) [])
def goS (s : RS) (st : Int) : RS := (st, s.2)
def addS (s : RS) (it : Int) : RS := (7, s.2.1, s.2.2.1, s.2.2.2.1, s.2.2.2.2.1, setI s.2.2.2.2.2 (lastS s) (it :: s.2.2.2.2.2 (lastS s)))
def behS (c : Int) (s : RS) : Option RS := if c = 40 then some (goS s 7) else membS c s
def itmS (c : Int) (s : RS) : Option RS :=
  if c = 41 then (if s.2.2.2.2.2 (lastS s) = [] then none else some (goS s 4))
  else if 6 ≤ (s.2.2.2.2.2 (lastS s)).length then none
  else if c = 94 then some (goS s 8)
  else if memS c = -1 then none else some (addS s (memS c))
def askS (c : Int) (s : RS) : Option RS := if 0 ≤ memS c ∧ memS c < 6 then some (addS s (20 + memS c)) else none
/-- the next letter taken; none: no class has it there -/
def rdS (n c : Int) (s : RS) : Option RS :=
  if s.1 = 0 then (if c = 65 + n then some (goS s 1) else none)
  else if s.1 = 1 then (if c = 58 then some (goS s 4) else if c = 60 ∧ 0 < n then some (goS s 2) else none)
  else if s.1 = 2 then (if 0 ≤ c - 65 ∧ c - 65 < n then some (3, c - 65, s.2.2) else none)
  else if s.1 = 3 then (if c = 58 then some (goS s 4) else none)
  else if s.1 = 4 then membS c s
  else if s.1 = 5 then (if c = 45 then some (6, s.2.1, s.2.2.1, s.2.2.2.1, zOr s.2.2.2.2.1 (zShl 1 (lastS s)), s.2.2.2.2.2) else behS c s)
  else if s.1 = 6 then behS c s
  else if s.1 = 7 then itmS c s
  else askS c s
def rd0 : RS := (0, -1, [], 0, 0, fun _ => [])
/-- k letters from place i on: where it stops, and what was told (none: a letter wasn't taken) -/
def rdF (f : Int → Int) (n : Int) : Nat → Nat → RS → Int × Option RS
  | 0, i, s => ((i : Int), some s)
  | k + 1, i, s => match rdS n (f i) s with
    | none => ((i : Int), none)
    | some s' => rdF f n k (i + 1) s'
def okIt (it : Int) : Prop := (0 ≤ it ∧ it < 12) ∨ (20 ≤ it ∧ it < 26)
/-- what is always so while a class is read -/
def RW (n : Int) (s : RS) : Prop := (0 ≤ s.1 ∧ s.1 ≤ 8) ∧ (-1 ≤ s.2.1 ∧ (s.2.1 < n ∨ s.2.1 = -1)) ∧ s.2.2.1.Nodup ∧ (∀ m ∈ s.2.2.1, 0 ≤ m ∧ m < 12) ∧ (∀ m, 0 ≤ m → m < 12 → zb s.2.2.2.1 m = if m ∈ s.2.2.1 then 1 else 0) ∧
  (5 ≤ s.1 → ∃ r l, s.2.2.1 = r :: l ∧ r < 6) ∧ (∀ m ∈ s.2.2.1, (s.2.2.2.2.2 m).length ≤ 6) ∧ (s.1 = 8 → (s.2.2.2.2.2 (lastS s)).length < 6) ∧ (∀ m ∈ s.2.2.1, ∀ it ∈ s.2.2.2.2.2 m, okIt it) ∧ InR s.2.2.2.1 ∧ (0 ≤ s.2.2.2.2.1 ∧ s.2.2.2.2.1 < 64) ∧
  (∀ m, 0 ≤ m → m < 12 → zb s.2.2.2.2.1 m = 1 → m ∈ s.2.2.1 ∧ m < 6)
theorem memS_R (c : Int) : -1 ≤ memS c ∧ memS c < 12 := by unfold memS; split <;> (try split) <;> omega
theorem RW_go {n : Int} {s : RS} {st : Int} (h : RW n s) (h1 : 0 ≤ st ∧ st ≤ 8) (h5 : 5 ≤ st → 5 ≤ s.1) (h8 : st = 8 → (s.2.2.2.2.2 (lastS s)).length < 6) : RW n (goS s st) :=
  ⟨h1, h.2.1, h.2.2.1, h.2.2.2.1, h.2.2.2.2.1, fun q => h.2.2.2.2.2.1 (h5 q), h.2.2.2.2.2.2.1, h8, h.2.2.2.2.2.2.2.2⟩
theorem z64_or {x m : Int} (hx : 0 ≤ x ∧ x < 64) (hm : 0 ≤ m ∧ m < 6) : 0 ≤ zOr x (zShl 1 m) ∧ zOr x (zShl 1 m) < 64 := by
  have h := (zset_fin hx (m := m) (by omega) (b := 1) (Or.inr ⟨rfl, hm.2⟩)).1
  unfold zset at h
  rw [if_neg (by decide)] at h
  exact h
theorem RW_memb {n c : Int} {s s' : RS} (h : RW n s) (e : membS c s = some s') : RW n s' := by
  have hR := memS_R c
  unfold membS at e
  split at e
  · cases e
  · split at e
    · cases e
    · rename_i h1 h2
      cases e
      obtain ⟨a1, a2, a3, a4, a5, a6, a7, a8, a9, a10, a11, a12⟩ := h
      clear a6 a8
      have hz := a5 (memS c) (by omega) (by omega)
      have hn : memS c ∉ s.2.2.1 := fun q => h2 (by rw [hz, if_pos q])
      refine ⟨by simp only; split <;> omega, a2, List.nodup_cons.mpr ⟨hn, a3⟩, fun m hm => ?_, fun m m0 m1 => ?_, fun q => ?_, fun m hm => ?_, fun q => ?_, fun m hm => ?_, i32_R _, a11, fun m m0 m1 q => ?_⟩
      · rcases List.mem_cons.mp hm with rfl | hm
        · omega
        · exact a4 m hm
      · simp only
        rw [zb_or (by omega) (by omega), a5 m m0 m1]
        by_cases e : m = memS c
        · subst e; simp
        · simp [e]
      · refine ⟨memS c, s.2.2.1, rfl, ?_⟩
        simp only at q
        split at q <;> omega
      · simp only [setI]
        split
        · simp
        · rcases List.mem_cons.mp hm with hm | hm
          · rename_i g; exact absurd hm g
          · exact a7 m hm
      · simp only at q; split at q <;> omega
      · simp only [setI]
        split
        · intro it hi; cases hi
        · rcases List.mem_cons.mp hm with hm | hm
          · rename_i g; exact absurd hm g
          · exact a9 m hm
      · have := a12 m m0 m1 q; exact ⟨List.mem_cons_of_mem _ this.1, this.2⟩
theorem RW_add {n it : Int} {s : RS} (h : RW n s) (h5 : 5 ≤ s.1) (hl : (s.2.2.2.2.2 (lastS s)).length < 6) (hi : okIt it) : RW n (addS s it) := by
  obtain ⟨a1, a2, a3, a4, a5, a6, a7, a8, a9, a10, a11, a12⟩ := h
  obtain ⟨r, l, e1, e2⟩ := a6 h5
  refine ⟨⟨by simp [addS], by simp [addS]⟩, a2, a3, a4, a5, fun _ => ⟨r, l, e1, e2⟩, fun m hm => ?_, fun q => by simp [addS] at q, fun m hm => ?_, a10, a11, a12⟩
  · simp only [addS, setI]
    split
    · simp; omega
    · exact a7 m hm
  · simp only [addS, setI]
    split
    · intro x hx
      rename_i g
      rcases List.mem_cons.mp hx with rfl | hx
      · exact hi
      · exact a9 m hm x (by rw [g]; exact hx)
    · exact a9 m hm
theorem RW_beh {n c : Int} {s s' : RS} (h : RW n s) (h5 : 5 ≤ s.1) (e : behS c s = some s') : RW n s' := by
  unfold behS at e
  split at e
  · cases e; exact RW_go h (by omega) (fun _ => h5) (fun q => by omega)
  · exact RW_memb h e
theorem RW_step {n c : Int} {s s' : RS} (h : RW n s) (e : rdS n c s = some s') : RW n s' := by
  have hR := memS_R c
  unfold rdS at e
  split at e
  · split at e
    · cases e; exact RW_go h (by omega) (fun q => by omega) (fun q => by omega)
    · cases e
  · split at e
    · split at e
      · cases e; exact RW_go h (by omega) (fun q => by omega) (fun q => by omega)
      · split at e
        · cases e; exact RW_go h (by omega) (fun q => by omega) (fun q => by omega)
        · cases e
    · split at e
      · split at e
        · cases e
          obtain ⟨a1, a2, a3, a4, a5, a6, a7, a8, a9, a10, a11, a12⟩ := h
          exact ⟨⟨by simp, by simp⟩, ⟨by simp only; omega, Or.inl (by simp only; omega)⟩, a3, a4, a5, fun q => by simp at q, a7, fun q => by simp at q, a9, a10, a11, a12⟩
        · cases e
      · split at e
        · split at e
          · cases e; exact RW_go h (by omega) (fun q => by omega) (fun q => by omega)
          · cases e
        · split at e
          · exact RW_memb h e
          · split at e
            · split at e
              · cases e
                obtain ⟨a1, a2, a3, a4, a5, a6, a7, a8, a9, a10, a11, a12⟩ := h
                obtain ⟨r, l, e1, e2⟩ := a6 (by omega)
                have hr := a4 r (by rw [e1]; exact List.mem_cons_self)
                have el : lastS s = r := by unfold lastS; rw [e1]
                refine ⟨⟨by simp, by simp⟩, a2, a3, a4, a5, fun _ => ⟨r, l, e1, e2⟩, a7, fun q => by simp at q, a9, a10, ?_, fun m m0 m1 q => ?_⟩
                · simp only; rw [el]; exact z64_or a11 (by omega)
                · simp only at q
                  rw [el, zb_or (by omega) (by omega)] at q
                  by_cases em : m = r
                  · subst em; exact ⟨by rw [e1]; exact List.mem_cons_self, e2⟩
                  · rw [if_neg em] at q; exact a12 m m0 m1 q
              · exact RW_beh h (by omega) e
            · split at e
              · exact RW_beh h (by omega) e
              · split at e
                · rename_i h7
                  unfold itmS at e
                  split at e
                  · split at e
                    · cases e
                    · cases e; exact RW_go h (by omega) (fun q => by omega) (fun q => by omega)
                  · split at e
                    · cases e
                    · split at e
                      · cases e; exact RW_go h (by omega) (fun q => by omega) (fun q => by omega)
                      · split at e
                        · cases e
                        · cases e; exact RW_add h (by omega) (by omega) (Or.inl (by omega))
                · unfold askS at e
                  split at e
                  · cases e
                    have h1 := h.1
                    exact RW_add h (by omega) (h.2.2.2.2.2.2.2.1 (by omega)) (Or.inr (by omega))
                  · cases e
theorem RW_0 (n : Int) : RW n rd0 := ⟨⟨by decide, by decide⟩, ⟨by decide, Or.inr rfl⟩, List.nodup_nil, fun _ h => absurd h List.not_mem_nil, fun m m0 m1 => by
  have := zb_tb 0 (b := m.toNat) (by omega)
  rw [show ((m.toNat : Nat) : Int) = m from by omega] at this
  have t0 : tbI 0 m.toNat = false := by unfold tbI; show (0#32).getLsbD _ = _; simp
  rw [show rd0.2.2.2.1 = 0 from rfl, this.mpr t0]; simp [rd0], fun q => absurd q (by decide), fun _ h => absurd h List.not_mem_nil, fun q => absurd q (by decide), fun _ h => absurd h List.not_mem_nil, ⟨by decide, by decide⟩, ⟨by decide, by decide⟩, fun m m0 m1 q => by
  have := zb_tb 0 (b := m.toNat) (by omega)
  rw [show ((m.toNat : Nat) : Int) = m from by omega] at this
  have t0 : tbI 0 m.toNat = false := by unfold tbI; show (0#32).getLsbD _ = _; simp
  rw [show rd0.2.2.2.2.1 = 0 from rfl, this.mpr t0] at q; omega⟩
