/-! bits -/
def tbL (x : Int) (b : Nat) : Bool := (Int64.ofInt x).toBitVec.getLsbD b
theorem amtL : ∀ b : Fin 64, ((((Int32.ofInt (b.val : Int)).toInt64 &&& 63).toBitVec.smod 64).toNat = b.val) := by decide +kernel
theorem lShr_bv (x : Int) {b : Nat} (hb : b < 64) : (Int64.ofInt (lShr x b)).toBitVec = (Int64.ofInt x).toBitVec.sshiftRight b := by
  have h := amtL ⟨b, hb⟩
  unfold lShr
  rw [Int64.ofInt_toInt]
  show ((Int64.ofInt x).toBitVec.sshiftRight' (((Int32.ofInt (b : Int)).toInt64 &&& 63).toBitVec.smod 64)) = _
  unfold BitVec.sshiftRight'
  rw [h]
theorem lShl_bv (x : Int) {b : Nat} (hb : b < 64) : (Int64.ofInt (lShl x b)).toBitVec = (Int64.ofInt x).toBitVec <<< b := by
  have h := amtL ⟨b, hb⟩
  unfold lShl
  rw [Int64.ofInt_toInt]
  show (Int64.ofInt x).toBitVec <<< (((Int32.ofInt (b : Int)).toInt64 &&& 63).toBitVec.smod 64) = _
  rw [BitVec.shiftLeft_eq', h]
theorem lAnd_bv (x y : Int) : (Int64.ofInt (lAnd x y)).toBitVec = (Int64.ofInt x).toBitVec &&& (Int64.ofInt y).toBitVec := by
  unfold lAnd; rw [Int64.ofInt_toInt]; rfl
theorem lOr_bv (x y : Int) : (Int64.ofInt (lOr x y)).toBitVec = (Int64.ofInt x).toBitVec ||| (Int64.ofInt y).toBitVec := by
  unfold lOr; rw [Int64.ofInt_toInt]; rfl
theorem lXor_bv (x y : Int) : (Int64.ofInt (lXor x y)).toBitVec = (Int64.ofInt x).toBitVec ^^^ (Int64.ofInt y).toBitVec := by
  unfold lXor; rw [Int64.ofInt_toInt]; rfl
theorem bv1 (i : Nat) : (Int64.ofInt 1).toBitVec.getLsbD i = decide (i = 0) := by
  show (1#64).getLsbD i = _
  by_cases h : i = 0
  · subst h; rfl
  · simp [h]
theorem bvm1 (i : Nat) : (Int64.ofInt (-1)).toBitVec.getLsbD i = decide (i < 64) := by
  have : (Int64.ofInt (-1)).toBitVec = BitVec.allOnes 64 := by decide
  rw [this, BitVec.getLsbD_allOnes]
theorem bvz {x : Int} (hx : InL x) : x = 0 ↔ ∀ i, i < 64 → (Int64.ofInt x).toBitVec.getLsbD i = false := by
  constructor
  · rintro rfl i _; show (0#64).getLsbD i = _; simp
  · intro h
    have e : (Int64.ofInt x).toBitVec = 0#64 := by
      apply BitVec.eq_of_getLsbD_eq
      intro i hi
      rw [h i hi]; simp
    have e2 : Int64.ofInt x = 0 := Int64.toBitVec_inj.mp e
    have e3 := congrArg Int64.toInt e2
    rw [i64_of hx] at e3
    exact e3
theorem bit_0 (x : Int) {b : Nat} (hb : b < 64) : lAnd (lShr x b) 1 = 0 ↔ tbL x b = false := by
  rw [bvz (show InL (lAnd (lShr x b) 1) from i64_L _)]
  unfold tbL
  constructor
  · intro h
    have := h 0 (by omega)
    rw [lAnd_bv, lShr_bv x hb, BitVec.getLsbD_and, bv1, BitVec.getLsbD_sshiftRight] at this
    simpa [hb] using this
  · intro h i hi
    rw [lAnd_bv, lShr_bv x hb, BitVec.getLsbD_and, bv1, BitVec.getLsbD_sshiftRight]
    by_cases h0 : i = 0
    · subst h0; rw [if_pos (show b + 0 < 64 by omega), Nat.add_zero, h]; simp
    · simp [h0]
theorem bit_or (x : Int) {b c : Nat} (hb : b < 64) (hc : c < 64) : tbL (lOr x (lShl 1 b)) c = (tbL x c || decide (c = b)) := by
  unfold tbL
  rw [lOr_bv, lShl_bv 1 hb, BitVec.getLsbD_or, BitVec.getLsbD_shiftLeft, bv1]
  by_cases h : c = b
  · subst h; simp [hc]
  · have : (decide (c < 64) && !decide (c < b) && decide (c - b = 0)) = false := by
      simp only [Bool.and_eq_false_iff, Bool.not_eq_false', decide_eq_true_eq, decide_eq_false_iff_not]
      omega
    rw [this]; simp [h]
theorem bit_clr (x : Int) {b c : Nat} (hb : b < 64) (hc : c < 64) : tbL (lAnd x (lXor (lShl 1 b) (-1))) c = (tbL x c && !decide (c = b)) := by
  unfold tbL
  rw [lAnd_bv, lXor_bv, lShl_bv 1 hb, BitVec.getLsbD_and, BitVec.getLsbD_xor, BitVec.getLsbD_shiftLeft, bv1, bvm1]
  by_cases h : c = b
  · subst h; simp [hc]
  · have : (decide (c < 64) && !decide (c < b) && decide (c - b = 0)) = false := by
      simp only [Bool.and_eq_false_iff, Bool.not_eq_false', decide_eq_true_eq, decide_eq_false_iff_not]
      omega
    rw [this]; simp [h, hc]
theorem bit_zero (c : Nat) : tbL 0 c = false := by
  unfold tbL; show (0#64).getLsbD c = _; simp
theorem lCmp0 {x : Int} : lCmp x 0 = 0 ↔ x = 0 := by
  unfold lCmp; split
  · constructor <;> intro h <;> omega
  · split
    · constructor <;> intro h <;> first | assumption | rfl
    · constructor <;> intro h <;> omega
/-! small words -/
theorem zAnd1 (x : Int) : zAnd x 1 = 0 ∨ zAnd x 1 = 1 := by
  unfold zAnd
  have h : ∀ v : BitVec 32, v &&& 1#32 = 0#32 ∨ v &&& 1#32 = 1#32 := by
    intro v
    by_cases h0 : v.getLsbD 0 = true
    · right
      apply BitVec.eq_of_getLsbD_eq
      intro i hi
      rw [BitVec.getLsbD_and]
      by_cases e : i = 0
      · subst e; simp [h0]
      · simp [e]
    · left
      apply BitVec.eq_of_getLsbD_eq
      intro i hi
      rw [BitVec.getLsbD_and]
      by_cases e : i = 0
      · subst e; simp at h0; simp [h0]
      · simp [e]
  rcases h (Int32.ofInt x).toBitVec with h | h
  · left; have : (Int32.ofInt x &&& Int32.ofInt 1) = 0 := Int32.toBitVec_inj.mp h
    rw [this]; rfl
  · right; have : (Int32.ofInt x &&& Int32.ofInt 1) = 1 := Int32.toBitVec_inj.mp h
    rw [this]; rfl
/-- bit m of a word, 1 or 0 -/
def zb (x m : Int) : Int := zAnd (zShr x m) 1
theorem zb01 (x m : Int) : zb x m = 0 ∨ zb x m = 1 := zAnd1 _
/-- bit m of a word set, or cleared -/
def zset (x m b : Int) : Int := if b = 0 then zAnd x (zXor (zShl 1 m) (-1)) else zOr x (zShl 1 m)
theorem zset_tab : ∀ x : Fin 64, ∀ m : Fin 12, (0 ≤ zset x.val m.val 0 ∧ zset x.val m.val 0 < 64) ∧ (m.val < 6 → 0 ≤ zset x.val m.val 1 ∧ zset x.val m.val 1 < 64) ∧ (∀ n : Fin 12, zb (zset x.val m.val 0) n.val = if n = m then 0 else zb x.val n.val) ∧ (∀ n : Fin 12, m.val < 6 → zb (zset x.val m.val 1) n.val = if n = m then 1 else zb x.val n.val) ∧ (m.val < 6 → zOr (zset x.val m.val 0) (zShl 1 m.val) = zset x.val m.val 1) := by decide +kernel
theorem z256_tab : ∀ x : Fin 256, ∀ m : Fin 8, (0 ≤ zOr x.val (zShl 1 m.val) ∧ zOr x.val (zShl 1 m.val) < 256) ∧ (∀ n : Fin 8, zb (zOr x.val (zShl 1 m.val)) n.val = if n = m then 1 else zb x.val n.val) := by decide +kernel
theorem zb_hi : ∀ x : Fin 64, ∀ m : Fin 12, 6 ≤ m.val → zb x.val m.val = 0 := by decide +kernel
