/-! counting the bits of a long -/
def rep (p : Nat) : Nat → Nat
  | 0 => 0
  | k + 1 => 256 * rep p k + p
theorem land_split (a b c d : Nat) (hb : b < 256) (hd : d < 256) : (256 * a + b) &&& (256 * c + d) = 256 * (a &&& c) + (b &&& d) := by
  have h1 : ((256 * a + b) &&& (256 * c + d)) / 2 ^ 8 = (256 * a + b) / 2 ^ 8 &&& (256 * c + d) / 2 ^ 8 := Nat.and_div_two_pow
  have h2 : ((256 * a + b) &&& (256 * c + d)) % 2 ^ 8 = ((256 * a + b) % 2 ^ 8) &&& ((256 * c + d) % 2 ^ 8) := Nat.and_mod_two_pow
  rw [show (256 * a + b) / 2 ^ 8 = a from by omega, show (256 * c + d) / 2 ^ 8 = c from by omega] at h1
  rw [show (256 * a + b) % 2 ^ 8 = b from by omega, show (256 * c + d) % 2 ^ 8 = d from by omega] at h2
  have h3 := Nat.div_add_mod ((256 * a + b) &&& (256 * c + d)) (2 ^ 8)
  rw [h1, h2] at h3
  omega
def s1 (k n : Nat) : Nat := n - ((n / 2) &&& rep 85 k)
def s2 (k n : Nat) : Nat := (n &&& rep 51 k) + ((n / 4) &&& rep 51 k)
def s3 (k n : Nat) : Nat := (n + n / 16) &&& rep 15 k
theorem t1 : ∀ x : Fin 2, ∀ y : Fin 128, (128 * x.val + y.val) &&& 85 = y.val &&& 85 := by decide +kernel
theorem t2 : ∀ x : Fin 4, ∀ y : Fin 64, (64 * x.val + y.val) &&& 51 = y.val &&& 51 := by decide +kernel
theorem t3 : ∀ l : Fin 256, (l.val / 2) &&& 85 ≤ l.val ∧ (let a := l.val - ((l.val / 2) &&& 85); a < 256 ∧ ((a &&& 51) + ((a / 4) &&& 51)) % 16 ≤ 4 ∧ ((a &&& 51) + ((a / 4) &&& 51)) / 16 ≤ 4) := by decide +kernel
theorem s1_le : ∀ (k n : Nat), (n / 2) &&& rep 85 k ≤ n := by
  intro k n
  have : (n / 2) &&& rep 85 k ≤ n / 2 := Nat.and_le_left
  omega
theorem s1_step (k h l : Nat) (hl : l < 256) : s1 (k + 1) (256 * h + l) = 256 * s1 k h + (l - ((l / 2) &&& 85)) := by
  unfold s1
  have e1 : (256 * h + l) / 2 = 256 * (h / 2) + (128 * (h % 2) + l / 2) := by omega
  have t := t1 ⟨h % 2, by omega⟩ ⟨l / 2, by omega⟩
  have q := t3 ⟨l, hl⟩
  have w := s1_le k h
  simp only [rep] at *
  rw [e1, land_split _ _ _ _ (by omega) (by omega), t]
  have := q.1
  omega
theorem s2_step (k h l : Nat) (hl : l < 256) : s2 (k + 1) (256 * h + l) = 256 * s2 k h + ((l &&& 51) + ((l / 4) &&& 51)) := by
  unfold s2
  have e1 : (256 * h + l) / 4 = 256 * (h / 4) + (64 * (h % 4) + l / 4) := by omega
  have t := t2 ⟨h % 4, by omega⟩ ⟨l / 4, by omega⟩
  simp only [rep] at *
  rw [e1, land_split h l (rep 51 k) 51 hl (by omega), land_split (h / 4) (64 * (h % 4) + l / 4) (rep 51 k) 51 (by omega) (by omega), t]
  omega
theorem s3_step (k h l : Nat) (hh : h % 16 ≤ 4) (h1 : l % 16 ≤ 4) (h2 : l / 16 ≤ 4) : s3 (k + 1) (256 * h + l) = 256 * s3 k h + (l + l / 16) % 16 := by
  unfold s3
  have e1 : 256 * h + l + (256 * h + l) / 16 = 256 * (h + h / 16) + (l + 16 * (h % 16) + l / 16) := by omega
  simp only [rep]
  rw [e1, land_split _ _ _ _ (by omega) (by omega)]
  have : (l + 16 * (h % 16) + l / 16) &&& 15 = (l + l / 16) % 16 := by
    have := Nat.and_two_pow_sub_one_eq_mod (l + 16 * (h % 16) + l / 16) 4
    rw [show 2 ^ 4 - 1 = 15 from rfl, show 2 ^ 4 = 16 from rfl] at this
    rw [this]; omega
  rw [this]
/-- the bits among the lowest k -/
def popB : Nat → Nat → Nat
  | 0, _ => 0
  | k + 1, n => n % 2 + popB k (n / 2)
theorem t4 : ∀ l : Fin 256, (let a := l.val - ((l.val / 2) &&& 85); let b := (a &&& 51) + ((a / 4) &&& 51); (b + b / 16) % 16 = popB 8 l.val) := by decide +kernel
theorem popB_le : ∀ k n, popB k n ≤ k := by
  intro k
  induction k with
  | zero => intro n; exact Nat.le_refl 0
  | succ k ih => intro n; simp only [popB]; have := ih (n / 2); omega
theorem popB_add : ∀ (a b n : Nat), popB (a + b) n = popB a n + popB b (n / 2 ^ a) := by
  intro a
  induction a with
  | zero => intro b n; simp [popB]
  | succ a ih =>
    intro b n
    rw [show a + 1 + b = (a + b) + 1 from by omega]
    simp only [popB]
    rw [ih, Nat.div_div_eq_div_mul, show 2 * 2 ^ a = 2 ^ (a + 1) from by rw [Nat.pow_succ]; omega]
    omega
theorem popB_mod : ∀ (k n m : Nat), popB k (n * 2 ^ k + m) = popB k m := by
  intro k
  induction k with
  | zero => intro n m; rfl
  | succ k ih =>
    intro n m
    simp only [popB]
    have e1 : (n * 2 ^ (k + 1) + m) % 2 = m % 2 := by rw [Nat.pow_succ, ← Nat.mul_assoc]; omega
    have e2 : (n * 2 ^ (k + 1) + m) / 2 = n * 2 ^ k + m / 2 := by rw [Nat.pow_succ, ← Nat.mul_assoc]; omega
    rw [e1, e2, ih]
/-- the bytes of n, each with its count of bits -/
def pb : Nat → Nat → Nat
  | 0, _ => 0
  | k + 1, n => 256 * pb k (n / 256) + popB 8 (n % 256)
theorem sss : ∀ (k n : Nat), n < 256 ^ k → s3 k (s2 k (s1 k n)) = pb k n ∧ s2 k (s1 k n) % 16 ≤ 4 := by
  intro k
  induction k with
  | zero => intro n hn; simp at hn; subst hn; exact ⟨rfl, by decide⟩
  | succ k ih =>
    intro n hn
    have hd : n / 256 < 256 ^ k := by rw [Nat.pow_succ] at hn; omega
    obtain ⟨i1, i2⟩ := ih (n / 256) hd
    have hl : n % 256 < 256 := Nat.mod_lt _ (by omega)
    have q := t3 ⟨n % 256, hl⟩
    have q4 := t4 ⟨n % 256, hl⟩
    simp only at q q4
    have en : n = 256 * (n / 256) + n % 256 := by omega
    have e1 : s1 (k + 1) n = 256 * s1 k (n / 256) + (n % 256 - ((n % 256 / 2) &&& 85)) := by
      rw [← s1_step k (n / 256) (n % 256) hl, ← en]
    rw [e1, s2_step _ _ _ q.2.1]
    refine ⟨?_, ?_⟩
    · rw [s3_step _ _ _ i2 q.2.2.1 q.2.2.2, i1, q4]; rfl
    · have := q.2.2.1; omega
theorem pb_pop : ∀ (k n : Nat), (∀ c, c = pb k n → True) := fun _ _ _ _ => trivial
theorem popB_byte (k n : Nat) : popB (8 * (k + 1)) n = popB 8 (n % 256) + popB (8 * k) (n / 256) := by
  rw [show 8 * (k + 1) = 8 + 8 * k from by omega, popB_add]
  have := popB_mod 8 (n / 256) (n % 256)
  rw [show n / 256 * 2 ^ 8 + n % 256 = n from by omega] at this
  rw [this, show (2 : Nat) ^ 8 = 256 from rfl]
theorem bc_fin (n : Nat) : (let c := pb 8 n; let d := c + c / 256; let e := d + d / 65536; (e + e / 4294967296) % 128) = popB 64 n ∧ pb 8 n < 2 ^ 60 := by
  have p := fun m => popB_le 8 m
  have e64 : popB 64 n = popB 8 (n % 256) + (popB 8 (n / 256 % 256) + (popB 8 (n / 256 / 256 % 256) + (popB 8 (n / 256 / 256 / 256 % 256) + (popB 8 (n / 256 / 256 / 256 / 256 % 256) + (popB 8 (n / 256 / 256 / 256 / 256 / 256 % 256) + (popB 8 (n / 256 / 256 / 256 / 256 / 256 / 256 % 256) + (popB 8 (n / 256 / 256 / 256 / 256 / 256 / 256 / 256 % 256) + 0))))))) := by
    rw [show (64 : Nat) = 8 * (7 + 1) from rfl, popB_byte, show 8 * 7 = 8 * (6 + 1) from rfl, popB_byte, show 8 * 6 = 8 * (5 + 1) from rfl, popB_byte, show 8 * 5 = 8 * (4 + 1) from rfl, popB_byte, show 8 * 4 = 8 * (3 + 1) from rfl, popB_byte, show 8 * 3 = 8 * (2 + 1) from rfl, popB_byte, show 8 * 2 = 8 * (1 + 1) from rfl, popB_byte, show 8 * 1 = 8 * (0 + 1) from rfl, popB_byte]
    rfl
  rw [e64]
  simp only [pb]
  have p0 := p (n % 256)
  have p1 := p (n / 256 % 256)
  have p2 := p (n / 256 / 256 % 256)
  have p3 := p (n / 256 / 256 / 256 % 256)
  have p4 := p (n / 256 / 256 / 256 / 256 % 256)
  have p5 := p (n / 256 / 256 / 256 / 256 / 256 % 256)
  have p6 := p (n / 256 / 256 / 256 / 256 / 256 / 256 % 256)
  have p7 := p (n / 256 / 256 / 256 / 256 / 256 / 256 / 256 % 256)
  generalize popB 8 (n % 256) = a0 at *
  generalize popB 8 (n / 256 % 256) = a1 at *
  generalize popB 8 (n / 256 / 256 % 256) = a2 at *
  generalize popB 8 (n / 256 / 256 / 256 % 256) = a3 at *
  generalize popB 8 (n / 256 / 256 / 256 / 256 % 256) = a4 at *
  generalize popB 8 (n / 256 / 256 / 256 / 256 / 256 % 256) = a5 at *
  generalize popB 8 (n / 256 / 256 / 256 / 256 / 256 / 256 % 256) = a6 at *
  generalize popB 8 (n / 256 / 256 / 256 / 256 / 256 / 256 / 256 % 256) = a7 at *
  clear e64 p
  have hc : 256 * (256 * (256 * (256 * (256 * (256 * (256 * (256 * 0 + a7) + a6) + a5) + a4) + a3) + a2) + a1) + a0 = a0 + 256 * a1 + 65536 * a2 + 16777216 * a3 + 4294967296 * a4 + 1099511627776 * a5 + 281474976710656 * a6 + 72057594037927936 * a7 := by omega
  rw [hc]
  have hq : (a0 + 256 * a1 + 65536 * a2 + 16777216 * a3 + 4294967296 * a4 + 1099511627776 * a5 + 281474976710656 * a6 + 72057594037927936 * a7) / 256 = a1 + 256 * a2 + 65536 * a3 + 16777216 * a4 + 4294967296 * a5 + 1099511627776 * a6 + 281474976710656 * a7 := by omega
  rw [hq]
  have hd : a0 + 256 * a1 + 65536 * a2 + 16777216 * a3 + 4294967296 * a4 + 1099511627776 * a5 + 281474976710656 * a6 + 72057594037927936 * a7 + (a1 + 256 * a2 + 65536 * a3 + 16777216 * a4 + 4294967296 * a5 + 1099511627776 * a6 + 281474976710656 * a7) = (a0 + a1) + 256 * (a1 + a2) + 65536 * (a2 + a3) + 16777216 * (a3 + a4) + 4294967296 * (a4 + a5) + 1099511627776 * (a5 + a6) + 281474976710656 * (a6 + a7) + 72057594037927936 * a7 := by omega
  rw [hd]
  generalize e0 : a0 + a1 = d0
  generalize e1 : a1 + a2 = d1
  generalize e2 : a2 + a3 = d2
  generalize e3 : a3 + a4 = d3
  generalize e4 : a4 + a5 = d4
  generalize e5 : a5 + a6 = d5
  generalize e6 : a6 + a7 = d6
  have hr : (d0 + 256 * d1 + 65536 * d2 + 16777216 * d3 + 4294967296 * d4 + 1099511627776 * d5 + 281474976710656 * d6 + 72057594037927936 * a7) / 65536 = d2 + 256 * d3 + 65536 * d4 + 16777216 * d5 + 4294967296 * d6 + 1099511627776 * a7 := by omega
  rw [hr]
  have hs : (d0 + 256 * d1 + 65536 * d2 + 16777216 * d3 + 4294967296 * d4 + 1099511627776 * d5 + 281474976710656 * d6 + 72057594037927936 * a7 + (d2 + 256 * d3 + 65536 * d4 + 16777216 * d5 + 4294967296 * d6 + 1099511627776 * a7)) / 4294967296 = (d4 + d6) + 256 * (d5 + a7) + 65536 * d6 + 16777216 * a7 := by omega
  rw [hs]
  omega
def nN (x : Int) : Nat := (Int64.ofInt x).toBitVec.toNat
theorem nN_lt (x : Int) : nN x < 2 ^ 64 := (Int64.ofInt x).toBitVec.isLt
theorem nN_and (x y : Int) : nN (lAnd x y) = nN x &&& nN y := by unfold nN; rw [lAnd_bv, BitVec.toNat_and]
theorem nN_add (x y : Int) : nN (lAdd x y) = (nN x + nN y) % 2 ^ 64 := by
  unfold nN lAdd; rw [Int64.ofInt_toInt]
  show ((Int64.ofInt x).toBitVec + (Int64.ofInt y).toBitVec).toNat = _
  rw [BitVec.toNat_add]
theorem nN_sub (x y : Int) : nN (lSub x y) = (2 ^ 64 - nN y + nN x) % 2 ^ 64 := by
  unfold nN lSub; rw [Int64.ofInt_toInt]
  show ((Int64.ofInt x).toBitVec - (Int64.ofInt y).toBitVec).toNat = _
  rw [BitVec.toNat_sub]
theorem amtU : ∀ k : Fin 64, (((Int32.ofInt (k.val : Int)).toInt64.toUInt64 &&& Int64.toUInt64 63).toBitVec % 64).toNat = k.val := by decide +kernel
theorem nN_ushr (x : Int) {z : Int} (k : Nat) (hz : z = (k : Int)) (hk : k < 64) : nN (lUshr x z) = nN x / 2 ^ k := by
  have h := amtU ⟨k, hk⟩
  subst hz
  unfold nN lUshr
  rw [Int64.ofInt_toInt]
  show ((Int64.ofInt x).toBitVec >>> (((Int32.ofInt (k : Int)).toInt64.toUInt64 &&& Int64.toUInt64 63).toBitVec % 64)).toNat = _
  rw [BitVec.ushiftRight_eq', BitVec.toNat_ushiftRight, h, Nat.shiftRight_eq_div_pow]
theorem l2i_127 (x : Int) : zAnd (l2i x) 127 = ((nN x % 128 : Nat) : Int) := by
  obtain ⟨j, h1, h2⟩ := pk_andE (Int32.ofInt (l2i x)) (m := 127) 7 (by decide)
  have e0 : (Int32.ofInt (l2i x)).toBitVec = (Int64.ofInt x).toBitVec.signExtend 32 := by unfold l2i; rw [Int32.ofInt_toInt]; rfl
  have hn : (Int32.ofInt (l2i x) &&& 127).toBitVec.toNat = (nI j).toBitVec.toNat := by rw [h2]
  have e1 : (Int32.ofInt (l2i x) &&& 127).toBitVec.toNat = nN x % 128 := by
    rw [show (Int32.ofInt (l2i x) &&& 127).toBitVec = (Int32.ofInt (l2i x)).toBitVec &&& (127 : Int32).toBitVec from rfl, BitVec.toNat_and, e0, BitVec.signExtend_eq_setWidth_of_le _ (by decide), BitVec.toNat_setWidth]
    have := Nat.and_two_pow_sub_one_eq_mod (nN x % 2 ^ 32) 7
    rw [show (127 : Int32).toBitVec.toNat = 2 ^ 7 - 1 from rfl]
    unfold nN at this ⊢
    rw [this]; omega
  rw [e1, pk_tn (by omega)] at hn
  unfold zAnd
  rw [show Int32.ofInt 127 = 127 from rfl, h2, nI_toInt (by omega), hn]
def bcL (x : Int) : Int :=
  let a := lSub x (lAnd (lUshr x 1) 6148914691236517205)
  let b := lAdd (lAnd a 3689348814741910323) (lAnd (lUshr a 2) 3689348814741910323)
  let c := lAnd (lAdd b (lUshr b 4)) 1085102592571150095
  let d := lAdd c (lUshr c 8)
  let e := lAdd d (lUshr d 16)
  let f := lAdd e (lUshr e 32)
  zAnd (l2i f) 127
theorem m85 : nN 6148914691236517205 = rep 85 8 := by decide +kernel
theorem m51 : nN 3689348814741910323 = rep 51 8 := by decide +kernel
theorem m15 : nN 1085102592571150095 = rep 15 8 := by decide +kernel
theorem bcL_pop (x : Int) : bcL x = (popB 64 (nN x) : Int) := by
  have hx := nN_lt x
  obtain ⟨q1, q2⟩ := sss 8 (nN x) (by rw [show (256 : Nat) ^ 8 = 2 ^ 64 from rfl]; exact hx)
  obtain ⟨f1, f2⟩ := bc_fin (nN x)
  have r51 : rep 51 8 < 2 ^ 62 := by decide +kernel
  unfold bcL
  simp only
  rw [l2i_127]
  have ea : nN (lSub x (lAnd (lUshr x 1) 6148914691236517205)) = s1 8 (nN x) := by
    rw [nN_sub, nN_and, nN_ushr x (z := 1) 1 rfl (by omega), m85]
    unfold s1
    have := s1_le 8 (nN x)
    rw [show (2 : Nat) ^ 1 = 2 from rfl]
    omega
  have eb : nN (lAdd (lAnd (lSub x (lAnd (lUshr x 1) 6148914691236517205)) 3689348814741910323) (lAnd (lUshr (lSub x (lAnd (lUshr x 1) 6148914691236517205)) 2) 3689348814741910323)) = s2 8 (s1 8 (nN x)) := by
    rw [nN_add, nN_and, nN_and, nN_ushr _ (z := 2) 2 rfl (by omega), ea, m51]
    unfold s2
    have a1 : s1 8 (nN x) &&& rep 51 8 ≤ rep 51 8 := Nat.and_le_right
    have a2 : s1 8 (nN x) / 4 &&& rep 51 8 ≤ rep 51 8 := Nat.and_le_right
    rw [show (2 : Nat) ^ 2 = 4 from rfl]
    omega
  have hb : s2 8 (s1 8 (nN x)) < 2 ^ 63 := by
    unfold s2
    have a1 : s1 8 (nN x) &&& rep 51 8 ≤ rep 51 8 := Nat.and_le_right
    have a2 : s1 8 (nN x) / 4 &&& rep 51 8 ≤ rep 51 8 := Nat.and_le_right
    omega
  generalize lAdd (lAnd (lSub x (lAnd (lUshr x 1) 6148914691236517205)) 3689348814741910323) (lAnd (lUshr (lSub x (lAnd (lUshr x 1) 6148914691236517205)) 2) 3689348814741910323) = b at eb ⊢
  have ec : nN (lAnd (lAdd b (lUshr b 4)) 1085102592571150095) = pb 8 (nN x) := by
    rw [nN_and, nN_add, nN_ushr b (z := 4) 4 rfl (by omega), eb, m15, ← q1]
    unfold s3
    rw [show (2 : Nat) ^ 4 = 16 from rfl, Nat.mod_eq_of_lt (by omega)]
  generalize lAnd (lAdd b (lUshr b 4)) 1085102592571150095 = c at ec ⊢
  have ed : nN (lAdd c (lUshr c 8)) = pb 8 (nN x) + pb 8 (nN x) / 256 := by
    rw [nN_add, nN_ushr c (z := 8) 8 rfl (by omega), ec, show (2 : Nat) ^ 8 = 256 from rfl]; omega
  generalize lAdd c (lUshr c 8) = d at ed ⊢
  have ee : nN (lAdd d (lUshr d 16)) = nN d + nN d / 65536 := by
    rw [nN_add, nN_ushr d (z := 16) 16 rfl (by omega), show (2 : Nat) ^ 16 = 65536 from rfl]; omega
  generalize lAdd d (lUshr d 16) = e at ee ⊢
  have ef : nN (lAdd e (lUshr e 32)) = nN e + nN e / 4294967296 := by
    rw [nN_add, nN_ushr e (z := 32) 32 rfl (by omega), show (2 : Nat) ^ 32 = 4294967296 from rfl]; omega
  rw [ef, ee, ed]
  exact congrArg Int.ofNat f1
/-- how many of the first k p tells -/
def sumB (p : Nat → Bool) : Nat → Int
  | 0 => 0
  | k + 1 => sumB p k + if p k = true then 1 else 0
theorem sumB_shift (p : Nat → Bool) : ∀ k, sumB p (k + 1) = (if p 0 = true then 1 else 0) + sumB (fun i => p (i + 1)) k := by
  intro k
  induction k with
  | zero => simp [sumB]
  | succ k ih => rw [sumB, ih]; simp only [sumB]; omega
theorem pop_sum : ∀ (k n : Nat), (popB k n : Int) = sumB (fun i => n.testBit i) k := by
  intro k
  induction k with
  | zero => intro n; rfl
  | succ k ih =>
    intro n
    rw [sumB_shift]
    simp only [popB, Nat.testBit_add_one]
    rw [← ih (n / 2), Nat.testBit_zero]
    have : n % 2 = 0 ∨ n % 2 = 1 := by omega
    rcases this with h | h
    · rw [h]; simp
    · rw [h]; simp
theorem sumB_cg {p q : Nat → Bool} : ∀ k, (∀ i, i < k → p i = q i) → sumB p k = sumB q k := by
  intro k
  induction k with
  | zero => intro _; rfl
  | succ k ih => intro h; simp only [sumB]; rw [ih (fun i hi => h i (by omega)), h k (by omega)]
theorem sumB_none {p : Nat → Bool} : ∀ k m, (∀ i, k ≤ i → i < k + m → p i = false) → sumB p (k + m) = sumB p k := by
  intro k m
  induction m with
  | zero => intro _; rfl
  | succ m ih => intro h; rw [show k + (m + 1) = (k + m) + 1 from by omega]; simp only [sumB]; rw [ih (fun i a b => h i a (by omega)), if_neg (by rw [h (k + m) (by omega) (by omega)]; decide)]; omega
theorem bcL_sum (x : Int) : bcL x = sumB (fun i => tbL x i) 64 := by rw [bcL_pop, pop_sum]; rfl
theorem sumB_R (p : Nat → Bool) : ∀ k : Nat, 0 ≤ sumB p k ∧ sumB p k ≤ k := by
  intro k
  induction k with
  | zero => exact ⟨Int.le_refl 0, Int.le_refl 0⟩
  | succ k ih => simp only [sumB]; split <;> omega
