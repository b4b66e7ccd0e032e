/-! judgements of the small machine -/
def rmD (d : Nat) : Room := { frames := d + 1, cells := 0, slots := 0, locals := 40 * d + 12 }
def PcX (X : Cx) (as : List MV) (ω : Om) : Array Value → State → Prop := fun v U => v = (as.map (emb X)).toArray ∧ (∀ a ∈ as, RV a) ∧ ROm ω ∧ InjX X ∧ va_P X.2.1 vwCl (pic X ω) U.heap ∧ va_K X.2.1 vwCl (tysX X) U ∧ ∀ w ∈ nTbl, va_Nw w U
def QcX (X : Cx) (Q : Option MV → Om → Prop) : Array Value → State → Outcome → State → Prop := fun _ st oc t => ∃ (r : Option MV) (ω : Om), oc = .returned (r.map (emb X)) ∧ (∀ v, r = some v → RV v) ∧ ROm ω ∧ Q r ω ∧ va_P X.2.1 vwCl (pic X ω) t.heap ∧ va_F (AX X) st t
/-- the method's contract at these arguments and cells: it returns, and Q of its answer and the cells behind it -/
def Mc (X : Cx) (y : MD) (d : Nat) (as : List MV) (ω : Om) (Q : Option MV → Om → Prop) : Prop :=
  Met X.1 y.1 (cdw y :: gTbl) (rmD d) (PcX X as ω) (QcX X Q) 0 0 (AX X)
def Act (X : Cx) (A : Nat → Prop) (own : String) (cc : ByteArray) (nL : Nat) (p : Program) (s : State) (m : MethodId) (args : Array Value) (c : Code) : Prop :=
  p.tables.exec = Jvm.exec ∧ c.code = cc ∧ c.maxLocals = nL ∧ s.vm.findClass own = some m.cls ∧ (∀ w ∈ gTbl, w.before args s = true) ∧ (∀ w ∈ nTbl, va_Nw w s) ∧ va_K X.2.1 vwCl (tysX X) s ∧ InjX X ∧ ∀ k, k < 52 → A (X.2.2.1 k)
abbrev PT : Type := Program → Env → Room → State → MethodId → Array Value → List Frame → Method → Code → Nat → Nat → (State → Prop) → Prop
/-- from here on, at this place, with these locals, this stack, these cells: the machine comes to what is asked -/
def J (X : Cx) (A : Nat → Prop) (own : String) (cc : ByteArray) (nL : Nat) (P : PT) (pc : Nat) (lv : List (Option MV)) (st : List MV) (ω : Om) : Prop :=
  ∀ (p : Program) (e : Env) (R : Room) (s : State) (m : MethodId) (args : Array Value) (below : List Frame) (meth : Method) (c : Code) (cells slots : Nat) (Qm : State → Prop),
    Act X A own cc nL p s m args c → P p e R s m args below meth c cells slots Qm →
    ∀ (H : Heap) (locs : List Loc) (ls : Array Slot), (∀ v ∈ st, RV v) → (∀ v, some v ∈ lv → RV v) → ROm ω → va_P X.2.1 vwCl (pic X ω) H → va_S A s.heap H locs → lv_has ls nL (lvl X 0 lv) →
      W p X.1 e R s m args below meth c H locs cells slots Qm (F0 m pc ls (st.map (emb X)))
def Pm (X : Cx) (y : MD) (d : Nat) (Q : Option MV → Om → Prop) : PT := fun _ _ R s _ args below meth _ cells slots Qm => meth.sig.returnType = y.2.2.2 ∧ meth.locks = false ∧ R = rmD d ∧ cells = 0 ∧ slots = 0 ∧ Qm = MQ below (QcX X Q) args s 0 0 (AX X)
/-- inside a method -/
abbrev JM (X : Cx) (y : MD) (d : Nat) (Q : Option MV → Om → Prop) (pc : Nat) (lv : List (Option MV)) (st : List MV) (ω : Om) : Prop := J X (AX X) y.1.cls y.2.1 y.2.2.1 (Pm X y d Q) pc lv st ω
section JR
variable {X : Cx} {A : Nat → Prop} {own : String} {cc : ByteArray} {nL : Nat} {P : PT} {pc : Nat} {lv : List (Option MV)} {st : List MV} {ω : Om}
theorem i32_of {z : Int} (h : InR z) : (Int32.ofInt z).toInt = z := Int32.toInt_ofInt_of_le (by have := h.1; omega) (by have := h.2; omega)
theorem i64_of {z : Int} (h : InL z) : (Int64.ofInt z).toInt = z := Int64.toInt_ofInt_of_le (by have := h.1; omega) (by have := h.2; omega)
theorem i32_R (x : Int32) : InR x.toInt := ⟨by have := x.le_toInt; omega, by have := x.toInt_lt; omega⟩
theorem i64_L (x : Int64) : InL x.toInt := ⟨by have := x.le_toInt; omega, by have := x.toInt_lt; omega⟩
theorem i32_lt {x y : Int} (hx : InR x) (hy : InR y) : Int32.ofInt x < Int32.ofInt y ↔ x < y := by rw [Int32.lt_iff_toInt_lt, i32_of hx, i32_of hy]
theorem i32_le {x y : Int} (hx : InR x) (hy : InR y) : Int32.ofInt x ≤ Int32.ofInt y ↔ x ≤ y := by rw [Int32.le_iff_toInt_le, i32_of hx, i32_of hy]
theorem i32_eq {x y : Int} (hx : InR x) (hy : InR y) : Int32.ofInt x = Int32.ofInt y ↔ x = y := by rw [← Int32.toInt_inj, i32_of hx, i32_of hy]
theorem InR0 : InR 0 := ⟨by decide, by decide⟩
theorem i32_0 : Int32.ofInt 0 = 0 := by decide
theorem i32_toNat {z : Int} (h : InR z) : (Int32.ofInt z).toNatClampNeg = z.toNat := by rw [← Int32.toNat_toInt, i32_of h]
theorem st_c {v : MV} {r : List MV} (hv : RV v) (hr : ∀ w ∈ r, RV w) : ∀ w ∈ v :: r, RV w := fun w h => by
  rcases List.mem_cons.mp h with rfl | h
  · exact hv
  · exact hr w h
theorem st_t {v : MV} {r : List MV} (h : ∀ w ∈ v :: r, RV w) : ∀ w ∈ r, RV w := fun w hw => h w (List.mem_cons_of_mem _ hw)
theorem st_h {v : MV} {r : List MV} (h : ∀ w ∈ v :: r, RV w) : RV v := h v List.mem_cons_self
theorem lv_s {lv : List (Option MV)} {i : Nat} {v : MV} (hv : RV v) (h : ∀ w, some w ∈ lv → RV w) : ∀ w, some w ∈ lv.set i (some v) → RV w := fun w hw => by
  rcases List.mem_or_eq_of_mem_set hw with q | q
  · exact h w q
  · cases q; exact hv
theorem lv_s0 {lv : List (Option MV)} {i : Nat} (h : ∀ w, some w ∈ lv → RV w) : ∀ w, some w ∈ lv.set i none → RV w := fun w hw => by
  rcases List.mem_or_eq_of_mem_set hw with q | q
  · exact h w q
  · cases q
/-- what the cells hold is in range -/
theorem J_rng (k : ROm ω → J X A own cc nL P pc lv st ω) : J X A own cc nL P pc lv st ω :=
  fun p e R s m args below meth c cells slots Qm hA hP H locs ls h1 h2 h3 h4 h5 h6 => k h3 p e R s m args below meth c cells slots Qm hA hP H locs ls h1 h2 h3 h4 h5 h6
theorem J_rngS {v : MV} (k : RV v → J X A own cc nL P pc lv (v :: st) ω) : J X A own cc nL P pc lv (v :: st) ω :=
  fun p e R s m args below meth c cells slots Qm hA hP H locs ls h1 h2 h3 h4 h5 h6 => k (st_h h1) p e R s m args below meth c cells slots Qm hA hP H locs ls h1 h2 h3 h4 h5 h6
theorem J_rngL {v : MV} (hv : some v ∈ lv) (k : RV v → J X A own cc nL P pc lv st ω) : J X A own cc nL P pc lv st ω :=
  fun p e R s m args below meth c cells slots Qm hA hP H locs ls h1 h2 h3 h4 h5 h6 => k (h2 v hv) p e R s m args below meth c cells slots Qm hA hP H locs ls h1 h2 h3 h4 h5 h6
theorem J_iconst (n : Int) (hd : decode cc pc = .ok (.iconst n, 1)) (hr : InR n) (k : J X A own cc nL P (pc + 1) lv (vI n :: st) ω) : J X A own cc nL P pc lv st ω :=
  fun p e R s m args below meth c cells slots Qm hA hP H locs ls h1 h2 h3 h4 h5 h6 => lv_iconst hA.1 hA.2.1 hd rfl (k p e R s m args below meth c cells slots Qm hA hP H locs ls (st_c hr h1) h2 h3 h4 h5 h6)
theorem J_bipush (n : Int) (hd : decode cc pc = .ok (.bipush n, 2)) (hr : InR n) (hn : (Int8.ofInt n).toInt32 = Int32.ofInt n) (k : J X A own cc nL P (pc + 2) lv (vI n :: st) ω) : J X A own cc nL P pc lv st ω :=
  fun p e R s m args below meth c cells slots Qm hA hP H locs ls h1 h2 h3 h4 h5 h6 => lv_bipush hA.1 hA.2.1 hd hn (k p e R s m args below meth c cells slots Qm hA hP H locs ls (st_c hr h1) h2 h3 h4 h5 h6)
theorem J_sipush (n : Int) (hd : decode cc pc = .ok (.sipush n, 3)) (hr : InR n) (hn : (Int16.ofInt n).toInt32 = Int32.ofInt n) (k : J X A own cc nL P (pc + 3) lv (vI n :: st) ω) : J X A own cc nL P pc lv st ω :=
  fun p e R s m args below meth c cells slots Qm hA hP H locs ls h1 h2 h3 h4 h5 h6 => lv_sipush hA.1 hA.2.1 hd hn (k p e R s m args below meth c cells slots Qm hA hP H locs ls (st_c hr h1) h2 h3 h4 h5 h6)
theorem J_lconst0 (hd : decode cc pc = .ok (.lconst 0, 1)) (k : J X A own cc nL P (pc + 1) lv (vL 0 :: st) ω) : J X A own cc nL P pc lv st ω :=
  fun p e R s m args below meth c cells slots Qm hA hP H locs ls h1 h2 h3 h4 h5 h6 => lv_lconst hA.1 hA.2.1 hd (by decide) (k p e R s m args below meth c cells slots Qm hA hP H locs ls (st_c (show InL 0 from ⟨by decide, by decide⟩) h1) h2 h3 h4 h5 h6)
theorem J_lconst1 (hd : decode cc pc = .ok (.lconst 1, 1)) (k : J X A own cc nL P (pc + 1) lv (vL 1 :: st) ω) : J X A own cc nL P pc lv st ω :=
  fun p e R s m args below meth c cells slots Qm hA hP H locs ls h1 h2 h3 h4 h5 h6 => lv_lconst hA.1 hA.2.1 hd (by decide) (k p e R s m args below meth c cells slots Qm hA hP H locs ls (st_c (show InL 1 from ⟨by decide, by decide⟩) h1) h2 h3 h4 h5 h6)
theorem J_ldcw {index : Nat} {v : Int32} (hw : Cond.constant own index v ∈ gTbl) (hd : decode cc pc = .ok (.ldc_w index, 3)) (k : J X A own cc nL P (pc + 3) lv (vI v.toInt :: st) ω) : J X A own cc nL P pc lv st ω :=
  fun p e R s m args below meth c cells slots Qm hA hP H locs ls h1 h2 h3 h4 h5 h6 => lv_ldcw hA.1 hA.2.1 hA.2.2.2.1 (hA.2.2.2.2.1 _ hw) hd (by
    have q := k p e R s m args below meth c cells slots Qm hA hP H locs ls (st_c (i32_R v) h1) h2 h3 h4 h5 h6
    simp only [List.map_cons, emb, Int32.ofInt_toInt] at q
    exact q)
theorem J_ldc2 {index : Nat} {v : Int64} (hw : Cond.constantLong own index v ∈ gTbl) (hd : decode cc pc = .ok (.ldc2_w index, 3)) (k : J X A own cc nL P (pc + 3) lv (vL v.toInt :: st) ω) : J X A own cc nL P pc lv st ω :=
  fun p e R s m args below meth c cells slots Qm hA hP H locs ls h1 h2 h3 h4 h5 h6 => lv_ldc2 hA.1 hA.2.1 hA.2.2.2.1 (hA.2.2.2.2.1 _ hw) hd (by
    have q := k p e R s m args below meth c cells slots Qm hA hP H locs ls (st_c (i64_L v) h1) h2 h3 h4 h5 h6
    simp only [List.map_cons, emb, Int64.ofInt_toInt] at q
    exact q)
-- locals
theorem lvR {v : MV} {i : Nat} (hi : lv[i]? = some (some v)) (h2 : ∀ w, some w ∈ lv → RV w) : RV v := h2 v (List.mem_of_getElem? hi)
theorem J_iload_n (i : Fin 4) {z : Int} (hd : decode cc pc = .ok (.iload_n i, 1)) (hi : lv[i.val]? = some (some (vI z))) (k : J X A own cc nL P (pc + 1) lv (vI z :: st) ω) : J X A own cc nL P pc lv st ω :=
  fun p e R s m args below meth c cells slots Qm hA hP H locs ls h1 h2 h3 h4 h5 h6 => lv_iload_n hA.1 hA.2.1 hd rfl (lvl_at h6 hi) (k p e R s m args below meth c cells slots Qm hA hP H locs ls (st_c (lvR hi h2) h1) h2 h3 h4 h5 h6)
theorem J_iload (i : Nat) {z : Int} (hd : decode cc pc = .ok (.iload i, 2)) (hi : lv[i]? = some (some (vI z))) (k : J X A own cc nL P (pc + 2) lv (vI z :: st) ω) : J X A own cc nL P pc lv st ω :=
  fun p e R s m args below meth c cells slots Qm hA hP H locs ls h1 h2 h3 h4 h5 h6 => lv_iload hA.1 hA.2.1 hd (lvl_at h6 hi) (k p e R s m args below meth c cells slots Qm hA hP H locs ls (st_c (lvR hi h2) h1) h2 h3 h4 h5 h6)
theorem J_lload_n (i : Fin 4) {z : Int} (hd : decode cc pc = .ok (.lload_n i, 1)) (hi : lv[i.val]? = some (some (vL z))) (k : J X A own cc nL P (pc + 1) lv (vL z :: st) ω) : J X A own cc nL P pc lv st ω :=
  fun p e R s m args below meth c cells slots Qm hA hP H locs ls h1 h2 h3 h4 h5 h6 => lv_lload_n hA.1 hA.2.1 hd rfl (lvl_at h6 hi) (k p e R s m args below meth c cells slots Qm hA hP H locs ls (st_c (lvR hi h2) h1) h2 h3 h4 h5 h6)
theorem J_lload (i : Nat) {z : Int} (hd : decode cc pc = .ok (.lload i, 2)) (hi : lv[i]? = some (some (vL z))) (k : J X A own cc nL P (pc + 2) lv (vL z :: st) ω) : J X A own cc nL P pc lv st ω :=
  fun p e R s m args below meth c cells slots Qm hA hP H locs ls h1 h2 h3 h4 h5 h6 => lv_lload hA.1 hA.2.1 hd (lvl_at h6 hi) (k p e R s m args below meth c cells slots Qm hA hP H locs ls (st_c (lvR hi h2) h1) h2 h3 h4 h5 h6)
theorem J_aload_n (i : Fin 4) {z : Nat} (hd : decode cc pc = .ok (.aload_n i, 1)) (hi : lv[i.val]? = some (some (vR z))) (k : J X A own cc nL P (pc + 1) lv (vR z :: st) ω) : J X A own cc nL P pc lv st ω :=
  fun p e R s m args below meth c cells slots Qm hA hP H locs ls h1 h2 h3 h4 h5 h6 => lv_aload_n hA.1 hA.2.1 hd rfl (lvl_at h6 hi) (k p e R s m args below meth c cells slots Qm hA hP H locs ls (st_c (lvR hi h2) h1) h2 h3 h4 h5 h6)
theorem J_istore_n (i : Fin 4) {z : Int} {lv' : List (Option MV)} (hd : decode cc pc = .ok (.istore_n i, 1)) (hn : i.val < nL) (hno : i.val = 0 ∨ noL lv[i.val - 1]? = true) (hl : lv.set i.val (some (vI z)) = lv') (k : J X A own cc nL P (pc + 1) lv' st ω) : J X A own cc nL P pc lv (vI z :: st) ω :=
  fun p e R s m args below meth c cells slots Qm hA hP H locs ls h1 h2 h3 h4 h5 h6 => lv_istore_n hA.1 hA.2.1 hd rfl h6 hn rfl (fun ls' h => k p e R s m args below meth c cells slots Qm hA hP H locs ls' (st_t h1) (hl ▸ lv_s (st_h h1) h2) h3 h4 h5 (hl ▸ lvl_set (v := vI z) hno h))
theorem J_istore (i : Nat) {z : Int} {lv' : List (Option MV)} (hd : decode cc pc = .ok (.istore i, 2)) (hn : i < nL) (hno : i = 0 ∨ noL lv[i - 1]? = true) (hl : lv.set i (some (vI z)) = lv') (k : J X A own cc nL P (pc + 2) lv' st ω) : J X A own cc nL P pc lv (vI z :: st) ω :=
  fun p e R s m args below meth c cells slots Qm hA hP H locs ls h1 h2 h3 h4 h5 h6 => lv_istore hA.1 hA.2.1 hd h6 hn rfl (fun ls' h => k p e R s m args below meth c cells slots Qm hA hP H locs ls' (st_t h1) (hl ▸ lv_s (st_h h1) h2) h3 h4 h5 (hl ▸ lvl_set (v := vI z) hno h))
theorem J_lstore_n (i : Fin 4) {z : Int} {lv' : List (Option MV)} (hd : decode cc pc = .ok (.lstore_n i, 1)) (hn : i.val + 1 < nL) (hno : i.val = 0 ∨ noL lv[i.val - 1]? = true) (hl : (lv.set i.val (some (vL z))).set (i.val + 1) none = lv') (k : J X A own cc nL P (pc + 1) lv' st ω) : J X A own cc nL P pc lv (vL z :: st) ω :=
  fun p e R s m args below meth c cells slots Qm hA hP H locs ls h1 h2 h3 h4 h5 h6 => lv_lstore_n hA.1 hA.2.1 hd rfl h6 hn rfl (fun ls' h => k p e R s m args below meth c cells slots Qm hA hP H locs ls' (st_t h1) (hl ▸ lv_s0 (lv_s (st_h h1) h2)) h3 h4 h5 (hl ▸ lvl_set2 (v := vL z) hno h))
theorem J_lstore (i : Nat) {z : Int} {lv' : List (Option MV)} (hd : decode cc pc = .ok (.lstore i, 2)) (hn : i + 1 < nL) (hno : i = 0 ∨ noL lv[i - 1]? = true) (hl : (lv.set i (some (vL z))).set (i + 1) none = lv') (k : J X A own cc nL P (pc + 2) lv' st ω) : J X A own cc nL P pc lv (vL z :: st) ω :=
  fun p e R s m args below meth c cells slots Qm hA hP H locs ls h1 h2 h3 h4 h5 h6 => lv_lstore hA.1 hA.2.1 hd h6 hn rfl (fun ls' h => k p e R s m args below meth c cells slots Qm hA hP H locs ls' (st_t h1) (hl ▸ lv_s0 (lv_s (st_h h1) h2)) h3 h4 h5 (hl ▸ lvl_set2 (v := vL z) hno h))
theorem J_iinc (i : Nat) (n : Int) {z : Int} {lv' : List (Option MV)} (hd : decode cc pc = .ok (.iinc i n, 3)) (hn : i < nL) (hi : lv[i]? = some (some (vI z))) (hr : InR (z + n)) (hno : i = 0 ∨ noL lv[i - 1]? = true) (hl : lv.set i (some (vI (z + n))) = lv') (k : J X A own cc nL P (pc + 3) lv' st ω) : J X A own cc nL P pc lv st ω :=
  fun p e R s m args below meth c cells slots Qm hA hP H locs ls h1 h2 h3 h4 h5 h6 => by
    obtain ⟨q, hq⟩ := List.getElem?_of_mem ((lvl_mem (X := X) lv 0 (i, emb X (vI z))).mpr ⟨i, vI z, by simp, hi⟩)
    exact lv_iinc hA.1 hA.2.1 hd h6 hq (v := Int32.ofInt (z + n)) (by rw [Int32.ofInt_add]) hn rfl (fun ls' h => k p e R s m args below meth c cells slots Qm hA hP H locs ls' h1 (hl ▸ lv_s (show RV (vI (z + n)) from hr) h2) h3 h4 h5 (hl ▸ lvl_set (v := vI (z + n)) hno h))
-- arithmetic
def zAnd (x y : Int) : Int := (Int32.ofInt x &&& Int32.ofInt y).toInt
def zOr (x y : Int) : Int := (Int32.ofInt x ||| Int32.ofInt y).toInt
def zXor (x y : Int) : Int := (Int32.ofInt x ^^^ Int32.ofInt y).toInt
def zShl (x y : Int) : Int := (Int32.ofInt x <<< (Int32.ofInt y &&& 31)).toInt
def zShr (x y : Int) : Int := (Int32.ofInt x >>> (Int32.ofInt y &&& 31)).toInt
def zUshr (x y : Int) : Int := (((Int32.ofInt x).toUInt32 >>> ((Int32.ofInt y).toUInt32 &&& Int32.toUInt32 31)).toInt32).toInt
def zAdd (x y : Int) : Int := (Int32.ofInt x + Int32.ofInt y).toInt
def zSub (x y : Int) : Int := (Int32.ofInt x - Int32.ofInt y).toInt
def lAdd (x y : Int) : Int := (Int64.ofInt x + Int64.ofInt y).toInt
def lSub (x y : Int) : Int := (Int64.ofInt x - Int64.ofInt y).toInt
def lMul (x y : Int) : Int := (Int64.ofInt x * Int64.ofInt y).toInt
def lAnd (x y : Int) : Int := (Int64.ofInt x &&& Int64.ofInt y).toInt
def lOr (x y : Int) : Int := (Int64.ofInt x ||| Int64.ofInt y).toInt
def lXor (x y : Int) : Int := (Int64.ofInt x ^^^ Int64.ofInt y).toInt
def lShl (x y : Int) : Int := (Int64.ofInt x <<< ((Int32.ofInt y).toInt64 &&& 63)).toInt
def lShr (x y : Int) : Int := (Int64.ofInt x >>> ((Int32.ofInt y).toInt64 &&& 63)).toInt
def lUshr (x y : Int) : Int := ((Int64.ofInt x).toUInt64 >>> ((Int32.ofInt y).toInt64.toUInt64 &&& Int64.toUInt64 63)).toInt64.toInt
def l2i (x : Int) : Int := (Int64.ofInt x).toInt32.toInt
def lCmp (x y : Int) : Int := if y < x then 1 else if x = y then 0 else -1
theorem lg_cmpZ {x y : Int} (hx : InL x) (hy : InL y) : lg_cmp (Int64.ofInt x) (Int64.ofInt y) = Int32.ofInt (lCmp x y) := by
  have a : Int64.ofInt y < Int64.ofInt x ↔ y < x := by rw [Int64.lt_iff_toInt_lt, i64_of hx, i64_of hy]
  have b : Int64.ofInt x = Int64.ofInt y ↔ x = y := by rw [← Int64.toInt_inj, i64_of hx, i64_of hy]
  unfold lg_cmp lCmp
  simp only [a, b]
  split
  · rfl
  · split <;> rfl
theorem lCmp_R {x y : Int} : InR (lCmp x y) := by
  unfold lCmp InR; split
  · omega
  · split <;> omega
theorem rem_of {x y : Int} (hx : InR x) (hy : InR y) (h0 : 0 ≤ x) (h1 : 0 < y) : Int32.ofInt x - Int32.ofInt x / Int32.ofInt y * Int32.ofInt y = Int32.ofInt (x % y) := by
  have e1 : Int32.ofInt x = nI x.toNat := by
    apply Int32.toInt_inj.mp; rw [i32_of hx, nI_toInt (by have := hx.2; omega)]; omega
  have e2 : Int32.ofInt y = nI y.toNat := by
    apply Int32.toInt_inj.mp; rw [i32_of hy, nI_toInt (by have := hy.2; omega)]; omega
  have hm : x % y < y := Int.emod_lt_of_pos x h1
  have hp : 0 ≤ x % y := Int.emod_nonneg x (by omega)
  have h2 := hy.2
  have h3 := hx.2
  rw [e1, e2, pk_rem (by omega) (by omega) (by omega)]
  apply Int32.toInt_inj.mp
  have hlt : x.toNat % y.toNat < y.toNat := Nat.mod_lt _ (by omega)
  rw [nI_toInt (by omega), i32_of ⟨by omega, by omega⟩, Int.natCast_emod, Int.toNat_of_nonneg h0, Int.toNat_of_nonneg (by omega)]
theorem div_of {x y : Int} (hx : InR x) (hy : InR y) (h0 : 0 ≤ x) (h1 : 0 < y) : Int32.ofInt x / Int32.ofInt y = Int32.ofInt (x / y) := by
  have e1 : Int32.ofInt x = nI x.toNat := by
    apply Int32.toInt_inj.mp; rw [i32_of hx, nI_toInt (by have := hx.2; omega)]; omega
  have e2 : Int32.ofInt y = nI y.toNat := by
    apply Int32.toInt_inj.mp; rw [i32_of hy, nI_toInt (by have := hy.2; omega)]; omega
  have h2 := hy.2
  have h3 := hx.2
  have hle : x / y ≤ x := Int.ediv_le_self y h0
  have hp : 0 ≤ x / y := Int.ediv_nonneg h0 (by omega)
  rw [e1, e2, pk_div (by omega) (by omega) (by omega)]
  apply Int32.toInt_inj.mp
  have hlt : x.toNat / y.toNat ≤ x.toNat := Nat.div_le_self _ _
  rw [nI_toInt (by omega), i32_of ⟨by omega, by omega⟩, Int.natCast_ediv, Int.toNat_of_nonneg h0, Int.toNat_of_nonneg (by omega)]
theorem J_iadd {x y : Int} (hd : decode cc pc = .ok (.iadd, 1)) (hr : InR (x + y)) (k : J X A own cc nL P (pc + 1) lv (vI (x + y) :: st) ω) : J X A own cc nL P pc lv (vI y :: vI x :: st) ω :=
  fun p e R s m args below meth c cells slots Qm hA hP H locs ls h1 h2 h3 h4 h5 h6 => lv_iadd hA.1 hA.2.1 hd (by
    have q := k p e R s m args below meth c cells slots Qm hA hP H locs ls (st_c (show RV (vI (x + y)) from hr) (st_t (st_t h1))) h2 h3 h4 h5 h6
    simp only [List.map_cons, emb, Int32.ofInt_add] at q
    exact q)
theorem J_isub {x y : Int} (hd : decode cc pc = .ok (.isub, 1)) (hr : InR (x - y)) (k : J X A own cc nL P (pc + 1) lv (vI (x - y) :: st) ω) : J X A own cc nL P pc lv (vI y :: vI x :: st) ω :=
  fun p e R s m args below meth c cells slots Qm hA hP H locs ls h1 h2 h3 h4 h5 h6 => lv_isub hA.1 hA.2.1 hd (by
    have q := k p e R s m args below meth c cells slots Qm hA hP H locs ls (st_c (show RV (vI (x - y)) from hr) (st_t (st_t h1))) h2 h3 h4 h5 h6
    simp only [List.map_cons, emb, Int32.ofInt_sub] at q
    exact q)
theorem J_imul {x y : Int} (hd : decode cc pc = .ok (.imul, 1)) (hr : InR (x * y)) (k : J X A own cc nL P (pc + 1) lv (vI (x * y) :: st) ω) : J X A own cc nL P pc lv (vI y :: vI x :: st) ω :=
  fun p e R s m args below meth c cells slots Qm hA hP H locs ls h1 h2 h3 h4 h5 h6 => lv_imul hA.1 hA.2.1 hd (by
    have q := k p e R s m args below meth c cells slots Qm hA hP H locs ls (st_c (show RV (vI (x * y)) from hr) (st_t (st_t h1))) h2 h3 h4 h5 h6
    simp only [List.map_cons, emb, Int32.ofInt_mul] at q
    exact q)
theorem J_iand {x y : Int} (hd : decode cc pc = .ok (.iand, 1)) (k : J X A own cc nL P (pc + 1) lv (vI (zAnd x y) :: st) ω) : J X A own cc nL P pc lv (vI y :: vI x :: st) ω :=
  fun p e R s m args below meth c cells slots Qm hA hP H locs ls h1 h2 h3 h4 h5 h6 => lv_iand hA.1 hA.2.1 hd (by
    have q := k p e R s m args below meth c cells slots Qm hA hP H locs ls (st_c (show RV (vI (zAnd x y)) from i32_R _) (st_t (st_t h1))) h2 h3 h4 h5 h6
    simp only [List.map_cons, emb, zAnd, Int32.ofInt_toInt] at q
    exact q)
theorem J_ior {x y : Int} (hd : decode cc pc = .ok (.ior, 1)) (k : J X A own cc nL P (pc + 1) lv (vI (zOr x y) :: st) ω) : J X A own cc nL P pc lv (vI y :: vI x :: st) ω :=
  fun p e R s m args below meth c cells slots Qm hA hP H locs ls h1 h2 h3 h4 h5 h6 => lv_ior hA.1 hA.2.1 hd (by
    have q := k p e R s m args below meth c cells slots Qm hA hP H locs ls (st_c (show RV (vI (zOr x y)) from i32_R _) (st_t (st_t h1))) h2 h3 h4 h5 h6
    simp only [List.map_cons, emb, zOr, Int32.ofInt_toInt] at q
    exact q)
theorem J_ixor {x y : Int} (hd : decode cc pc = .ok (.ixor, 1)) (k : J X A own cc nL P (pc + 1) lv (vI (zXor x y) :: st) ω) : J X A own cc nL P pc lv (vI y :: vI x :: st) ω :=
  fun p e R s m args below meth c cells slots Qm hA hP H locs ls h1 h2 h3 h4 h5 h6 => lv_ixor hA.1 hA.2.1 hd (by
    have q := k p e R s m args below meth c cells slots Qm hA hP H locs ls (st_c (show RV (vI (zXor x y)) from i32_R _) (st_t (st_t h1))) h2 h3 h4 h5 h6
    simp only [List.map_cons, emb, zXor, Int32.ofInt_toInt] at q
    exact q)
theorem J_ishl {x y : Int} (hd : decode cc pc = .ok (.ishl, 1)) (k : J X A own cc nL P (pc + 1) lv (vI (zShl x y) :: st) ω) : J X A own cc nL P pc lv (vI y :: vI x :: st) ω :=
  fun p e R s m args below meth c cells slots Qm hA hP H locs ls h1 h2 h3 h4 h5 h6 => lv_ishl hA.1 hA.2.1 hd (by
    have q := k p e R s m args below meth c cells slots Qm hA hP H locs ls (st_c (show RV (vI (zShl x y)) from i32_R _) (st_t (st_t h1))) h2 h3 h4 h5 h6
    simp only [List.map_cons, emb, zShl, Int32.ofInt_toInt] at q
    exact q)
theorem J_ishr {x y : Int} (hd : decode cc pc = .ok (.ishr, 1)) (k : J X A own cc nL P (pc + 1) lv (vI (zShr x y) :: st) ω) : J X A own cc nL P pc lv (vI y :: vI x :: st) ω :=
  fun p e R s m args below meth c cells slots Qm hA hP H locs ls h1 h2 h3 h4 h5 h6 => lv_ishr hA.1 hA.2.1 hd (by
    have q := k p e R s m args below meth c cells slots Qm hA hP H locs ls (st_c (show RV (vI (zShr x y)) from i32_R _) (st_t (st_t h1))) h2 h3 h4 h5 h6
    simp only [List.map_cons, emb, zShr, Int32.ofInt_toInt] at q
    exact q)
theorem J_iaddW {x y : Int} (hd : decode cc pc = .ok (.iadd, 1)) (k : J X A own cc nL P (pc + 1) lv (vI (zAdd x y) :: st) ω) : J X A own cc nL P pc lv (vI y :: vI x :: st) ω :=
  fun p e R s m args below meth c cells slots Qm hA hP H locs ls h1 h2 h3 h4 h5 h6 => lv_iadd hA.1 hA.2.1 hd (by
    have q := k p e R s m args below meth c cells slots Qm hA hP H locs ls (st_c (show RV (vI (zAdd x y)) from i32_R _) (st_t (st_t h1))) h2 h3 h4 h5 h6
    simp only [List.map_cons, emb, zAdd, Int32.ofInt_toInt] at q
    exact q)
theorem J_isubW {x y : Int} (hd : decode cc pc = .ok (.isub, 1)) (k : J X A own cc nL P (pc + 1) lv (vI (zSub x y) :: st) ω) : J X A own cc nL P pc lv (vI y :: vI x :: st) ω :=
  fun p e R s m args below meth c cells slots Qm hA hP H locs ls h1 h2 h3 h4 h5 h6 => lv_isub hA.1 hA.2.1 hd (by
    have q := k p e R s m args below meth c cells slots Qm hA hP H locs ls (st_c (show RV (vI (zSub x y)) from i32_R _) (st_t (st_t h1))) h2 h3 h4 h5 h6
    simp only [List.map_cons, emb, zSub, Int32.ofInt_toInt] at q
    exact q)
theorem J_iushr {x y : Int} (hd : decode cc pc = .ok (.iushr, 1)) (k : J X A own cc nL P (pc + 1) lv (vI (zUshr x y) :: st) ω) : J X A own cc nL P pc lv (vI y :: vI x :: st) ω :=
  fun p e R s m args below meth c cells slots Qm hA hP H locs ls h1 h2 h3 h4 h5 h6 => lv_iushr hA.1 hA.2.1 hd rfl (by
    have q := k p e R s m args below meth c cells slots Qm hA hP H locs ls (st_c (show RV (vI (zUshr x y)) from i32_R _) (st_t (st_t h1))) h2 h3 h4 h5 h6
    simp only [List.map_cons, emb, zUshr, Int32.ofInt_toInt] at q
    exact q)
theorem J_irem {x y : Int} (hd : decode cc pc = .ok (.irem, 1)) (h0 : 0 ≤ x) (hy : 0 < y) (k : J X A own cc nL P (pc + 1) lv (vI (x % y) :: st) ω) : J X A own cc nL P pc lv (vI y :: vI x :: st) ω :=
  fun p e R s m args below meth c cells slots Qm hA hP H locs ls h1 h2 h3 h4 h5 h6 => by
    have rx : InR x := st_h (st_t h1)
    have ry : InR y := st_h h1
    have hm : x % y < y := Int.emod_lt_of_pos x hy
    have hp : 0 ≤ x % y := Int.emod_nonneg x (by omega)
    have r2 := ry.2
    have q := k p e R s m args below meth c cells slots Qm hA hP H locs ls (st_c (show RV (vI (x % y)) from ⟨by omega, by omega⟩) (st_t (st_t h1))) h2 h3 h4 h5 h6
    refine lv_irem hA.1 hA.2.1 hd (fun h => ?_) ?_
    · rw [← i32_0, i32_eq ry InR0] at h; omega
    · rw [rem_of rx ry h0 hy]; exact q
theorem J_idiv {x y : Int} (hd : decode cc pc = .ok (.idiv, 1)) (h0 : 0 ≤ x) (hy : 0 < y) (k : J X A own cc nL P (pc + 1) lv (vI (x / y) :: st) ω) : J X A own cc nL P pc lv (vI y :: vI x :: st) ω :=
  fun p e R s m args below meth c cells slots Qm hA hP H locs ls h1 h2 h3 h4 h5 h6 => by
    have rx : InR x := st_h (st_t h1)
    have ry : InR y := st_h h1
    have hle : x / y ≤ x := Int.ediv_le_self y h0
    have hp : 0 ≤ x / y := Int.ediv_nonneg h0 (by omega)
    have r2 := rx.2
    have q := k p e R s m args below meth c cells slots Qm hA hP H locs ls (st_c (show RV (vI (x / y)) from ⟨by omega, by omega⟩) (st_t (st_t h1))) h2 h3 h4 h5 h6
    refine lv_idiv hA.1 hA.2.1 hd (fun h => ?_) ?_
    · rw [← i32_0, i32_eq ry InR0] at h; omega
    · rw [div_of rx ry h0 hy]; exact q
theorem J_i2l {x : Int} (hd : decode cc pc = .ok (.i2l, 1)) (k : J X A own cc nL P (pc + 1) lv (vL x :: st) ω) : J X A own cc nL P pc lv (vI x :: st) ω :=
  fun p e R s m args below meth c cells slots Qm hA hP H locs ls h1 h2 h3 h4 h5 h6 => lv_i2l hA.1 hA.2.1 hd (v := Int64.ofInt x) (by
    have rx : InR x := st_h h1
    apply Int64.toInt_inj.mp; rw [Int32.toInt_toInt64, i32_of rx, i64_of rx.L]) (k p e R s m args below meth c cells slots Qm hA hP H locs ls (st_c (show RV (vL x) from (show InR x from st_h h1).L) (st_t h1)) h2 h3 h4 h5 h6)
theorem J_l2i {x : Int} (hd : decode cc pc = .ok (.l2i, 1)) (k : J X A own cc nL P (pc + 1) lv (vI (l2i x) :: st) ω) : J X A own cc nL P pc lv (vL x :: st) ω :=
  fun p e R s m args below meth c cells slots Qm hA hP H locs ls h1 h2 h3 h4 h5 h6 => lv_l2i hA.1 hA.2.1 hd rfl (by
    have q := k p e R s m args below meth c cells slots Qm hA hP H locs ls (st_c (show RV (vI (l2i x)) from i32_R _) (st_t h1)) h2 h3 h4 h5 h6
    simp only [List.map_cons, emb, l2i, Int32.ofInt_toInt] at q
    exact q)
theorem J_lcmp {x y : Int} (hd : decode cc pc = .ok (.lcmp, 1)) (k : J X A own cc nL P (pc + 1) lv (vI (lCmp x y) :: st) ω) : J X A own cc nL P pc lv (vL y :: vL x :: st) ω :=
  fun p e R s m args below meth c cells slots Qm hA hP H locs ls h1 h2 h3 h4 h5 h6 => W.lcmp hA.1 hA.2.1 hd (by
    have q := k p e R s m args below meth c cells slots Qm hA hP H locs ls (st_c (show RV (vI (lCmp x y)) from lCmp_R) (st_t (st_t h1))) h2 h3 h4 h5 h6
    simp only [List.map_cons, emb] at q
    rw [lg_cmpZ (show InL x from st_h (st_t h1)) (show InL y from st_h h1)]
    exact q)
theorem J_ladd {x y : Int} (hd : decode cc pc = .ok (.ladd, 1)) (k : J X A own cc nL P (pc + 1) lv (vL (lAdd x y) :: st) ω) : J X A own cc nL P pc lv (vL y :: vL x :: st) ω :=
  fun p e R s m args below meth c cells slots Qm hA hP H locs ls h1 h2 h3 h4 h5 h6 => lv_ladd hA.1 hA.2.1 hd (by
    have q := k p e R s m args below meth c cells slots Qm hA hP H locs ls (st_c (show RV (vL (lAdd x y)) from i64_L _) (st_t (st_t h1))) h2 h3 h4 h5 h6
    simp only [List.map_cons, emb, lAdd, Int64.ofInt_toInt] at q
    exact q)
theorem J_lsub {x y : Int} (hd : decode cc pc = .ok (.lsub, 1)) (k : J X A own cc nL P (pc + 1) lv (vL (lSub x y) :: st) ω) : J X A own cc nL P pc lv (vL y :: vL x :: st) ω :=
  fun p e R s m args below meth c cells slots Qm hA hP H locs ls h1 h2 h3 h4 h5 h6 => lv_lsub hA.1 hA.2.1 hd (by
    have q := k p e R s m args below meth c cells slots Qm hA hP H locs ls (st_c (show RV (vL (lSub x y)) from i64_L _) (st_t (st_t h1))) h2 h3 h4 h5 h6
    simp only [List.map_cons, emb, lSub, Int64.ofInt_toInt] at q
    exact q)
theorem J_lmul {x y : Int} (hd : decode cc pc = .ok (.lmul, 1)) (k : J X A own cc nL P (pc + 1) lv (vL (lMul x y) :: st) ω) : J X A own cc nL P pc lv (vL y :: vL x :: st) ω :=
  fun p e R s m args below meth c cells slots Qm hA hP H locs ls h1 h2 h3 h4 h5 h6 => lv_lmul hA.1 hA.2.1 hd (by
    have q := k p e R s m args below meth c cells slots Qm hA hP H locs ls (st_c (show RV (vL (lMul x y)) from i64_L _) (st_t (st_t h1))) h2 h3 h4 h5 h6
    simp only [List.map_cons, emb, lMul, Int64.ofInt_toInt] at q
    exact q)
theorem J_land {x y : Int} (hd : decode cc pc = .ok (.land, 1)) (k : J X A own cc nL P (pc + 1) lv (vL (lAnd x y) :: st) ω) : J X A own cc nL P pc lv (vL y :: vL x :: st) ω :=
  fun p e R s m args below meth c cells slots Qm hA hP H locs ls h1 h2 h3 h4 h5 h6 => lv_land hA.1 hA.2.1 hd (by
    have q := k p e R s m args below meth c cells slots Qm hA hP H locs ls (st_c (show RV (vL (lAnd x y)) from i64_L _) (st_t (st_t h1))) h2 h3 h4 h5 h6
    simp only [List.map_cons, emb, lAnd, Int64.ofInt_toInt] at q
    exact q)
theorem J_lor {x y : Int} (hd : decode cc pc = .ok (.lor, 1)) (k : J X A own cc nL P (pc + 1) lv (vL (lOr x y) :: st) ω) : J X A own cc nL P pc lv (vL y :: vL x :: st) ω :=
  fun p e R s m args below meth c cells slots Qm hA hP H locs ls h1 h2 h3 h4 h5 h6 => lv_lor hA.1 hA.2.1 hd (by
    have q := k p e R s m args below meth c cells slots Qm hA hP H locs ls (st_c (show RV (vL (lOr x y)) from i64_L _) (st_t (st_t h1))) h2 h3 h4 h5 h6
    simp only [List.map_cons, emb, lOr, Int64.ofInt_toInt] at q
    exact q)
theorem J_lxor {x y : Int} (hd : decode cc pc = .ok (.lxor, 1)) (k : J X A own cc nL P (pc + 1) lv (vL (lXor x y) :: st) ω) : J X A own cc nL P pc lv (vL y :: vL x :: st) ω :=
  fun p e R s m args below meth c cells slots Qm hA hP H locs ls h1 h2 h3 h4 h5 h6 => lv_lxor hA.1 hA.2.1 hd (by
    have q := k p e R s m args below meth c cells slots Qm hA hP H locs ls (st_c (show RV (vL (lXor x y)) from i64_L _) (st_t (st_t h1))) h2 h3 h4 h5 h6
    simp only [List.map_cons, emb, lXor, Int64.ofInt_toInt] at q
    exact q)
theorem J_lshl {x y : Int} (hd : decode cc pc = .ok (.lshl, 1)) (k : J X A own cc nL P (pc + 1) lv (vL (lShl x y) :: st) ω) : J X A own cc nL P pc lv (vI y :: vL x :: st) ω :=
  fun p e R s m args below meth c cells slots Qm hA hP H locs ls h1 h2 h3 h4 h5 h6 => lv_lshl hA.1 hA.2.1 hd rfl (by
    have q := k p e R s m args below meth c cells slots Qm hA hP H locs ls (st_c (show RV (vL (lShl x y)) from i64_L _) (st_t (st_t h1))) h2 h3 h4 h5 h6
    simp only [List.map_cons, emb, lShl, Int64.ofInt_toInt] at q
    exact q)
theorem J_lshr {x y : Int} (hd : decode cc pc = .ok (.lshr, 1)) (k : J X A own cc nL P (pc + 1) lv (vL (lShr x y) :: st) ω) : J X A own cc nL P pc lv (vI y :: vL x :: st) ω :=
  fun p e R s m args below meth c cells slots Qm hA hP H locs ls h1 h2 h3 h4 h5 h6 => lv_lshr hA.1 hA.2.1 hd rfl (by
    have q := k p e R s m args below meth c cells slots Qm hA hP H locs ls (st_c (show RV (vL (lShr x y)) from i64_L _) (st_t (st_t h1))) h2 h3 h4 h5 h6
    simp only [List.map_cons, emb, lShr, Int64.ofInt_toInt] at q
    exact q)
theorem J_lushr {x y : Int} (hd : decode cc pc = .ok (.lushr, 1)) (k : J X A own cc nL P (pc + 1) lv (vL (lUshr x y) :: st) ω) : J X A own cc nL P pc lv (vI y :: vL x :: st) ω :=
  fun p e R s m args below meth c cells slots Qm hA hP H locs ls h1 h2 h3 h4 h5 h6 => lv_lushr hA.1 hA.2.1 hd rfl (by
    have q := k p e R s m args below meth c cells slots Qm hA hP H locs ls (st_c (show RV (vL (lUshr x y)) from i64_L _) (st_t (st_t h1))) h2 h3 h4 h5 h6
    simp only [List.map_cons, emb, lUshr, Int64.ofInt_toInt] at q
    exact q)
theorem J_dupR {a : Nat} (hd : decode cc pc = .ok (.dup, 1)) (k : J X A own cc nL P (pc + 1) lv (vR a :: vR a :: st) ω) : J X A own cc nL P pc lv (vR a :: st) ω :=
  fun p e R s m args below meth c cells slots Qm hA hP H locs ls h1 h2 h3 h4 h5 h6 => lv_dup hA.1 hA.2.1 hd rfl (k p e R s m args below meth c cells slots Qm hA hP H locs ls (st_c (st_h h1) h1) h2 h3 h4 h5 h6)
theorem J_dupI {a : Int} (hd : decode cc pc = .ok (.dup, 1)) (k : J X A own cc nL P (pc + 1) lv (vI a :: vI a :: st) ω) : J X A own cc nL P pc lv (vI a :: st) ω :=
  fun p e R s m args below meth c cells slots Qm hA hP H locs ls h1 h2 h3 h4 h5 h6 => lv_dup hA.1 hA.2.1 hd rfl (k p e R s m args below meth c cells slots Qm hA hP H locs ls (st_c (st_h h1) h1) h2 h3 h4 h5 h6)
theorem J_dup2 {a : Int} {b : Nat} (hd : decode cc pc = .ok (.dup2, 1)) (k : J X A own cc nL P (pc + 1) lv (vI a :: vR b :: vI a :: vR b :: st) ω) : J X A own cc nL P pc lv (vI a :: vR b :: st) ω :=
  fun p e R s m args below meth c cells slots Qm hA hP H locs ls h1 h2 h3 h4 h5 h6 => lv_dup2_11 hA.1 hA.2.1 hd rfl rfl (k p e R s m args below meth c cells slots Qm hA hP H locs ls (st_c (st_h h1) (st_c (st_h (st_t h1)) h1)) h2 h3 h4 h5 h6)
theorem J_pop {a : Int} (hd : decode cc pc = .ok (.pop, 1)) (k : J X A own cc nL P (pc + 1) lv st ω) : J X A own cc nL P pc lv (vI a :: st) ω :=
  fun p e R s m args below meth c cells slots Qm hA hP H locs ls h1 h2 h3 h4 h5 h6 => lv_pop hA.1 hA.2.1 hd rfl (k p e R s m args below meth c cells slots Qm hA hP H locs ls (st_t h1) h2 h3 h4 h5 h6)
theorem J_goto (tgt : Nat) {off : Int} (hd : decode cc pc = .ok (.goto off, 3)) (ht : (pc : Int) + off = (tgt : Int)) (k : J X A own cc nL P tgt lv st ω) : J X A own cc nL P pc lv st ω :=
  fun p e R s m args below meth c cells slots Qm hA hP H locs ls h1 h2 h3 h4 h5 h6 => lv_goto hA.1 hA.2.1 hd ht (k p e R s m args below meth c cells slots Qm hA hP H locs ls h1 h2 h3 h4 h5 h6)
theorem J_if_eq {x : Int} (tgt : Nat) {off : Int} (hd : decode cc pc = .ok (.ifCond .eq off, 3)) (ht : (pc : Int) + off = (tgt : Int)) (kt : x = 0 → J X A own cc nL P tgt lv st ω) (kf : ¬ x = 0 → J X A own cc nL P (pc + 3) lv st ω) : J X A own cc nL P pc lv (vI x :: st) ω :=
  fun p e R s m args below meth c cells slots Qm hA hP H locs ls h1 h2 h3 h4 h5 h6 => by
    have rx : InR x := st_h h1
    have ee := i32_eq rx InR0
    rw [i32_0] at ee
    refine lv_if_eq hA.1 hA.2.1 hd ht (fun h => ?_) (fun h => ?_)
    · rw [ee] at h; exact kt h p e R s m args below meth c cells slots Qm hA hP H locs ls (st_t h1) h2 h3 h4 h5 h6
    · rw [ee] at h; exact kf h p e R s m args below meth c cells slots Qm hA hP H locs ls (st_t h1) h2 h3 h4 h5 h6
theorem J_icmp_eq {x y : Int} (tgt : Nat) {off : Int} (hd : decode cc pc = .ok (.if_icmp .eq off, 3)) (ht : (pc : Int) + off = (tgt : Int)) (kt : x = y → J X A own cc nL P tgt lv st ω) (kf : ¬ x = y → J X A own cc nL P (pc + 3) lv st ω) : J X A own cc nL P pc lv (vI y :: vI x :: st) ω :=
  fun p e R s m args below meth c cells slots Qm hA hP H locs ls h1 h2 h3 h4 h5 h6 => by
    have rx : InR x := st_h (st_t h1)
    have ry : InR y := st_h h1
    have ee := i32_eq rx ry
    refine lv_icmp_eq hA.1 hA.2.1 hd ht (fun h => ?_) (fun h => ?_)
    · rw [ee] at h; exact kt h p e R s m args below meth c cells slots Qm hA hP H locs ls (st_t (st_t h1)) h2 h3 h4 h5 h6
    · rw [ee] at h; exact kf h p e R s m args below meth c cells slots Qm hA hP H locs ls (st_t (st_t h1)) h2 h3 h4 h5 h6
theorem J_if_ne {x : Int} (tgt : Nat) {off : Int} (hd : decode cc pc = .ok (.ifCond .ne off, 3)) (ht : (pc : Int) + off = (tgt : Int)) (kt : ¬ x = 0 → J X A own cc nL P tgt lv st ω) (kf : x = 0 → J X A own cc nL P (pc + 3) lv st ω) : J X A own cc nL P pc lv (vI x :: st) ω :=
  fun p e R s m args below meth c cells slots Qm hA hP H locs ls h1 h2 h3 h4 h5 h6 => by
    have rx : InR x := st_h h1
    have ee := i32_eq rx InR0
    rw [i32_0] at ee
    refine lv_if_ne hA.1 hA.2.1 hd ht (fun h => ?_) (fun h => ?_)
    · rw [ee] at h; exact kt h p e R s m args below meth c cells slots Qm hA hP H locs ls (st_t h1) h2 h3 h4 h5 h6
    · rw [ee] at h; exact kf h p e R s m args below meth c cells slots Qm hA hP H locs ls (st_t h1) h2 h3 h4 h5 h6
theorem J_icmp_ne {x y : Int} (tgt : Nat) {off : Int} (hd : decode cc pc = .ok (.if_icmp .ne off, 3)) (ht : (pc : Int) + off = (tgt : Int)) (kt : ¬ x = y → J X A own cc nL P tgt lv st ω) (kf : x = y → J X A own cc nL P (pc + 3) lv st ω) : J X A own cc nL P pc lv (vI y :: vI x :: st) ω :=
  fun p e R s m args below meth c cells slots Qm hA hP H locs ls h1 h2 h3 h4 h5 h6 => by
    have rx : InR x := st_h (st_t h1)
    have ry : InR y := st_h h1
    have ee := i32_eq rx ry
    refine lv_icmp_ne hA.1 hA.2.1 hd ht (fun h => ?_) (fun h => ?_)
    · rw [ee] at h; exact kt h p e R s m args below meth c cells slots Qm hA hP H locs ls (st_t (st_t h1)) h2 h3 h4 h5 h6
    · rw [ee] at h; exact kf h p e R s m args below meth c cells slots Qm hA hP H locs ls (st_t (st_t h1)) h2 h3 h4 h5 h6
theorem J_if_lt {x : Int} (tgt : Nat) {off : Int} (hd : decode cc pc = .ok (.ifCond .lt off, 3)) (ht : (pc : Int) + off = (tgt : Int)) (kt : x < 0 → J X A own cc nL P tgt lv st ω) (kf : ¬ x < 0 → J X A own cc nL P (pc + 3) lv st ω) : J X A own cc nL P pc lv (vI x :: st) ω :=
  fun p e R s m args below meth c cells slots Qm hA hP H locs ls h1 h2 h3 h4 h5 h6 => by
    have rx : InR x := st_h h1
    have ee := i32_lt rx InR0
    rw [i32_0] at ee
    refine lv_if_lt hA.1 hA.2.1 hd ht (fun h => ?_) (fun h => ?_)
    · rw [ee] at h; exact kt h p e R s m args below meth c cells slots Qm hA hP H locs ls (st_t h1) h2 h3 h4 h5 h6
    · rw [ee] at h; exact kf h p e R s m args below meth c cells slots Qm hA hP H locs ls (st_t h1) h2 h3 h4 h5 h6
theorem J_icmp_lt {x y : Int} (tgt : Nat) {off : Int} (hd : decode cc pc = .ok (.if_icmp .lt off, 3)) (ht : (pc : Int) + off = (tgt : Int)) (kt : x < y → J X A own cc nL P tgt lv st ω) (kf : ¬ x < y → J X A own cc nL P (pc + 3) lv st ω) : J X A own cc nL P pc lv (vI y :: vI x :: st) ω :=
  fun p e R s m args below meth c cells slots Qm hA hP H locs ls h1 h2 h3 h4 h5 h6 => by
    have rx : InR x := st_h (st_t h1)
    have ry : InR y := st_h h1
    have ee := i32_lt rx ry
    refine lv_icmp_lt hA.1 hA.2.1 hd ht (fun h => ?_) (fun h => ?_)
    · rw [ee] at h; exact kt h p e R s m args below meth c cells slots Qm hA hP H locs ls (st_t (st_t h1)) h2 h3 h4 h5 h6
    · rw [ee] at h; exact kf h p e R s m args below meth c cells slots Qm hA hP H locs ls (st_t (st_t h1)) h2 h3 h4 h5 h6
theorem J_if_ge {x : Int} (tgt : Nat) {off : Int} (hd : decode cc pc = .ok (.ifCond .ge off, 3)) (ht : (pc : Int) + off = (tgt : Int)) (kt : 0 ≤ x → J X A own cc nL P tgt lv st ω) (kf : ¬ 0 ≤ x → J X A own cc nL P (pc + 3) lv st ω) : J X A own cc nL P pc lv (vI x :: st) ω :=
  fun p e R s m args below meth c cells slots Qm hA hP H locs ls h1 h2 h3 h4 h5 h6 => by
    have rx : InR x := st_h h1
    have ee := i32_le InR0 rx
    rw [i32_0] at ee
    refine lv_if_ge hA.1 hA.2.1 hd ht (fun h => ?_) (fun h => ?_)
    · rw [ee] at h; exact kt h p e R s m args below meth c cells slots Qm hA hP H locs ls (st_t h1) h2 h3 h4 h5 h6
    · rw [ee] at h; exact kf h p e R s m args below meth c cells slots Qm hA hP H locs ls (st_t h1) h2 h3 h4 h5 h6
theorem J_icmp_ge {x y : Int} (tgt : Nat) {off : Int} (hd : decode cc pc = .ok (.if_icmp .ge off, 3)) (ht : (pc : Int) + off = (tgt : Int)) (kt : y ≤ x → J X A own cc nL P tgt lv st ω) (kf : ¬ y ≤ x → J X A own cc nL P (pc + 3) lv st ω) : J X A own cc nL P pc lv (vI y :: vI x :: st) ω :=
  fun p e R s m args below meth c cells slots Qm hA hP H locs ls h1 h2 h3 h4 h5 h6 => by
    have rx : InR x := st_h (st_t h1)
    have ry : InR y := st_h h1
    have ee := i32_le ry rx
    refine lv_icmp_ge hA.1 hA.2.1 hd ht (fun h => ?_) (fun h => ?_)
    · rw [ee] at h; exact kt h p e R s m args below meth c cells slots Qm hA hP H locs ls (st_t (st_t h1)) h2 h3 h4 h5 h6
    · rw [ee] at h; exact kf h p e R s m args below meth c cells slots Qm hA hP H locs ls (st_t (st_t h1)) h2 h3 h4 h5 h6
theorem J_if_gt {x : Int} (tgt : Nat) {off : Int} (hd : decode cc pc = .ok (.ifCond .gt off, 3)) (ht : (pc : Int) + off = (tgt : Int)) (kt : 0 < x → J X A own cc nL P tgt lv st ω) (kf : ¬ 0 < x → J X A own cc nL P (pc + 3) lv st ω) : J X A own cc nL P pc lv (vI x :: st) ω :=
  fun p e R s m args below meth c cells slots Qm hA hP H locs ls h1 h2 h3 h4 h5 h6 => by
    have rx : InR x := st_h h1
    have ee := i32_lt InR0 rx
    rw [i32_0] at ee
    refine lv_if_gt hA.1 hA.2.1 hd ht (fun h => ?_) (fun h => ?_)
    · rw [ee] at h; exact kt h p e R s m args below meth c cells slots Qm hA hP H locs ls (st_t h1) h2 h3 h4 h5 h6
    · rw [ee] at h; exact kf h p e R s m args below meth c cells slots Qm hA hP H locs ls (st_t h1) h2 h3 h4 h5 h6
theorem J_icmp_gt {x y : Int} (tgt : Nat) {off : Int} (hd : decode cc pc = .ok (.if_icmp .gt off, 3)) (ht : (pc : Int) + off = (tgt : Int)) (kt : y < x → J X A own cc nL P tgt lv st ω) (kf : ¬ y < x → J X A own cc nL P (pc + 3) lv st ω) : J X A own cc nL P pc lv (vI y :: vI x :: st) ω :=
  fun p e R s m args below meth c cells slots Qm hA hP H locs ls h1 h2 h3 h4 h5 h6 => by
    have rx : InR x := st_h (st_t h1)
    have ry : InR y := st_h h1
    have ee := i32_lt ry rx
    refine lv_icmp_gt hA.1 hA.2.1 hd ht (fun h => ?_) (fun h => ?_)
    · rw [ee] at h; exact kt h p e R s m args below meth c cells slots Qm hA hP H locs ls (st_t (st_t h1)) h2 h3 h4 h5 h6
    · rw [ee] at h; exact kf h p e R s m args below meth c cells slots Qm hA hP H locs ls (st_t (st_t h1)) h2 h3 h4 h5 h6
theorem J_if_le {x : Int} (tgt : Nat) {off : Int} (hd : decode cc pc = .ok (.ifCond .le off, 3)) (ht : (pc : Int) + off = (tgt : Int)) (kt : x ≤ 0 → J X A own cc nL P tgt lv st ω) (kf : ¬ x ≤ 0 → J X A own cc nL P (pc + 3) lv st ω) : J X A own cc nL P pc lv (vI x :: st) ω :=
  fun p e R s m args below meth c cells slots Qm hA hP H locs ls h1 h2 h3 h4 h5 h6 => by
    have rx : InR x := st_h h1
    have ee := i32_le rx InR0
    rw [i32_0] at ee
    refine lv_if_le hA.1 hA.2.1 hd ht (fun h => ?_) (fun h => ?_)
    · rw [ee] at h; exact kt h p e R s m args below meth c cells slots Qm hA hP H locs ls (st_t h1) h2 h3 h4 h5 h6
    · rw [ee] at h; exact kf h p e R s m args below meth c cells slots Qm hA hP H locs ls (st_t h1) h2 h3 h4 h5 h6
theorem J_icmp_le {x y : Int} (tgt : Nat) {off : Int} (hd : decode cc pc = .ok (.if_icmp .le off, 3)) (ht : (pc : Int) + off = (tgt : Int)) (kt : x ≤ y → J X A own cc nL P tgt lv st ω) (kf : ¬ x ≤ y → J X A own cc nL P (pc + 3) lv st ω) : J X A own cc nL P pc lv (vI y :: vI x :: st) ω :=
  fun p e R s m args below meth c cells slots Qm hA hP H locs ls h1 h2 h3 h4 h5 h6 => by
    have rx : InR x := st_h (st_t h1)
    have ry : InR y := st_h h1
    have ee := i32_le rx ry
    refine lv_icmp_le hA.1 hA.2.1 hd ht (fun h => ?_) (fun h => ?_)
    · rw [ee] at h; exact kt h p e R s m args below meth c cells slots Qm hA hP H locs ls (st_t (st_t h1)) h2 h3 h4 h5 h6
    · rw [ee] at h; exact kf h p e R s m args below meth c cells slots Qm hA hP H locs ls (st_t (st_t h1)) h2 h3 h4 h5 h6
theorem J_switch {x : Int} {dflt lo hi : Int} {offs : Array Int} {len : Nat} (hd : decode cc pc = .ok (.tableswitch dflt lo hi offs, len)) (tgt : Nat) (ht : (pc : Int) + dflt = (tgt : Int)) (kd : (x < lo ∨ hi < x) → J X A own cc nL P tgt lv st ω)
    (kc : ¬ x < lo → ¬ hi < x → ∃ (off : Int) (t : Nat), offs[(x - lo).toNat]? = some off ∧ (pc : Int) + off = (t : Int) ∧ J X A own cc nL P t lv st ω) : J X A own cc nL P pc lv (vI x :: st) ω :=
  fun p e R s m args below meth c cells slots Qm hA hP H locs ls h1 h2 h3 h4 h5 h6 => by
    have rx : InR x := st_h h1
    have ee := i32_of rx
    by_cases h : x < lo ∨ hi < x
    · exact lv_tableOut hA.1 hA.2.1 hd (by rw [ee]; exact h) ht (kd h p e R s m args below meth c cells slots Qm hA hP H locs ls (st_t h1) h2 h3 h4 h5 h6)
    · obtain ⟨off, t, ho, htt, k⟩ := kc (fun q => h (Or.inl q)) (fun q => h (Or.inr q))
      exact lv_tableIn hA.1 hA.2.1 hd (by rw [ee]; exact fun q => h (Or.inl q)) (by rw [ee]; exact fun q => h (Or.inr q)) (by rw [ee]; exact ho) htt (k p e R s m args below meth c cells slots Qm hA hP H locs ls (st_t h1) h2 h3 h4 h5 h6)
-- fields
theorem J_getfieldV {k idx ci j code : Nat} (v : MV) (lk : FLk own idx ci j) (hf : fcode k ci j = some code) (hv : fv X ω k j code = emb X v) (hr : ROm ω → RV v) (hd : decode cc pc = .ok (.getfield idx, 3)) (kk : J X A own cc nL P (pc + 3) lv (v :: st) ω) : J X A own cc nL P pc lv (vR k :: st) ω :=
  fun p e R s m args below meth c cells slots Qm hA hP H locs ls h1 h2 h3 h4 h5 h6 => by
    obtain ⟨C, T, N, ty, ⟨c1, c2, c3, c4, c5⟩, hj, hl⟩ := lk
    obtain ⟨fl, g1, g2, n, g3⟩ := pic_obj X ω hf
    have q := kk p e R s m args below meth c cells slots Qm hA hP H locs ls (st_c (hr h3) (st_t h1)) h2 h3 h4 h5 h6
    have hvv : (fl.mapIdx (fun j code => fv X ω k j code))[j]? = some (emb X v) := by simp [List.getElem?_mapIdx, g2, hv]
    rcases hl with hl | ⟨host, hl⟩
    · exact va_get hA.1 hA.2.1 hA.2.2.2.2.1 c2 hA.2.2.2.1 hA.2.2.2.2.2.2.1 h4 k g1 c1 j hj (hA.2.2.2.2.1 _ hl) (fun x h => by rw [c5 j hj] at h; exact h) hvv hd q
    · exact va_getN hA.1 hA.2.1 hA.2.2.2.2.1 c2 hA.2.2.2.1 hA.2.2.2.2.2.2.1 h4 k g1 c1 j hj (va_Nw.use rfl (hA.2.2.2.2.2.1 _ hl)) (fun x h => by rw [c5 j hj] at h; exact h) hvv hd q
theorem J_getI {k idx ci j : Nat} (i : Int) (lk : FLk own idx ci j) (hi : (j : Int) = i) (hf : fcode k ci j = some 0) (hn : isL k j = false) (hd : decode cc pc = .ok (.getfield idx, 3)) (kk : J X A own cc nL P (pc + 3) lv (vI (ω k i) :: st) ω) : J X A own cc nL P pc lv (vR k :: st) ω := by
  subst hi; exact J_getfieldV (vI (ω k j)) lk hf rfl (fun h => h.1 k j hn) hd kk
theorem J_getL {k idx ci j : Nat} (i : Int) (lk : FLk own idx ci j) (hi : (j : Int) = i) (hf : fcode k ci j = some 1) (hd : decode cc pc = .ok (.getfield idx, 3)) (kk : J X A own cc nL P (pc + 3) lv (vL (ω k i) :: st) ω) : J X A own cc nL P pc lv (vR k :: st) ω := by
  subst hi; exact J_getfieldV (vL (ω k j)) lk hf rfl (fun h => h.2 k j) hd kk
theorem J_getR {k idx ci j c : Nat} (lk : FLk own idx ci j) (hf : fcode k ci j = some (c + 2)) (hd : decode cc pc = .ok (.getfield idx, 3)) (kk : J X A own cc nL P (pc + 3) lv (vR c :: st) ω) : J X A own cc nL P pc lv (vR k :: st) ω :=
  J_getfieldV (vR c) lk hf rfl (fun _ => trivial) hd kk
/-- field j of class ci can be written: it is an int (0) or a long (1), and isn't final -/
def fput (ci j code : Nat) : Prop := ∃ (C : String) (T : u_T) (N : Nat) (ty : Nat → FieldType), clsOK ci C T N ty ∧ j < N ∧ (T j).2.2.2 = false ∧ ((code = 0 ∧ ty j = .int) ∨ (code = 1 ∧ ty j = .long))
theorem J_putfieldV {k idx ci j code : Nat} (v : MV) (z : Int) (lk : FLk own idx ci j) (fp : fput ci j code) (hf : fcode k ci j = some code) (hv : (code = 0 ∧ v = vI z) ∨ (code = 1 ∧ v = vL z)) (hr : RV v → ROm ω → ROm (up ω k j z)) (hd : decode cc pc = .ok (.putfield idx, 3)) (kk : J X A own cc nL P (pc + 3) lv st (up ω k j z)) : J X A own cc nL P pc lv (v :: vR k :: st) ω :=
  fun p e R s m args below meth c cells slots Qm hA hP H locs ls h1 h2 h3 h4 h5 h6 => by
    obtain ⟨C, T, N, ty, ⟨c1, c2, c3, c4, c5⟩, hj, hl⟩ := lk
    obtain ⟨C', T', N', ty', ⟨d1, d2, d3, d4, d5⟩, hj', hfin, hty⟩ := fp
    obtain ⟨fl, g1, g2, n, g3⟩ := pic_obj X ω hf
    rw [c1] at d1; cases d1
    have hD := pic_D ω hA.2.2.2.2.2.2.2.1 hA.2.2.2.2.2.2.2.2
    have hlt : j < (fl.mapIdx (fun j code => fv X ω k j code)).length := by have := (List.getElem?_eq_some_iff.mp g2).1; simpa using this
    have hnf : narrow (ty' j) (emb X v) = emb X v ∧ fits (ty' j) (emb X v) = true ∧ fv X (up ω k j z) k j code = emb X v := by
      rcases hv with ⟨rfl, rfl⟩ | ⟨rfl, rfl⟩ <;> rcases hty with ⟨e1, e2⟩ | ⟨e1, e2⟩
      · rw [e2]; exact ⟨rfl, rfl, by simp only [fv, up_s, emb]⟩
      · cases e1
      · cases e1
      · rw [e2]; exact ⟨rfl, rfl, by simp only [fv, up_s, emb]⟩
    have he := pic_set (X := X) (ω := ω) (i := j) (z := z) g3 (e := .inr (ci, (fl.mapIdx (fun j code => fv X ω k j code)).set j (emb X v))) (by simp only [cellOf]; rw [fl_set g2 _ hnf.2.2])
    have q : ∀ (H1 : Heap) (locs1 : List Loc), va_P X.2.1 vwCl ((pic X ω).set k (X.2.2.1 k, .inr (ci, (fl.mapIdx (fun j code => fv X ω k j code)).set j (emb X v)))) H1 → va_D A ((pic X ω).set k (X.2.2.1 k, .inr (ci, (fl.mapIdx (fun j code => fv X ω k j code)).set j (emb X v)))) → va_S A s.heap H1 locs1 → W p X.1 e R s m args below meth c H1 locs1 cells slots Qm (F0 m (pc + 3) ls (st.map (emb X))) := by
      intro H1 locs1 q1 _ q3
      rw [he] at q1
      exact kk p e R s m args below meth c cells slots Qm hA hP H1 locs1 ls (st_t (st_t h1)) h2 (hr (st_h h1) h3) q1 q3 h6
    rcases hl with hl | ⟨host, hl⟩
    · exact va_put hA.1 hA.2.1 hA.2.2.2.2.1 c2 ty' d3 c4 hA.2.2.2.1 hA.2.2.2.2.2.2.1 h4 hD h5 k g1 c1 j hj (hA.2.2.2.2.1 _ hl) (fun x h => by rw [c5 j hj] at h; exact h) hfin (d3 j hj) hnf.1 hnf.2.1 hlt hd q
    · exact va_putN hA.1 hA.2.1 hA.2.2.2.2.1 c2 ty' d3 c4 hA.2.2.2.1 hA.2.2.2.2.2.2.1 h4 hD h5 k g1 c1 j hj (va_Nw.use rfl (hA.2.2.2.2.2.1 _ hl)) (fun x h => by rw [c5 j hj] at h; exact h) hfin (d3 j hj) hnf.1 hnf.2.1 hlt hd q
theorem J_putI {k idx ci j : Nat} {z : Int} (i : Int) (lk : FLk own idx ci j) (hi : (j : Int) = i) (fp : fput ci j 0) (hf : fcode k ci j = some 0) (hd : decode cc pc = .ok (.putfield idx, 3)) (kk : J X A own cc nL P (pc + 3) lv st (up ω k i z)) : J X A own cc nL P pc lv (vI z :: vR k :: st) ω := by
  subst hi; exact J_putfieldV (vI z) z lk fp hf (Or.inl ⟨rfl, rfl⟩) (fun h1 h2 => ROm_up h2 h1) hd kk
theorem J_putL {k idx ci j : Nat} {z : Int} (i : Int) (lk : FLk own idx ci j) (hi : (j : Int) = i) (fp : fput ci j 1) (hf : fcode k ci j = some 1) (hl : isL k j = true) (hd : decode cc pc = .ok (.putfield idx, 3)) (kk : J X A own cc nL P (pc + 3) lv st (up ω k i z)) : J X A own cc nL P pc lv (vL z :: vR k :: st) ω := by
  subst hi; exact J_putfieldV (vL z) z lk fp hf (Or.inr ⟨rfl, rfl⟩) (fun h1 h2 => ROm_upL h2 h1 hl) hd kk
-- arrays
theorem pic_arr {X : Cx} (ω : Om) {k n : Nat} (h : acode k = some (0, n)) : (pic X ω)[k]? = some (X.2.2.1 k, .inl (X.2.2.2.1, n, .inl (fun j => Int32.ofInt (ω k j)))) ∧ ∃ fl, lay[k]? = some (0, n, fl) := by
  unfold acode at h
  cases hl : lay[k]? with
  | none => rw [hl] at h; cases h
  | some L =>
    obtain ⟨c, n', fl⟩ := L
    rw [hl] at h
    cases h
    exact ⟨by rw [pic_get, hl]; rfl, fl, rfl⟩
theorem pic_arz {X : Cx} (ω : Om) {k n : Nat} (h : acode k = some (1, n)) : (pic X ω)[k]? = some (X.2.2.1 k, .inl (X.2.2.2.2, n, .inl (fun j => Int32.ofInt (ω k j)))) ∧ ∃ fl, lay[k]? = some (1, n, fl) := by
  unfold acode at h
  cases hl : lay[k]? with
  | none => rw [hl] at h; cases h
  | some L =>
    obtain ⟨c, n', fl⟩ := L
    rw [hl] at h
    cases h
    exact ⟨by rw [pic_get, hl]; rfl, fl, rfl⟩
theorem in_of {i : Int} {n : Nat} (hr : InR i) (h : 0 ≤ i ∧ i < n) : vp_in (Int32.ofInt i) n := by
  rw [vp_in_iff, i32_of hr]; exact h
theorem ar_up {ω : Om} {k : Nat} {i z : Int} (hr : InR i) (h0 : 0 ≤ i) (x : Int32) (hx : x = Int32.ofInt z) : (fun j : Nat => Int32.ofInt (up ω k i z k j)) = upd (fun j : Nat => Int32.ofInt (ω k j)) (Int32.ofInt i).toNatClampNeg x := by
  rw [i32_toNat hr]
  funext j
  unfold upd
  by_cases hj : j = i.toNat
  · rw [if_pos hj, hx]
    have : (j : Int) = i := by omega
    rw [this, up_s]
  · rw [if_neg hj, up_i (by omega)]
theorem J_iaload {k : Nat} {i : Int} (n : Nat) (ha : acode k = some (0, n)) (hn : isL k i = false) (hi : 0 ≤ i ∧ i < n) (hd : decode cc pc = .ok (.iaload, 1)) (kk : J X A own cc nL P (pc + 1) lv (vI (ω k i) :: st) ω) : J X A own cc nL P pc lv (vI i :: vR k :: st) ω :=
  fun p e R s m args below meth c cells slots Qm hA hP H locs ls h1 h2 h3 h4 h5 h6 => by
    have ri : InR i := st_h h1
    have q := kk p e R s m args below meth c cells slots Qm hA hP H locs ls (st_c (show RV (vI (ω k i)) from h3.1 k i hn) (st_t (st_t h1))) h2 h3 h4 h5 h6
    refine va_iald hA.1 hA.2.1 hA.2.2.2.2.2.2.1 h4 k 0 (pic_arr ω ha).1 rfl (in_of ri hi) hd ?_
    rw [i32_toNat ri, show ((i.toNat : Nat) : Int) = i from by omega]
    exact q
theorem J_baload {k : Nat} {i : Int} (n : Nat) (ha : acode k = some (1, n)) (hn : isL k i = false) (hi : 0 ≤ i ∧ i < n) (hd : decode cc pc = .ok (.baload, 1)) (kk : J X A own cc nL P (pc + 1) lv (vI (ω k i) :: st) ω) : J X A own cc nL P pc lv (vI i :: vR k :: st) ω :=
  fun p e R s m args below meth c cells slots Qm hA hP H locs ls h1 h2 h3 h4 h5 h6 => by
    have ri : InR i := st_h h1
    have q := kk p e R s m args below meth c cells slots Qm hA hP H locs ls (st_c (show RV (vI (ω k i)) from h3.1 k i hn) (st_t (st_t h1))) h2 h3 h4 h5 h6
    refine va_zald hA.1 hA.2.1 hA.2.2.2.2.2.2.1 h4 k 1 (pic_arz ω ha).1 rfl (in_of ri hi) hd ?_
    rw [i32_toNat ri, show ((i.toNat : Nat) : Int) = i from by omega]
    exact q
theorem J_iastore {k : Nat} {i z : Int} (n : Nat) (ha : acode k = some (0, n)) (hi : 0 ≤ i ∧ i < n) (hd : decode cc pc = .ok (.iastore, 1)) (kk : J X A own cc nL P (pc + 1) lv st (up ω k i z)) : J X A own cc nL P pc lv (vI z :: vI i :: vR k :: st) ω :=
  fun p e R s m args below meth c cells slots Qm hA hP H locs ls h1 h2 h3 h4 h5 h6 => by
    have ri : InR i := st_h (st_t h1)
    have rz : InR z := st_h h1
    obtain ⟨g1, fl, g2⟩ := pic_arr (X := X) ω ha
    have hD := pic_D ω hA.2.2.2.2.2.2.2.1 hA.2.2.2.2.2.2.2.2
    refine va_iast hA.1 hA.2.1 hA.2.2.2.2.2.2.1 h4 hD h5 k 0 g1 rfl (in_of ri hi) hd (fun H1 locs1 q1 _ q3 => ?_)
    rw [pic_set (X := X) (ω := ω) (i := i) (z := z) g2 (by simp only [cellOf]; rw [ar_up ri hi.1 _ rfl])] at q1
    exact kk p e R s m args below meth c cells slots Qm hA hP H1 locs1 ls (st_t (st_t (st_t h1))) h2 (ROm_up h3 rz) q1 q3 h6
theorem J_bastore {k : Nat} {i z : Int} (n : Nat) (ha : acode k = some (1, n)) (hi : 0 ≤ i ∧ i < n) (hz : z = 0 ∨ z = 1) (hd : decode cc pc = .ok (.bastore, 1)) (kk : J X A own cc nL P (pc + 1) lv st (up ω k i z)) : J X A own cc nL P pc lv (vI z :: vI i :: vR k :: st) ω :=
  fun p e R s m args below meth c cells slots Qm hA hP H locs ls h1 h2 h3 h4 h5 h6 => by
    have ri : InR i := st_h (st_t h1)
    have rz : InR z := st_h h1
    obtain ⟨g1, fl, g2⟩ := pic_arz (X := X) ω ha
    have hD := pic_D ω hA.2.2.2.2.2.2.2.1 hA.2.2.2.2.2.2.2.2
    refine va_zast hA.1 hA.2.1 hA.2.2.2.2.2.2.1 h4 hD h5 k 1 g1 rfl (in_of ri hi) hd (fun H1 locs1 q1 _ q3 => ?_)
    rw [pic_set (X := X) (ω := ω) (i := i) (z := z) g2 (by simp only [cellOf]; rw [ar_up ri hi.1 (vp_nar .boolean (Int32.ofInt z)) (by rcases hz with rfl | rfl <;> decide +kernel)])] at q1
    exact kk p e R s m args below meth c cells slots Qm hA hP H1 locs1 ls (st_t (st_t (st_t h1))) h2 (ROm_up h3 rz) q1 q3 h6
end JR
