/-! THE CLAIM OUT OF ONE WALK OF THE LAW'S BODY. Your part is whole_start (and what it stands on); all else here is the same for every law, but numbers. -/
def R_law : String := "MovedMembersLaw"
def lw_P (b : Addr) (xs : List Int32) (args : Array Value) (s : State) : Prop := args = #[.ref b] ∧ s.IntsAt b xs ∧ xs.length ≤ 2560 ∧ (Jvm.Cond.and given_1 narrow_1).before args s = true
def lw_Q (_ : Array Value) (s : State) (o : Outcome) (t : State) : Prop := o = .returned (some (.int 1)) ∧ Framed s o t [] 52 7201
def lw_Z (below : List Frame) (a : Array Value) (s : State) : State → Prop := fun t => ∃ o, t.status = .running ∧ Ended t below o ∧ lw_Q a s o t
/-- the law's own end, with 1 on the stack, nothing written that was there before, its room as the claim has it -/
theorem lw_ret {p : Program} {l : Launch} {e : Env} {s : State} {m : MethodId} {below : List Frame} {meth : Method} {c : Code} {b : Nat} (hx : p.tables.exec = Jvm.exec) (hb : c.code = code) (hr : meth.sig.returnType = ret) (hlocks : meth.locks = false) {pc : Nat} {H : Heap} {ls : Array Slot} (hdg : decode code pc = .ok (.ireturn, 1)) : W p l e room_1 s m #[Value.ref b] below meth c H [] 52 7201 (lw_Z below #[Value.ref b] s) (F0 m pc ls [.int 1]) := by
  intro T hT X
  obtain ⟨fs, hret, hrun, hended, hW, hframe⟩ := X.leave (v := some (.int 1)) (hlocks := hlocks) (fun h => by rw [hr] at h; cases h)
  have hmeth' : T.vm.method? m = some meth := X.method'
  refine ⟨T.setFrames fs, ?_, .returned (some (.int 1)), hrun, hended, rfl, ⟨_, rfl⟩, hW, hframe⟩
  jvm_step X.here [X.here.top, hx, hb, hdg, hmeth', hr, ret, narrow_b1]
  (try refine ⟨rfl, ?_⟩); (try refine ⟨rfl, ?_⟩)
  first | (intro acts; rw [hret _ acts rfl rfl rfl]) | rw [hret _ _ rfl rfl rfl]
  exact Steps.refl _
/-- what holds at the law's entry: the machine, the code, the tables' words (any of lw_tbl by 'hts w (by decide +kernel)'), the script of L ints xs at the cell b, what the Statement gives of the start (any of its parts by flat_of_before) -/
def lw_At (p : Program) (s : State) (m : MethodId) (meth : Method) (c : Code) (b L : Nat) (xs : Nat → Int32) : Prop :=
  p.tables.exec = Jvm.exec ∧ c.code = code ∧ meth.sig.returnType = ret ∧ c.maxLocals = 4 ∧ s.vm.findClass R_law = some m.cls ∧ (∀ w ∈ lw_tbl, w.before #[Value.ref b] s = true) ∧ va_X b L xs s s.heap ∧ b < s.heap.size ∧ meth.locks = false ∧ (Jvm.Cond.and given_1 narrow_1).before #[Value.ref b] s = true
/-- inside the law: its room is all its own, the script lies where it lay -/
def PL (X : Cx) (L : Nat) (xs : Nat → Int32) (sz : Nat) : PT := fun _ _ R s _ args below meth _ cells slots Qm => R = room_1 ∧ cells = 52 ∧ slots = 7201 ∧ args = #[Value.ref (X.2.2.1 52)] ∧ Qm = lw_Z below #[Value.ref (X.2.2.1 52)] s ∧ meth.sig.returnType = ret ∧ meth.locks = false ∧ s.heap.size = sz ∧ va_X (X.2.2.1 52) L xs s s.heap ∧ X.2.2.1 52 < sz
abbrev JL (X : Cx) (L : Nat) (xs : Nat → Int32) (sz : Nat) (pc : Nat) (lv : List (Option MV)) (st : List MV) (ω : Om) : Prop := J X (fun q => sz ≤ q) RL code 4 (PL X L xs sz) pc lv st ω
section LW
variable {X : Cx} {L sz : Nat} {xs : Nat → Int32} {pc : Nat} {lv : List (Option MV)} {st : List MV} {ω : Om}
theorem i32_nat (n : Nat) : Int32.ofNat n = Int32.ofInt (n : Int) := by
  apply Int32.toBitVec_inj.mp
  show BitVec.ofNat 32 n = BitVec.ofInt 32 (n : Int)
  exact (BitVec.ofInt_natCast 32 n).symm
theorem JL_len (hL : L ≤ 2560) (hd : decode code pc = .ok (.arraylength, 1)) (k : JL X L xs sz (pc + 1) lv (vI (L : Int) :: st) ω) : JL X L xs sz pc lv (vR 52 :: st) ω :=
  fun p e R s m args below meth c cells slots Qm hA hP H locs ls h1 h2 h3 h4 h5 h6 => by
    have hq := k p e R s m args below meth c cells slots Qm hA hP H locs ls (st_c (show InR (L : Int) from ⟨by omega, by omega⟩) (st_t h1)) h2 h3 h4 h5 h6
    obtain ⟨b1, b2, b3, b4, b5, b6, b7, b8, b9, b10⟩ := hP
    refine va_slen hA.1 hA.2.1 b9 (by rw [b8]; exact b10) (Nat.not_le.mpr b10) h5 hd ?_
    rw [i32_nat]
    exact hq
theorem JL_ld {i : Int} (hi : 0 ≤ i ∧ i < L) (hd : decode code pc = .ok (.iaload, 1)) (k : JL X L xs sz (pc + 1) lv (vI (xs i.toNat).toInt :: st) ω) : JL X L xs sz pc lv (vI i :: vR 52 :: st) ω :=
  fun p e R s m args below meth c cells slots Qm hA hP H locs ls h1 h2 h3 h4 h5 h6 => by
    have hr : InR i := st_h h1
    have hq := k p e R s m args below meth c cells slots Qm hA hP H locs ls (st_c (i32_R _) (st_t (st_t h1))) h2 h3 h4 h5 h6
    obtain ⟨b1, b2, b3, b4, b5, b6, b7, b8, b9, b10⟩ := hP
    refine va_sld hA.1 hA.2.1 b9 (by rw [b8]; exact b10) (Nat.not_le.mpr b10) h5 (in_of hr hi) hd ?_
    rw [i32_toNat hr]
    simp only [List.map_cons, emb, Int32.ofInt_toInt] at hq
    exact hq
theorem JL_ret (hd : decode code pc = .ok (.ireturn, 1)) : JL X L xs sz pc lv [vI 1] ω :=
  fun p e R s m args below meth c cells slots Qm hA hP H locs ls h1 h2 h3 h4 h5 h6 => by
    obtain ⟨rfl, rfl, rfl, rfl, rfl, b6, b7, rfl, b9, b10⟩ := hP
    exact va_forget (fun q hq => h5.2.2 q hq) (lw_ret hA.1 hA.2.1 b6 b7 hd)
theorem PL_room {z : MD} (hz : z.2.2.1 ≤ 21) : ∀ (p : Program) (e : Env) (R : Room) (s : State) (m : MethodId) (args : Array Value) (below : List Frame) (meth : Method) (c : Code) (cells slots : Nat) (Qm : State → Prop), PL X L xs sz p e R s m args below meth c cells slots Qm → rmOk 10 z R cells slots := by
  intro p e R s m args below meth c cells slots Qm hP
  obtain ⟨rfl, rfl, rfl, -⟩ := hP
  refine ⟨by decide, ?_, by decide, by decide⟩
  show 8 + (z.2.2.1 + 11) + (40 * 10 + 12) ≤ 512
  omega
theorem JL_V0 {z : MD} {idx k : Nat} (lk : MLkV RL idx z 0) (hk : rcv k z.1.cls) (hd : decode code pc = .ok (.invokevirtual idx, 3)) (hz : z.2.2.1 ≤ 21) (hw : wt st ≤ 8) (hM : Mc X z 10 [vR k] ω (fun r ω' => JL X L xs sz (pc + 3) lv (push r st) ω')) : JL X L xs sz pc lv (vR k :: st) ω :=
  J_callV (d := 10) (as := []) (PL_room hz) lk rfl hk hw hd (by simp only [push_app]; exact hM)
theorem JL_V1 {z : MD} {idx k : Nat} {x0 : MV} (lk : MLkV RL idx z 1) (hk : rcv k z.1.cls) (hd : decode code pc = .ok (.invokevirtual idx, 3)) (hz : z.2.2.1 ≤ 21) (hw : wt st ≤ 8) (hM : Mc X z 10 [vR k, x0] ω (fun r ω' => JL X L xs sz (pc + 3) lv (push r st) ω')) : JL X L xs sz pc lv (x0 :: vR k :: st) ω :=
  J_callV (d := 10) (as := [x0]) (PL_room hz) lk rfl hk hw hd (by simp only [push_app]; exact hM)
theorem JL_V2 {z : MD} {idx k : Nat} {x0 x1 : MV} (lk : MLkV RL idx z 2) (hk : rcv k z.1.cls) (hd : decode code pc = .ok (.invokevirtual idx, 3)) (hz : z.2.2.1 ≤ 21) (hw : wt st ≤ 8) (hM : Mc X z 10 [vR k, x0, x1] ω (fun r ω' => JL X L xs sz (pc + 3) lv (push r st) ω')) : JL X L xs sz pc lv (x1 :: x0 :: vR k :: st) ω :=
  J_callV (d := 10) (as := [x0, x1]) (PL_room hz) lk rfl hk hw hd (by simp only [push_app]; exact hM)
theorem JL_V3 {z : MD} {idx k : Nat} {x0 x1 x2 : MV} (lk : MLkV RL idx z 3) (hk : rcv k z.1.cls) (hd : decode code pc = .ok (.invokevirtual idx, 3)) (hz : z.2.2.1 ≤ 21) (hw : wt st ≤ 8) (hM : Mc X z 10 [vR k, x0, x1, x2] ω (fun r ω' => JL X L xs sz (pc + 3) lv (push r st) ω')) : JL X L xs sz pc lv (x2 :: x1 :: x0 :: vR k :: st) ω :=
  J_callV (d := 10) (as := [x0, x1, x2]) (PL_room hz) lk rfl hk hw hd (by simp only [push_app]; exact hM)
theorem JL_V4 {z : MD} {idx k : Nat} {x0 x1 x2 x3 : MV} (lk : MLkV RL idx z 4) (hk : rcv k z.1.cls) (hd : decode code pc = .ok (.invokevirtual idx, 3)) (hz : z.2.2.1 ≤ 21) (hw : wt st ≤ 8) (hM : Mc X z 10 [vR k, x0, x1, x2, x3] ω (fun r ω' => JL X L xs sz (pc + 3) lv (push r st) ω')) : JL X L xs sz pc lv (x3 :: x2 :: x1 :: x0 :: vR k :: st) ω :=
  J_callV (d := 10) (as := [x0, x1, x2, x3]) (PL_room hz) lk rfl hk hw hd (by simp only [push_app]; exact hM)
end LW
set_option maxRecDepth 100000 in
set_option maxHeartbeats 4000000 in
theorem lwc_0 {X : Cx} {L sz : Nat} {xs : Nat → Int32} {c : Nat} {ω : Om} (hL : L ≤ 2560) (hi : 5 * (c : Int) + 5 ≤ L) (h : RR c ω) (hc : c < 900000) (kk : ∀ ω2, RR (c + 1) ω2 → JL X L xs sz 854 [some (vR 52), some (vR 0), some (vR 29), some (vI (5 * (c : Int)))] [] ω2) : JL X L xs sz 140 [some (vR 52), some (vR 0), some (vR 29), some (vI (5 * (c : Int)))] [] ω := by
  refine J_aload_n 1 dL_law_140 rfl ?_
  refine J_aload_n 0 dL_law_141 rfl ?_
  refine J_iload_n 3 dL_law_142 rfl ?_
  refine J_iconst 1 dL_law_143 ⟨by decide, by decide⟩ ?_
  refine J_iadd dL_law_144 ⟨by omega, by omega⟩ ?_
  refine JL_ld ⟨by omega, by omega⟩ dL_law_145 ?_
  refine JL_V1 lkM_L_13 rcv_0 dL_law_146 (by decide) (Nat.le_of_ble_eq_true rfl) ?_
  refine st_letter (d := 0) h hc (fun z ω1 k1 => ?_)
  refine J_aload_n 2 dL_law_149 rfl ?_
  refine J_aload_n 0 dL_law_150 rfl ?_
  refine J_iload_n 3 dL_law_151 rfl ?_
  refine J_iconst 1 dL_law_152 ⟨by decide, by decide⟩ ?_
  refine J_iadd dL_law_153 ⟨by omega, by omega⟩ ?_
  refine JL_ld ⟨by omega, by omega⟩ dL_law_154 ?_
  refine JL_V1 lkM_L_17 rcv_29 dL_law_155 (by decide) (Nat.le_of_ble_eq_true rfl) ?_
  refine k1 _ (fun ω2 h2 => ?_)
  refine J_icmp_eq 854 dL_law_158 (by decide) (fun h158 => ?_) (fun h158 => ?_)
  · skip
    exact kk ω2 h2
  · skip
    exact absurd rfl h158
set_option maxRecDepth 100000 in
set_option maxHeartbeats 4000000 in
theorem lwc_1 {X : Cx} {L sz : Nat} {xs : Nat → Int32} {c : Nat} {ω : Om} (hL : L ≤ 2560) (hi : 5 * (c : Int) + 5 ≤ L) (h : RR c ω) (hc : c < 900000) (kk : ∀ ω2, RR (c + 1) ω2 → JL X L xs sz 854 [some (vR 52), some (vR 0), some (vR 29), some (vI (5 * (c : Int)))] [] ω2) : JL X L xs sz 163 [some (vR 52), some (vR 0), some (vR 29), some (vI (5 * (c : Int)))] [] ω := by
  refine J_aload_n 1 dL_law_163 rfl ?_
  refine JL_V0 lkM_L_18 rcv_0 dL_law_164 (by decide) (Nat.le_of_ble_eq_true rfl) ?_
  refine st_blank (d := 0) h hc (fun z ω1 k1 => ?_)
  refine J_aload_n 2 dL_law_167 rfl ?_
  refine JL_V0 lkM_L_22 rcv_29 dL_law_168 (by decide) (Nat.le_of_ble_eq_true rfl) ?_
  refine k1 _ (fun ω2 h2 => ?_)
  refine J_icmp_eq 854 dL_law_171 (by decide) (fun h171 => ?_) (fun h171 => ?_)
  · skip
    exact kk ω2 h2
  · skip
    exact absurd rfl h171
set_option maxRecDepth 100000 in
set_option maxHeartbeats 4000000 in
theorem lwc_2 {X : Cx} {L sz : Nat} {xs : Nat → Int32} {c : Nat} {ω : Om} (hL : L ≤ 2560) (hi : 5 * (c : Int) + 5 ≤ L) (h : RR c ω) (hc : c < 900000) (kk : ∀ ω2, RR (c + 1) ω2 → JL X L xs sz 854 [some (vR 52), some (vR 0), some (vR 29), some (vI (5 * (c : Int)))] [] ω2) : JL X L xs sz 176 [some (vR 52), some (vR 0), some (vR 29), some (vI (5 * (c : Int)))] [] ω := by
  refine J_aload_n 1 dL_law_176 rfl ?_
  refine JL_V0 lkM_L_23 rcv_0 dL_law_177 (by decide) (Nat.le_of_ble_eq_true rfl) ?_
  refine st_fault (d := 0) h hc (fun z ω1 k1 => ?_)
  refine J_aload_n 2 dL_law_180 rfl ?_
  refine JL_V0 lkM_L_26 rcv_29 dL_law_181 (by decide) (Nat.le_of_ble_eq_true rfl) ?_
  refine k1 _ (fun ω2 h2 => ?_)
  refine J_icmp_eq 854 dL_law_184 (by decide) (fun h184 => ?_) (fun h184 => ?_)
  · skip
    exact kk ω2 h2
  · skip
    exact absurd rfl h184
set_option maxRecDepth 100000 in
set_option maxHeartbeats 4000000 in
theorem lwc_3 {X : Cx} {L sz : Nat} {xs : Nat → Int32} {c : Nat} {ω : Om} (hL : L ≤ 2560) (hi : 5 * (c : Int) + 5 ≤ L) (h : RR c ω) (hc : c < 900000) (kk : ∀ ω2, RR (c + 1) ω2 → JL X L xs sz 854 [some (vR 52), some (vR 0), some (vR 29), some (vI (5 * (c : Int)))] [] ω2) : JL X L xs sz 189 [some (vR 52), some (vR 0), some (vR 29), some (vI (5 * (c : Int)))] [] ω := by
  refine J_aload_n 1 dL_law_189 rfl ?_
  refine JL_V0 lkM_L_27 rcv_0 dL_law_190 (by decide) (Nat.le_of_ble_eq_true rfl) ?_
  refine st_type (d := 0) h hc (fun z ω1 k1 => ?_)
  refine J_aload_n 2 dL_law_193 rfl ?_
  refine JL_V0 lkM_L_30 rcv_29 dL_law_194 (by decide) (Nat.le_of_ble_eq_true rfl) ?_
  refine k1 _ (fun ω2 h2 => ?_)
  refine J_icmp_eq 854 dL_law_197 (by decide) (fun h197 => ?_) (fun h197 => ?_)
  · skip
    exact kk ω2 h2
  · skip
    exact absurd rfl h197
set_option maxRecDepth 100000 in
set_option maxHeartbeats 4000000 in
theorem lwc_4 {X : Cx} {L sz : Nat} {xs : Nat → Int32} {c : Nat} {ω : Om} (hL : L ≤ 2560) (hi : 5 * (c : Int) + 5 ≤ L) (h : RR c ω) (hc : c < 900000) (kk : ∀ ω2, RR (c + 1) ω2 → JL X L xs sz 854 [some (vR 52), some (vR 0), some (vR 29), some (vI (5 * (c : Int)))] [] ω2) : JL X L xs sz 202 [some (vR 52), some (vR 0), some (vR 29), some (vI (5 * (c : Int)))] [] ω := by
  refine J_aload_n 1 dL_law_202 rfl ?_
  refine JL_V0 lkM_L_31 rcv_0 dL_law_203 (by decide) (Nat.le_of_ble_eq_true rfl) ?_
  refine st_drop (d := 0) h hc (fun z ω1 k1 => ?_)
  refine J_aload_n 2 dL_law_206 rfl ?_
  refine JL_V0 lkM_L_34 rcv_29 dL_law_207 (by decide) (Nat.le_of_ble_eq_true rfl) ?_
  refine k1 _ (fun ω2 h2 => ?_)
  refine J_icmp_eq 854 dL_law_210 (by decide) (fun h210 => ?_) (fun h210 => ?_)
  · skip
    exact kk ω2 h2
  · skip
    exact absurd rfl h210
set_option maxRecDepth 100000 in
set_option maxHeartbeats 4000000 in
theorem lwc_5 {X : Cx} {L sz : Nat} {xs : Nat → Int32} {c : Nat} {ω : Om} (hL : L ≤ 2560) (hi : 5 * (c : Int) + 5 ≤ L) (h : RR c ω) (hc : c < 900000) (kk : ∀ ω2, RR (c + 1) ω2 → JL X L xs sz 854 [some (vR 52), some (vR 0), some (vR 29), some (vI (5 * (c : Int)))] [] ω2) : JL X L xs sz 215 [some (vR 52), some (vR 0), some (vR 29), some (vI (5 * (c : Int)))] [] ω := by
  refine J_aload_n 1 dL_law_215 rfl ?_
  refine J_aload_n 0 dL_law_216 rfl ?_
  refine J_iload_n 3 dL_law_217 rfl ?_
  refine J_iconst 1 dL_law_218 ⟨by decide, by decide⟩ ?_
  refine J_iadd dL_law_219 ⟨by omega, by omega⟩ ?_
  refine JL_ld ⟨by omega, by omega⟩ dL_law_220 ?_
  refine J_aload_n 0 dL_law_221 rfl ?_
  refine J_iload_n 3 dL_law_222 rfl ?_
  refine J_iconst 2 dL_law_223 ⟨by decide, by decide⟩ ?_
  refine J_iadd dL_law_224 ⟨by omega, by omega⟩ ?_
  refine JL_ld ⟨by omega, by omega⟩ dL_law_225 ?_
  refine J_if_eq 233 dL_law_226 (by decide) (fun h226 => ?_) (fun h226 => ?_)
  · skip
    refine J_iconst 0 dL_law_233 ⟨by decide, by decide⟩ ?_
    refine JL_V2 lkM_L_35 rcv_0 dL_law_234 (by decide) (Nat.le_of_ble_eq_true rfl) ?_
    refine st_hollow (d := 0) h hc (by decide) (fun z ω1 k1 => ?_)
    refine J_aload_n 2 dL_law_237 rfl ?_
    refine J_aload_n 0 dL_law_238 rfl ?_
    refine J_iload_n 3 dL_law_239 rfl ?_
    refine J_iconst 1 dL_law_240 ⟨by decide, by decide⟩ ?_
    refine J_iadd dL_law_241 ⟨by omega, by omega⟩ ?_
    refine JL_ld ⟨by omega, by omega⟩ dL_law_242 ?_
    refine J_aload_n 0 dL_law_243 rfl ?_
    refine J_iload_n 3 dL_law_244 rfl ?_
    refine J_iconst 2 dL_law_245 ⟨by decide, by decide⟩ ?_
    refine J_iadd dL_law_246 ⟨by omega, by omega⟩ ?_
    refine JL_ld ⟨by omega, by omega⟩ dL_law_247 ?_
    refine J_if_eq 255 dL_law_248 (by decide) (fun h248 => ?_) (fun h248 => ?_)
    · skip
      refine J_iconst 0 dL_law_255 ⟨by decide, by decide⟩ ?_
      refine JL_V2 lkM_L_39 rcv_29 dL_law_256 (by decide) (Nat.le_of_ble_eq_true rfl) ?_
      refine k1 _ (fun ω2 h2 => ?_)
      refine J_icmp_eq 854 dL_law_259 (by decide) (fun h259 => ?_) (fun h259 => ?_)
      · skip
        exact kk ω2 h2
      · skip
        exact absurd rfl h259
    · skip
      exact absurd h226 h248
  · skip
    refine J_iconst 1 dL_law_229 ⟨by decide, by decide⟩ ?_
    refine J_goto 234 dL_law_230 (by decide) ?_
    refine JL_V2 lkM_L_35 rcv_0 dL_law_234 (by decide) (Nat.le_of_ble_eq_true rfl) ?_
    refine st_hollow (d := 0) h hc (by decide) (fun z ω1 k1 => ?_)
    refine J_aload_n 2 dL_law_237 rfl ?_
    refine J_aload_n 0 dL_law_238 rfl ?_
    refine J_iload_n 3 dL_law_239 rfl ?_
    refine J_iconst 1 dL_law_240 ⟨by decide, by decide⟩ ?_
    refine J_iadd dL_law_241 ⟨by omega, by omega⟩ ?_
    refine JL_ld ⟨by omega, by omega⟩ dL_law_242 ?_
    refine J_aload_n 0 dL_law_243 rfl ?_
    refine J_iload_n 3 dL_law_244 rfl ?_
    refine J_iconst 2 dL_law_245 ⟨by decide, by decide⟩ ?_
    refine J_iadd dL_law_246 ⟨by omega, by omega⟩ ?_
    refine JL_ld ⟨by omega, by omega⟩ dL_law_247 ?_
    refine J_if_eq 255 dL_law_248 (by decide) (fun h248 => ?_) (fun h248 => ?_)
    · skip
      exact absurd h248 h226
    · skip
      refine J_iconst 1 dL_law_251 ⟨by decide, by decide⟩ ?_
      refine J_goto 256 dL_law_252 (by decide) ?_
      refine JL_V2 lkM_L_39 rcv_29 dL_law_256 (by decide) (Nat.le_of_ble_eq_true rfl) ?_
      refine k1 _ (fun ω2 h2 => ?_)
      refine J_icmp_eq 854 dL_law_259 (by decide) (fun h259 => ?_) (fun h259 => ?_)
      · skip
        exact kk ω2 h2
      · skip
        exact absurd rfl h259
set_option maxRecDepth 100000 in
set_option maxHeartbeats 4000000 in
theorem lwc_6 {X : Cx} {L sz : Nat} {xs : Nat → Int32} {c : Nat} {ω : Om} (hL : L ≤ 2560) (hi : 5 * (c : Int) + 5 ≤ L) (h : RR c ω) (hc : c < 900000) (kk : ∀ ω2, RR (c + 1) ω2 → JL X L xs sz 854 [some (vR 52), some (vR 0), some (vR 29), some (vI (5 * (c : Int)))] [] ω2) : JL X L xs sz 264 [some (vR 52), some (vR 0), some (vR 29), some (vI (5 * (c : Int)))] [] ω := by
  refine J_aload_n 1 dL_law_264 rfl ?_
  refine J_aload_n 0 dL_law_265 rfl ?_
  refine J_iload_n 3 dL_law_266 rfl ?_
  refine J_iconst 1 dL_law_267 ⟨by decide, by decide⟩ ?_
  refine J_iadd dL_law_268 ⟨by omega, by omega⟩ ?_
  refine JL_ld ⟨by omega, by omega⟩ dL_law_269 ?_
  refine J_aload_n 0 dL_law_270 rfl ?_
  refine J_iload_n 3 dL_law_271 rfl ?_
  refine J_iconst 2 dL_law_272 ⟨by decide, by decide⟩ ?_
  refine J_iadd dL_law_273 ⟨by omega, by omega⟩ ?_
  refine JL_ld ⟨by omega, by omega⟩ dL_law_274 ?_
  refine JL_V2 lkM_L_40 rcv_0 dL_law_275 (by decide) (Nat.le_of_ble_eq_true rfl) ?_
  refine st_of (d := 0) h hc (fun z ω1 k1 => ?_)
  refine J_aload_n 2 dL_law_278 rfl ?_
  refine J_aload_n 0 dL_law_279 rfl ?_
  refine J_iload_n 3 dL_law_280 rfl ?_
  refine J_iconst 1 dL_law_281 ⟨by decide, by decide⟩ ?_
  refine J_iadd dL_law_282 ⟨by omega, by omega⟩ ?_
  refine JL_ld ⟨by omega, by omega⟩ dL_law_283 ?_
  refine J_aload_n 0 dL_law_284 rfl ?_
  refine J_iload_n 3 dL_law_285 rfl ?_
  refine J_iconst 2 dL_law_286 ⟨by decide, by decide⟩ ?_
  refine J_iadd dL_law_287 ⟨by omega, by omega⟩ ?_
  refine JL_ld ⟨by omega, by omega⟩ dL_law_288 ?_
  refine JL_V2 lkM_L_44 rcv_29 dL_law_289 (by decide) (Nat.le_of_ble_eq_true rfl) ?_
  refine k1 _ (fun ω2 h2 => ?_)
  refine J_icmp_eq 854 dL_law_292 (by decide) (fun h292 => ?_) (fun h292 => ?_)
  · skip
    exact kk ω2 h2
  · skip
    exact absurd rfl h292
set_option maxRecDepth 100000 in
set_option maxHeartbeats 4000000 in
theorem lwc_7 {X : Cx} {L sz : Nat} {xs : Nat → Int32} {c : Nat} {ω : Om} (hL : L ≤ 2560) (hi : 5 * (c : Int) + 5 ≤ L) (h : RR c ω) (hc : c < 900000) (kk : ∀ ω2, RR (c + 1) ω2 → JL X L xs sz 854 [some (vR 52), some (vR 0), some (vR 29), some (vI (5 * (c : Int)))] [] ω2) : JL X L xs sz 297 [some (vR 52), some (vR 0), some (vR 29), some (vI (5 * (c : Int)))] [] ω := by
  refine J_aload_n 1 dL_law_297 rfl ?_
  refine J_aload_n 0 dL_law_298 rfl ?_
  refine J_iload_n 3 dL_law_299 rfl ?_
  refine J_iconst 1 dL_law_300 ⟨by decide, by decide⟩ ?_
  refine J_iadd dL_law_301 ⟨by omega, by omega⟩ ?_
  refine JL_ld ⟨by omega, by omega⟩ dL_law_302 ?_
  refine J_aload_n 0 dL_law_303 rfl ?_
  refine J_iload_n 3 dL_law_304 rfl ?_
  refine J_iconst 2 dL_law_305 ⟨by decide, by decide⟩ ?_
  refine J_iadd dL_law_306 ⟨by omega, by omega⟩ ?_
  refine JL_ld ⟨by omega, by omega⟩ dL_law_307 ?_
  refine JL_V2 lkM_L_45 rcv_0 dL_law_308 (by decide) (Nat.le_of_ble_eq_true rfl) ?_
  refine st_has (d := 0) h hc (fun z ω1 k1 => ?_)
  refine J_aload_n 2 dL_law_311 rfl ?_
  refine J_aload_n 0 dL_law_312 rfl ?_
  refine J_iload_n 3 dL_law_313 rfl ?_
  refine J_iconst 1 dL_law_314 ⟨by decide, by decide⟩ ?_
  refine J_iadd dL_law_315 ⟨by omega, by omega⟩ ?_
  refine JL_ld ⟨by omega, by omega⟩ dL_law_316 ?_
  refine J_aload_n 0 dL_law_317 rfl ?_
  refine J_iload_n 3 dL_law_318 rfl ?_
  refine J_iconst 2 dL_law_319 ⟨by decide, by decide⟩ ?_
  refine J_iadd dL_law_320 ⟨by omega, by omega⟩ ?_
  refine JL_ld ⟨by omega, by omega⟩ dL_law_321 ?_
  refine JL_V2 lkM_L_48 rcv_29 dL_law_322 (by decide) (Nat.le_of_ble_eq_true rfl) ?_
  refine k1 _ (fun ω2 h2 => ?_)
  refine J_icmp_eq 854 dL_law_325 (by decide) (fun h325 => ?_) (fun h325 => ?_)
  · skip
    exact kk ω2 h2
  · skip
    exact absurd rfl h325
set_option maxRecDepth 100000 in
set_option maxHeartbeats 4000000 in
theorem lwc_8 {X : Cx} {L sz : Nat} {xs : Nat → Int32} {c : Nat} {ω : Om} (hL : L ≤ 2560) (hi : 5 * (c : Int) + 5 ≤ L) (h : RR c ω) (hc : c < 900000) (kk : ∀ ω2, RR (c + 1) ω2 → JL X L xs sz 854 [some (vR 52), some (vR 0), some (vR 29), some (vI (5 * (c : Int)))] [] ω2) : JL X L xs sz 330 [some (vR 52), some (vR 0), some (vR 29), some (vI (5 * (c : Int)))] [] ω := by
  refine J_aload_n 1 dL_law_330 rfl ?_
  refine J_aload_n 0 dL_law_331 rfl ?_
  refine J_iload_n 3 dL_law_332 rfl ?_
  refine J_iconst 1 dL_law_333 ⟨by decide, by decide⟩ ?_
  refine J_iadd dL_law_334 ⟨by omega, by omega⟩ ?_
  refine JL_ld ⟨by omega, by omega⟩ dL_law_335 ?_
  refine J_aload_n 0 dL_law_336 rfl ?_
  refine J_iload_n 3 dL_law_337 rfl ?_
  refine J_iconst 2 dL_law_338 ⟨by decide, by decide⟩ ?_
  refine J_iadd dL_law_339 ⟨by omega, by omega⟩ ?_
  refine JL_ld ⟨by omega, by omega⟩ dL_law_340 ?_
  refine J_aload_n 0 dL_law_341 rfl ?_
  refine J_iload_n 3 dL_law_342 rfl ?_
  refine J_iconst 3 dL_law_343 ⟨by decide, by decide⟩ ?_
  refine J_iadd dL_law_344 ⟨by omega, by omega⟩ ?_
  refine JL_ld ⟨by omega, by omega⟩ dL_law_345 ?_
  refine JL_V3 lkM_L_49 rcv_0 dL_law_346 (by decide) (Nat.le_of_ble_eq_true rfl) ?_
  refine st_answer (d := 0) h hc (fun z ω1 k1 => ?_)
  refine J_aload_n 2 dL_law_349 rfl ?_
  refine J_aload_n 0 dL_law_350 rfl ?_
  refine J_iload_n 3 dL_law_351 rfl ?_
  refine J_iconst 1 dL_law_352 ⟨by decide, by decide⟩ ?_
  refine J_iadd dL_law_353 ⟨by omega, by omega⟩ ?_
  refine JL_ld ⟨by omega, by omega⟩ dL_law_354 ?_
  refine J_aload_n 0 dL_law_355 rfl ?_
  refine J_iload_n 3 dL_law_356 rfl ?_
  refine J_iconst 2 dL_law_357 ⟨by decide, by decide⟩ ?_
  refine J_iadd dL_law_358 ⟨by omega, by omega⟩ ?_
  refine JL_ld ⟨by omega, by omega⟩ dL_law_359 ?_
  refine J_aload_n 0 dL_law_360 rfl ?_
  refine J_iload_n 3 dL_law_361 rfl ?_
  refine J_iconst 3 dL_law_362 ⟨by decide, by decide⟩ ?_
  refine J_iadd dL_law_363 ⟨by omega, by omega⟩ ?_
  refine JL_ld ⟨by omega, by omega⟩ dL_law_364 ?_
  refine JL_V3 lkM_L_53 rcv_29 dL_law_365 (by decide) (Nat.le_of_ble_eq_true rfl) ?_
  refine k1 _ (fun ω2 h2 => ?_)
  refine J_icmp_eq 854 dL_law_368 (by decide) (fun h368 => ?_) (fun h368 => ?_)
  · skip
    exact kk ω2 h2
  · skip
    exact absurd rfl h368
set_option maxRecDepth 100000 in
set_option maxHeartbeats 4000000 in
theorem lwc_9 {X : Cx} {L sz : Nat} {xs : Nat → Int32} {c : Nat} {ω : Om} (hL : L ≤ 2560) (hi : 5 * (c : Int) + 5 ≤ L) (h : RR c ω) (hc : c < 900000) (kk : ∀ ω2, RR (c + 1) ω2 → JL X L xs sz 854 [some (vR 52), some (vR 0), some (vR 29), some (vI (5 * (c : Int)))] [] ω2) : JL X L xs sz 373 [some (vR 52), some (vR 0), some (vR 29), some (vI (5 * (c : Int)))] [] ω := by
  refine J_aload_n 1 dL_law_373 rfl ?_
  refine J_aload_n 0 dL_law_374 rfl ?_
  refine J_iload_n 3 dL_law_375 rfl ?_
  refine J_iconst 1 dL_law_376 ⟨by decide, by decide⟩ ?_
  refine J_iadd dL_law_377 ⟨by omega, by omega⟩ ?_
  refine JL_ld ⟨by omega, by omega⟩ dL_law_378 ?_
  refine J_aload_n 0 dL_law_379 rfl ?_
  refine J_iload_n 3 dL_law_380 rfl ?_
  refine J_iconst 2 dL_law_381 ⟨by decide, by decide⟩ ?_
  refine J_iadd dL_law_382 ⟨by omega, by omega⟩ ?_
  refine JL_ld ⟨by omega, by omega⟩ dL_law_383 ?_
  refine JL_V2 lkM_L_54 rcv_0 dL_law_384 (by decide) (Nat.le_of_ble_eq_true rfl) ?_
  refine st_body (d := 0) h hc (fun z ω1 k1 => ?_)
  refine J_aload_n 2 dL_law_387 rfl ?_
  refine J_aload_n 0 dL_law_388 rfl ?_
  refine J_iload_n 3 dL_law_389 rfl ?_
  refine J_iconst 1 dL_law_390 ⟨by decide, by decide⟩ ?_
  refine J_iadd dL_law_391 ⟨by omega, by omega⟩ ?_
  refine JL_ld ⟨by omega, by omega⟩ dL_law_392 ?_
  refine J_aload_n 0 dL_law_393 rfl ?_
  refine J_iload_n 3 dL_law_394 rfl ?_
  refine J_iconst 2 dL_law_395 ⟨by decide, by decide⟩ ?_
  refine J_iadd dL_law_396 ⟨by omega, by omega⟩ ?_
  refine JL_ld ⟨by omega, by omega⟩ dL_law_397 ?_
  refine JL_V2 lkM_L_57 rcv_29 dL_law_398 (by decide) (Nat.le_of_ble_eq_true rfl) ?_
  refine k1 _ (fun ω2 h2 => ?_)
  refine J_icmp_eq 854 dL_law_401 (by decide) (fun h401 => ?_) (fun h401 => ?_)
  · skip
    exact kk ω2 h2
  · skip
    exact absurd rfl h401
set_option maxRecDepth 100000 in
set_option maxHeartbeats 4000000 in
theorem lwc_10 {X : Cx} {L sz : Nat} {xs : Nat → Int32} {c : Nat} {ω : Om} (hL : L ≤ 2560) (hi : 5 * (c : Int) + 5 ≤ L) (h : RR c ω) (hc : c < 900000) (kk : ∀ ω2, RR (c + 1) ω2 → JL X L xs sz 854 [some (vR 52), some (vR 0), some (vR 29), some (vI (5 * (c : Int)))] [] ω2) : JL X L xs sz 406 [some (vR 52), some (vR 0), some (vR 29), some (vI (5 * (c : Int)))] [] ω := by
  refine J_aload_n 1 dL_law_406 rfl ?_
  refine J_aload_n 0 dL_law_407 rfl ?_
  refine J_iload_n 3 dL_law_408 rfl ?_
  refine J_iconst 1 dL_law_409 ⟨by decide, by decide⟩ ?_
  refine J_iadd dL_law_410 ⟨by omega, by omega⟩ ?_
  refine JL_ld ⟨by omega, by omega⟩ dL_law_411 ?_
  refine J_aload_n 0 dL_law_412 rfl ?_
  refine J_iload_n 3 dL_law_413 rfl ?_
  refine J_iconst 2 dL_law_414 ⟨by decide, by decide⟩ ?_
  refine J_iadd dL_law_415 ⟨by omega, by omega⟩ ?_
  refine JL_ld ⟨by omega, by omega⟩ dL_law_416 ?_
  refine J_aload_n 0 dL_law_417 rfl ?_
  refine J_iload_n 3 dL_law_418 rfl ?_
  refine J_iconst 3 dL_law_419 ⟨by decide, by decide⟩ ?_
  refine J_iadd dL_law_420 ⟨by omega, by omega⟩ ?_
  refine JL_ld ⟨by omega, by omega⟩ dL_law_421 ?_
  refine JL_V3 lkM_L_58 rcv_0 dL_law_422 (by decide) (Nat.le_of_ble_eq_true rfl) ?_
  refine st_trace (d := 0) h hc (fun z ω1 k1 => ?_)
  refine J_aload_n 2 dL_law_425 rfl ?_
  refine J_aload_n 0 dL_law_426 rfl ?_
  refine J_iload_n 3 dL_law_427 rfl ?_
  refine J_iconst 1 dL_law_428 ⟨by decide, by decide⟩ ?_
  refine J_iadd dL_law_429 ⟨by omega, by omega⟩ ?_
  refine JL_ld ⟨by omega, by omega⟩ dL_law_430 ?_
  refine J_aload_n 0 dL_law_431 rfl ?_
  refine J_iload_n 3 dL_law_432 rfl ?_
  refine J_iconst 2 dL_law_433 ⟨by decide, by decide⟩ ?_
  refine J_iadd dL_law_434 ⟨by omega, by omega⟩ ?_
  refine JL_ld ⟨by omega, by omega⟩ dL_law_435 ?_
  refine J_aload_n 0 dL_law_436 rfl ?_
  refine J_iload_n 3 dL_law_437 rfl ?_
  refine J_iconst 3 dL_law_438 ⟨by decide, by decide⟩ ?_
  refine J_iadd dL_law_439 ⟨by omega, by omega⟩ ?_
  refine JL_ld ⟨by omega, by omega⟩ dL_law_440 ?_
  refine JL_V3 lkM_L_61 rcv_29 dL_law_441 (by decide) (Nat.le_of_ble_eq_true rfl) ?_
  refine k1 _ (fun ω2 h2 => ?_)
  refine J_icmp_eq 854 dL_law_444 (by decide) (fun h444 => ?_) (fun h444 => ?_)
  · skip
    exact kk ω2 h2
  · skip
    exact absurd rfl h444
set_option maxRecDepth 100000 in
set_option maxHeartbeats 4000000 in
theorem lwc_11 {X : Cx} {L sz : Nat} {xs : Nat → Int32} {c : Nat} {ω : Om} (hL : L ≤ 2560) (hi : 5 * (c : Int) + 5 ≤ L) (h : RR c ω) (hc : c < 900000) (kk : ∀ ω2, RR (c + 1) ω2 → JL X L xs sz 854 [some (vR 52), some (vR 0), some (vR 29), some (vI (5 * (c : Int)))] [] ω2) : JL X L xs sz 449 [some (vR 52), some (vR 0), some (vR 29), some (vI (5 * (c : Int)))] [] ω := by
  refine J_aload_n 1 dL_law_449 rfl ?_
  refine J_aload_n 0 dL_law_450 rfl ?_
  refine J_iload_n 3 dL_law_451 rfl ?_
  refine J_iconst 1 dL_law_452 ⟨by decide, by decide⟩ ?_
  refine J_iadd dL_law_453 ⟨by omega, by omega⟩ ?_
  refine JL_ld ⟨by omega, by omega⟩ dL_law_454 ?_
  refine J_aload_n 0 dL_law_455 rfl ?_
  refine J_iload_n 3 dL_law_456 rfl ?_
  refine J_iconst 2 dL_law_457 ⟨by decide, by decide⟩ ?_
  refine J_iadd dL_law_458 ⟨by omega, by omega⟩ ?_
  refine JL_ld ⟨by omega, by omega⟩ dL_law_459 ?_
  refine J_aload_n 0 dL_law_460 rfl ?_
  refine J_iload_n 3 dL_law_461 rfl ?_
  refine J_iconst 3 dL_law_462 ⟨by decide, by decide⟩ ?_
  refine J_iadd dL_law_463 ⟨by omega, by omega⟩ ?_
  refine JL_ld ⟨by omega, by omega⟩ dL_law_464 ?_
  refine J_aload_n 0 dL_law_465 rfl ?_
  refine J_iload_n 3 dL_law_466 rfl ?_
  refine J_iconst 4 dL_law_467 ⟨by decide, by decide⟩ ?_
  refine J_iadd dL_law_468 ⟨by omega, by omega⟩ ?_
  refine JL_ld ⟨by omega, by omega⟩ dL_law_469 ?_
  refine JL_V4 lkM_L_62 rcv_0 dL_law_470 (by decide) (Nat.le_of_ble_eq_true rfl) ?_
  refine st_event (d := 0) h hc (fun z ω1 k1 => ?_)
  refine J_aload_n 2 dL_law_473 rfl ?_
  refine J_aload_n 0 dL_law_474 rfl ?_
  refine J_iload_n 3 dL_law_475 rfl ?_
  refine J_iconst 1 dL_law_476 ⟨by decide, by decide⟩ ?_
  refine J_iadd dL_law_477 ⟨by omega, by omega⟩ ?_
  refine JL_ld ⟨by omega, by omega⟩ dL_law_478 ?_
  refine J_aload_n 0 dL_law_479 rfl ?_
  refine J_iload_n 3 dL_law_480 rfl ?_
  refine J_iconst 2 dL_law_481 ⟨by decide, by decide⟩ ?_
  refine J_iadd dL_law_482 ⟨by omega, by omega⟩ ?_
  refine JL_ld ⟨by omega, by omega⟩ dL_law_483 ?_
  refine J_aload_n 0 dL_law_484 rfl ?_
  refine J_iload_n 3 dL_law_485 rfl ?_
  refine J_iconst 3 dL_law_486 ⟨by decide, by decide⟩ ?_
  refine J_iadd dL_law_487 ⟨by omega, by omega⟩ ?_
  refine JL_ld ⟨by omega, by omega⟩ dL_law_488 ?_
  refine J_aload_n 0 dL_law_489 rfl ?_
  refine J_iload_n 3 dL_law_490 rfl ?_
  refine J_iconst 4 dL_law_491 ⟨by decide, by decide⟩ ?_
  refine J_iadd dL_law_492 ⟨by omega, by omega⟩ ?_
  refine JL_ld ⟨by omega, by omega⟩ dL_law_493 ?_
  refine JL_V4 lkM_L_66 rcv_29 dL_law_494 (by decide) (Nat.le_of_ble_eq_true rfl) ?_
  refine k1 _ (fun ω2 h2 => ?_)
  refine J_icmp_eq 854 dL_law_497 (by decide) (fun h497 => ?_) (fun h497 => ?_)
  · skip
    exact kk ω2 h2
  · skip
    exact absurd rfl h497
set_option maxRecDepth 100000 in
set_option maxHeartbeats 4000000 in
theorem lwc_12 {X : Cx} {L sz : Nat} {xs : Nat → Int32} {c : Nat} {ω : Om} (hL : L ≤ 2560) (hi : 5 * (c : Int) + 5 ≤ L) (h : RR c ω) (hc : c < 900000) (kk : ∀ ω2, RR (c + 1) ω2 → JL X L xs sz 854 [some (vR 52), some (vR 0), some (vR 29), some (vI (5 * (c : Int)))] [] ω2) : JL X L xs sz 502 [some (vR 52), some (vR 0), some (vR 29), some (vI (5 * (c : Int)))] [] ω := by
  refine J_aload_n 1 dL_law_502 rfl ?_
  refine J_aload_n 0 dL_law_503 rfl ?_
  refine J_iload_n 3 dL_law_504 rfl ?_
  refine J_iconst 1 dL_law_505 ⟨by decide, by decide⟩ ?_
  refine J_iadd dL_law_506 ⟨by omega, by omega⟩ ?_
  refine JL_ld ⟨by omega, by omega⟩ dL_law_507 ?_
  refine J_aload_n 0 dL_law_508 rfl ?_
  refine J_iload_n 3 dL_law_509 rfl ?_
  refine J_iconst 2 dL_law_510 ⟨by decide, by decide⟩ ?_
  refine J_iadd dL_law_511 ⟨by omega, by omega⟩ ?_
  refine JL_ld ⟨by omega, by omega⟩ dL_law_512 ?_
  refine J_aload_n 0 dL_law_513 rfl ?_
  refine J_iload_n 3 dL_law_514 rfl ?_
  refine J_iconst 3 dL_law_515 ⟨by decide, by decide⟩ ?_
  refine J_iadd dL_law_516 ⟨by omega, by omega⟩ ?_
  refine JL_ld ⟨by omega, by omega⟩ dL_law_517 ?_
  refine J_if_eq 525 dL_law_518 (by decide) (fun h518 => ?_) (fun h518 => ?_)
  · skip
    refine J_iconst 0 dL_law_525 ⟨by decide, by decide⟩ ?_
    refine JL_V3 lkM_L_67 rcv_0 dL_law_526 (by decide) (Nat.le_of_ble_eq_true rfl) ?_
    refine st_why (d := 0) h hc (fun z ω1 k1 => ?_)
    refine J_aload_n 2 dL_law_529 rfl ?_
    refine J_aload_n 0 dL_law_530 rfl ?_
    refine J_iload_n 3 dL_law_531 rfl ?_
    refine J_iconst 1 dL_law_532 ⟨by decide, by decide⟩ ?_
    refine J_iadd dL_law_533 ⟨by omega, by omega⟩ ?_
    refine JL_ld ⟨by omega, by omega⟩ dL_law_534 ?_
    refine J_aload_n 0 dL_law_535 rfl ?_
    refine J_iload_n 3 dL_law_536 rfl ?_
    refine J_iconst 2 dL_law_537 ⟨by decide, by decide⟩ ?_
    refine J_iadd dL_law_538 ⟨by omega, by omega⟩ ?_
    refine JL_ld ⟨by omega, by omega⟩ dL_law_539 ?_
    refine J_aload_n 0 dL_law_540 rfl ?_
    refine J_iload_n 3 dL_law_541 rfl ?_
    refine J_iconst 3 dL_law_542 ⟨by decide, by decide⟩ ?_
    refine J_iadd dL_law_543 ⟨by omega, by omega⟩ ?_
    refine JL_ld ⟨by omega, by omega⟩ dL_law_544 ?_
    refine J_if_eq 552 dL_law_545 (by decide) (fun h545 => ?_) (fun h545 => ?_)
    · skip
      refine J_iconst 0 dL_law_552 ⟨by decide, by decide⟩ ?_
      refine JL_V3 lkM_L_71 rcv_29 dL_law_553 (by decide) (Nat.le_of_ble_eq_true rfl) ?_
      refine k1 _ (fun ω2 h2 => ?_)
      refine J_icmp_eq 854 dL_law_556 (by decide) (fun h556 => ?_) (fun h556 => ?_)
      · skip
        exact kk ω2 h2
      · skip
        exact absurd rfl h556
    · skip
      exact absurd h518 h545
  · skip
    refine J_iconst 1 dL_law_521 ⟨by decide, by decide⟩ ?_
    refine J_goto 526 dL_law_522 (by decide) ?_
    refine JL_V3 lkM_L_67 rcv_0 dL_law_526 (by decide) (Nat.le_of_ble_eq_true rfl) ?_
    refine st_why (d := 0) h hc (fun z ω1 k1 => ?_)
    refine J_aload_n 2 dL_law_529 rfl ?_
    refine J_aload_n 0 dL_law_530 rfl ?_
    refine J_iload_n 3 dL_law_531 rfl ?_
    refine J_iconst 1 dL_law_532 ⟨by decide, by decide⟩ ?_
    refine J_iadd dL_law_533 ⟨by omega, by omega⟩ ?_
    refine JL_ld ⟨by omega, by omega⟩ dL_law_534 ?_
    refine J_aload_n 0 dL_law_535 rfl ?_
    refine J_iload_n 3 dL_law_536 rfl ?_
    refine J_iconst 2 dL_law_537 ⟨by decide, by decide⟩ ?_
    refine J_iadd dL_law_538 ⟨by omega, by omega⟩ ?_
    refine JL_ld ⟨by omega, by omega⟩ dL_law_539 ?_
    refine J_aload_n 0 dL_law_540 rfl ?_
    refine J_iload_n 3 dL_law_541 rfl ?_
    refine J_iconst 3 dL_law_542 ⟨by decide, by decide⟩ ?_
    refine J_iadd dL_law_543 ⟨by omega, by omega⟩ ?_
    refine JL_ld ⟨by omega, by omega⟩ dL_law_544 ?_
    refine J_if_eq 552 dL_law_545 (by decide) (fun h545 => ?_) (fun h545 => ?_)
    · skip
      exact absurd h545 h518
    · skip
      refine J_iconst 1 dL_law_548 ⟨by decide, by decide⟩ ?_
      refine J_goto 553 dL_law_549 (by decide) ?_
      refine JL_V3 lkM_L_71 rcv_29 dL_law_553 (by decide) (Nat.le_of_ble_eq_true rfl) ?_
      refine k1 _ (fun ω2 h2 => ?_)
      refine J_icmp_eq 854 dL_law_556 (by decide) (fun h556 => ?_) (fun h556 => ?_)
      · skip
        exact kk ω2 h2
      · skip
        exact absurd rfl h556
set_option maxRecDepth 100000 in
set_option maxHeartbeats 4000000 in
theorem lwc_13 {X : Cx} {L sz : Nat} {xs : Nat → Int32} {c : Nat} {ω : Om} (hL : L ≤ 2560) (hi : 5 * (c : Int) + 5 ≤ L) (h : RR c ω) (hc : c < 900000) (kk : ∀ ω2, RR (c + 1) ω2 → JL X L xs sz 854 [some (vR 52), some (vR 0), some (vR 29), some (vI (5 * (c : Int)))] [] ω2) : JL X L xs sz 561 [some (vR 52), some (vR 0), some (vR 29), some (vI (5 * (c : Int)))] [] ω := by
  refine J_aload_n 1 dL_law_561 rfl ?_
  refine J_aload_n 0 dL_law_562 rfl ?_
  refine J_iload_n 3 dL_law_563 rfl ?_
  refine J_iconst 1 dL_law_564 ⟨by decide, by decide⟩ ?_
  refine J_iadd dL_law_565 ⟨by omega, by omega⟩ ?_
  refine JL_ld ⟨by omega, by omega⟩ dL_law_566 ?_
  refine J_aload_n 0 dL_law_567 rfl ?_
  refine J_iload_n 3 dL_law_568 rfl ?_
  refine J_iconst 2 dL_law_569 ⟨by decide, by decide⟩ ?_
  refine J_iadd dL_law_570 ⟨by omega, by omega⟩ ?_
  refine JL_ld ⟨by omega, by omega⟩ dL_law_571 ?_
  refine J_aload_n 0 dL_law_572 rfl ?_
  refine J_iload_n 3 dL_law_573 rfl ?_
  refine J_iconst 3 dL_law_574 ⟨by decide, by decide⟩ ?_
  refine J_iadd dL_law_575 ⟨by omega, by omega⟩ ?_
  refine JL_ld ⟨by omega, by omega⟩ dL_law_576 ?_
  refine J_if_eq 584 dL_law_577 (by decide) (fun h577 => ?_) (fun h577 => ?_)
  · skip
    refine J_iconst 0 dL_law_584 ⟨by decide, by decide⟩ ?_
    refine JL_V3 lkM_L_72 rcv_0 dL_law_585 (by decide) (Nat.le_of_ble_eq_true rfl) ?_
    refine st_where (d := 0) h hc (fun z ω1 k1 => ?_)
    refine J_aload_n 2 dL_law_588 rfl ?_
    refine J_aload_n 0 dL_law_589 rfl ?_
    refine J_iload_n 3 dL_law_590 rfl ?_
    refine J_iconst 1 dL_law_591 ⟨by decide, by decide⟩ ?_
    refine J_iadd dL_law_592 ⟨by omega, by omega⟩ ?_
    refine JL_ld ⟨by omega, by omega⟩ dL_law_593 ?_
    refine J_aload_n 0 dL_law_594 rfl ?_
    refine J_iload_n 3 dL_law_595 rfl ?_
    refine J_iconst 2 dL_law_596 ⟨by decide, by decide⟩ ?_
    refine J_iadd dL_law_597 ⟨by omega, by omega⟩ ?_
    refine JL_ld ⟨by omega, by omega⟩ dL_law_598 ?_
    refine J_aload_n 0 dL_law_599 rfl ?_
    refine J_iload_n 3 dL_law_600 rfl ?_
    refine J_iconst 3 dL_law_601 ⟨by decide, by decide⟩ ?_
    refine J_iadd dL_law_602 ⟨by omega, by omega⟩ ?_
    refine JL_ld ⟨by omega, by omega⟩ dL_law_603 ?_
    refine J_if_eq 611 dL_law_604 (by decide) (fun h604 => ?_) (fun h604 => ?_)
    · skip
      refine J_iconst 0 dL_law_611 ⟨by decide, by decide⟩ ?_
      refine JL_V3 lkM_L_75 rcv_29 dL_law_612 (by decide) (Nat.le_of_ble_eq_true rfl) ?_
      refine k1 _ (fun ω2 h2 => ?_)
      refine J_icmp_eq 854 dL_law_615 (by decide) (fun h615 => ?_) (fun h615 => ?_)
      · skip
        exact kk ω2 h2
      · skip
        exact absurd rfl h615
    · skip
      exact absurd h577 h604
  · skip
    refine J_iconst 1 dL_law_580 ⟨by decide, by decide⟩ ?_
    refine J_goto 585 dL_law_581 (by decide) ?_
    refine JL_V3 lkM_L_72 rcv_0 dL_law_585 (by decide) (Nat.le_of_ble_eq_true rfl) ?_
    refine st_where (d := 0) h hc (fun z ω1 k1 => ?_)
    refine J_aload_n 2 dL_law_588 rfl ?_
    refine J_aload_n 0 dL_law_589 rfl ?_
    refine J_iload_n 3 dL_law_590 rfl ?_
    refine J_iconst 1 dL_law_591 ⟨by decide, by decide⟩ ?_
    refine J_iadd dL_law_592 ⟨by omega, by omega⟩ ?_
    refine JL_ld ⟨by omega, by omega⟩ dL_law_593 ?_
    refine J_aload_n 0 dL_law_594 rfl ?_
    refine J_iload_n 3 dL_law_595 rfl ?_
    refine J_iconst 2 dL_law_596 ⟨by decide, by decide⟩ ?_
    refine J_iadd dL_law_597 ⟨by omega, by omega⟩ ?_
    refine JL_ld ⟨by omega, by omega⟩ dL_law_598 ?_
    refine J_aload_n 0 dL_law_599 rfl ?_
    refine J_iload_n 3 dL_law_600 rfl ?_
    refine J_iconst 3 dL_law_601 ⟨by decide, by decide⟩ ?_
    refine J_iadd dL_law_602 ⟨by omega, by omega⟩ ?_
    refine JL_ld ⟨by omega, by omega⟩ dL_law_603 ?_
    refine J_if_eq 611 dL_law_604 (by decide) (fun h604 => ?_) (fun h604 => ?_)
    · skip
      exact absurd h604 h577
    · skip
      refine J_iconst 1 dL_law_607 ⟨by decide, by decide⟩ ?_
      refine J_goto 612 dL_law_608 (by decide) ?_
      refine JL_V3 lkM_L_75 rcv_29 dL_law_612 (by decide) (Nat.le_of_ble_eq_true rfl) ?_
      refine k1 _ (fun ω2 h2 => ?_)
      refine J_icmp_eq 854 dL_law_615 (by decide) (fun h615 => ?_) (fun h615 => ?_)
      · skip
        exact kk ω2 h2
      · skip
        exact absurd rfl h615
set_option maxRecDepth 100000 in
set_option maxHeartbeats 4000000 in
theorem lwc_14 {X : Cx} {L sz : Nat} {xs : Nat → Int32} {c : Nat} {ω : Om} (hL : L ≤ 2560) (hi : 5 * (c : Int) + 5 ≤ L) (h : RR c ω) (hc : c < 900000) (kk : ∀ ω2, RR (c + 1) ω2 → JL X L xs sz 854 [some (vR 52), some (vR 0), some (vR 29), some (vI (5 * (c : Int)))] [] ω2) : JL X L xs sz 620 [some (vR 52), some (vR 0), some (vR 29), some (vI (5 * (c : Int)))] [] ω := by
  refine J_aload_n 1 dL_law_620 rfl ?_
  refine J_aload_n 0 dL_law_621 rfl ?_
  refine J_iload_n 3 dL_law_622 rfl ?_
  refine J_iconst 1 dL_law_623 ⟨by decide, by decide⟩ ?_
  refine J_iadd dL_law_624 ⟨by omega, by omega⟩ ?_
  refine JL_ld ⟨by omega, by omega⟩ dL_law_625 ?_
  refine J_aload_n 0 dL_law_626 rfl ?_
  refine J_iload_n 3 dL_law_627 rfl ?_
  refine J_iconst 2 dL_law_628 ⟨by decide, by decide⟩ ?_
  refine J_iadd dL_law_629 ⟨by omega, by omega⟩ ?_
  refine JL_ld ⟨by omega, by omega⟩ dL_law_630 ?_
  refine J_aload_n 0 dL_law_631 rfl ?_
  refine J_iload_n 3 dL_law_632 rfl ?_
  refine J_iconst 3 dL_law_633 ⟨by decide, by decide⟩ ?_
  refine J_iadd dL_law_634 ⟨by omega, by omega⟩ ?_
  refine JL_ld ⟨by omega, by omega⟩ dL_law_635 ?_
  refine J_if_eq 643 dL_law_636 (by decide) (fun h636 => ?_) (fun h636 => ?_)
  · skip
    refine J_iconst 0 dL_law_643 ⟨by decide, by decide⟩ ?_
    refine JL_V3 lkM_L_76 rcv_0 dL_law_644 (by decide) (Nat.le_of_ble_eq_true rfl) ?_
    refine st_move (d := 0) h hc (fun z ω1 k1 => ?_)
    refine J_aload_n 2 dL_law_647 rfl ?_
    refine J_aload_n 0 dL_law_648 rfl ?_
    refine J_iload_n 3 dL_law_649 rfl ?_
    refine J_iconst 1 dL_law_650 ⟨by decide, by decide⟩ ?_
    refine J_iadd dL_law_651 ⟨by omega, by omega⟩ ?_
    refine JL_ld ⟨by omega, by omega⟩ dL_law_652 ?_
    refine J_aload_n 0 dL_law_653 rfl ?_
    refine J_iload_n 3 dL_law_654 rfl ?_
    refine J_iconst 2 dL_law_655 ⟨by decide, by decide⟩ ?_
    refine J_iadd dL_law_656 ⟨by omega, by omega⟩ ?_
    refine JL_ld ⟨by omega, by omega⟩ dL_law_657 ?_
    refine J_aload_n 0 dL_law_658 rfl ?_
    refine J_iload_n 3 dL_law_659 rfl ?_
    refine J_iconst 3 dL_law_660 ⟨by decide, by decide⟩ ?_
    refine J_iadd dL_law_661 ⟨by omega, by omega⟩ ?_
    refine JL_ld ⟨by omega, by omega⟩ dL_law_662 ?_
    refine J_if_eq 670 dL_law_663 (by decide) (fun h663 => ?_) (fun h663 => ?_)
    · skip
      refine J_iconst 0 dL_law_670 ⟨by decide, by decide⟩ ?_
      refine JL_V3 lkM_L_79 rcv_29 dL_law_671 (by decide) (Nat.le_of_ble_eq_true rfl) ?_
      refine k1 _ (fun ω2 h2 => ?_)
      refine J_icmp_eq 854 dL_law_674 (by decide) (fun h674 => ?_) (fun h674 => ?_)
      · skip
        exact kk ω2 h2
      · skip
        exact absurd rfl h674
    · skip
      exact absurd h636 h663
  · skip
    refine J_iconst 1 dL_law_639 ⟨by decide, by decide⟩ ?_
    refine J_goto 644 dL_law_640 (by decide) ?_
    refine JL_V3 lkM_L_76 rcv_0 dL_law_644 (by decide) (Nat.le_of_ble_eq_true rfl) ?_
    refine st_move (d := 0) h hc (fun z ω1 k1 => ?_)
    refine J_aload_n 2 dL_law_647 rfl ?_
    refine J_aload_n 0 dL_law_648 rfl ?_
    refine J_iload_n 3 dL_law_649 rfl ?_
    refine J_iconst 1 dL_law_650 ⟨by decide, by decide⟩ ?_
    refine J_iadd dL_law_651 ⟨by omega, by omega⟩ ?_
    refine JL_ld ⟨by omega, by omega⟩ dL_law_652 ?_
    refine J_aload_n 0 dL_law_653 rfl ?_
    refine J_iload_n 3 dL_law_654 rfl ?_
    refine J_iconst 2 dL_law_655 ⟨by decide, by decide⟩ ?_
    refine J_iadd dL_law_656 ⟨by omega, by omega⟩ ?_
    refine JL_ld ⟨by omega, by omega⟩ dL_law_657 ?_
    refine J_aload_n 0 dL_law_658 rfl ?_
    refine J_iload_n 3 dL_law_659 rfl ?_
    refine J_iconst 3 dL_law_660 ⟨by decide, by decide⟩ ?_
    refine J_iadd dL_law_661 ⟨by omega, by omega⟩ ?_
    refine JL_ld ⟨by omega, by omega⟩ dL_law_662 ?_
    refine J_if_eq 670 dL_law_663 (by decide) (fun h663 => ?_) (fun h663 => ?_)
    · skip
      exact absurd h663 h636
    · skip
      refine J_iconst 1 dL_law_666 ⟨by decide, by decide⟩ ?_
      refine J_goto 671 dL_law_667 (by decide) ?_
      refine JL_V3 lkM_L_79 rcv_29 dL_law_671 (by decide) (Nat.le_of_ble_eq_true rfl) ?_
      refine k1 _ (fun ω2 h2 => ?_)
      refine J_icmp_eq 854 dL_law_674 (by decide) (fun h674 => ?_) (fun h674 => ?_)
      · skip
        exact kk ω2 h2
      · skip
        exact absurd rfl h674
set_option maxRecDepth 100000 in
set_option maxHeartbeats 4000000 in
theorem lwc_15 {X : Cx} {L sz : Nat} {xs : Nat → Int32} {c : Nat} {ω : Om} (hL : L ≤ 2560) (hi : 5 * (c : Int) + 5 ≤ L) (h : RR c ω) (hc : c < 900000) (kk : ∀ ω2, RR (c + 1) ω2 → JL X L xs sz 854 [some (vR 52), some (vR 0), some (vR 29), some (vI (5 * (c : Int)))] [] ω2) : JL X L xs sz 679 [some (vR 52), some (vR 0), some (vR 29), some (vI (5 * (c : Int)))] [] ω := by
  refine J_aload_n 1 dL_law_679 rfl ?_
  refine JL_V0 lkM_L_80 rcv_0 dL_law_680 (by decide) (Nat.le_of_ble_eq_true rfl) ?_
  refine st_undo (d := 0) h hc (fun z ω1 k1 => ?_)
  refine J_aload_n 2 dL_law_683 rfl ?_
  refine JL_V0 lkM_L_83 rcv_29 dL_law_684 (by decide) (Nat.le_of_ble_eq_true rfl) ?_
  refine k1 _ (fun ω2 h2 => ?_)
  refine J_icmp_eq 854 dL_law_687 (by decide) (fun h687 => ?_) (fun h687 => ?_)
  · skip
    exact kk ω2 h2
  · skip
    exact absurd rfl h687
set_option maxRecDepth 100000 in
set_option maxHeartbeats 4000000 in
theorem lwc_16 {X : Cx} {L sz : Nat} {xs : Nat → Int32} {c : Nat} {ω : Om} (hL : L ≤ 2560) (hi : 5 * (c : Int) + 5 ≤ L) (h : RR c ω) (hc : c < 900000) (kk : ∀ ω2, RR (c + 1) ω2 → JL X L xs sz 854 [some (vR 52), some (vR 0), some (vR 29), some (vI (5 * (c : Int)))] [] ω2) : JL X L xs sz 692 [some (vR 52), some (vR 0), some (vR 29), some (vI (5 * (c : Int)))] [] ω := by
  refine J_aload_n 1 dL_law_692 rfl ?_
  refine J_aload_n 0 dL_law_693 rfl ?_
  refine J_iload_n 3 dL_law_694 rfl ?_
  refine J_iconst 1 dL_law_695 ⟨by decide, by decide⟩ ?_
  refine J_iadd dL_law_696 ⟨by omega, by omega⟩ ?_
  refine JL_ld ⟨by omega, by omega⟩ dL_law_697 ?_
  refine JL_V1 lkM_L_84 rcv_0 dL_law_698 (by decide) (Nat.le_of_ble_eq_true rfl) ?_
  refine st_moves (d := 0) h hc (fun z ω1 k1 => ?_)
  refine J_aload_n 2 dL_law_701 rfl ?_
  refine J_aload_n 0 dL_law_702 rfl ?_
  refine J_iload_n 3 dL_law_703 rfl ?_
  refine J_iconst 1 dL_law_704 ⟨by decide, by decide⟩ ?_
  refine J_iadd dL_law_705 ⟨by omega, by omega⟩ ?_
  refine JL_ld ⟨by omega, by omega⟩ dL_law_706 ?_
  refine JL_V1 lkM_L_87 rcv_29 dL_law_707 (by decide) (Nat.le_of_ble_eq_true rfl) ?_
  refine k1 _ (fun ω2 h2 => ?_)
  refine J_icmp_eq 854 dL_law_710 (by decide) (fun h710 => ?_) (fun h710 => ?_)
  · skip
    exact kk ω2 h2
  · skip
    exact absurd rfl h710
set_option maxRecDepth 100000 in
set_option maxHeartbeats 4000000 in
theorem lwc_17 {X : Cx} {L sz : Nat} {xs : Nat → Int32} {c : Nat} {ω : Om} (hL : L ≤ 2560) (hi : 5 * (c : Int) + 5 ≤ L) (h : RR c ω) (hc : c < 900000) (kk : ∀ ω2, RR (c + 1) ω2 → JL X L xs sz 854 [some (vR 52), some (vR 0), some (vR 29), some (vI (5 * (c : Int)))] [] ω2) : JL X L xs sz 715 [some (vR 52), some (vR 0), some (vR 29), some (vI (5 * (c : Int)))] [] ω := by
  refine J_aload_n 1 dL_law_715 rfl ?_
  refine J_aload_n 0 dL_law_716 rfl ?_
  refine J_iload_n 3 dL_law_717 rfl ?_
  refine J_iconst 1 dL_law_718 ⟨by decide, by decide⟩ ?_
  refine J_iadd dL_law_719 ⟨by omega, by omega⟩ ?_
  refine JL_ld ⟨by omega, by omega⟩ dL_law_720 ?_
  refine JL_V1 lkM_L_88 rcv_0 dL_law_721 (by decide) (Nat.le_of_ble_eq_true rfl) ?_
  refine st_contract (d := 0) h hc (fun z ω1 k1 => ?_)
  refine J_aload_n 2 dL_law_724 rfl ?_
  refine J_aload_n 0 dL_law_725 rfl ?_
  refine J_iload_n 3 dL_law_726 rfl ?_
  refine J_iconst 1 dL_law_727 ⟨by decide, by decide⟩ ?_
  refine J_iadd dL_law_728 ⟨by omega, by omega⟩ ?_
  refine JL_ld ⟨by omega, by omega⟩ dL_law_729 ?_
  refine JL_V1 lkM_L_91 rcv_29 dL_law_730 (by decide) (Nat.le_of_ble_eq_true rfl) ?_
  refine k1 _ (fun ω2 h2 => ?_)
  refine J_icmp_eq 854 dL_law_733 (by decide) (fun h733 => ?_) (fun h733 => ?_)
  · skip
    exact kk ω2 h2
  · skip
    exact absurd rfl h733
set_option maxRecDepth 100000 in
set_option maxHeartbeats 4000000 in
theorem lwc_18 {X : Cx} {L sz : Nat} {xs : Nat → Int32} {c : Nat} {ω : Om} (hL : L ≤ 2560) (hi : 5 * (c : Int) + 5 ≤ L) (h : RR c ω) (hc : c < 900000) (kk : ∀ ω2, RR (c + 1) ω2 → JL X L xs sz 854 [some (vR 52), some (vR 0), some (vR 29), some (vI (5 * (c : Int)))] [] ω2) : JL X L xs sz 738 [some (vR 52), some (vR 0), some (vR 29), some (vI (5 * (c : Int)))] [] ω := by
  refine J_aload_n 1 dL_law_738 rfl ?_
  refine J_aload_n 0 dL_law_739 rfl ?_
  refine J_iload_n 3 dL_law_740 rfl ?_
  refine J_iconst 1 dL_law_741 ⟨by decide, by decide⟩ ?_
  refine J_iadd dL_law_742 ⟨by omega, by omega⟩ ?_
  refine JL_ld ⟨by omega, by omega⟩ dL_law_743 ?_
  refine J_aload_n 0 dL_law_744 rfl ?_
  refine J_iload_n 3 dL_law_745 rfl ?_
  refine J_iconst 2 dL_law_746 ⟨by decide, by decide⟩ ?_
  refine J_iadd dL_law_747 ⟨by omega, by omega⟩ ?_
  refine JL_ld ⟨by omega, by omega⟩ dL_law_748 ?_
  refine JL_V2 lkM_L_92 rcv_0 dL_law_749 (by decide) (Nat.le_of_ble_eq_true rfl) ?_
  refine st_fit (d := 0) h hc (fun z ω1 k1 => ?_)
  refine J_aload_n 2 dL_law_752 rfl ?_
  refine J_aload_n 0 dL_law_753 rfl ?_
  refine J_iload_n 3 dL_law_754 rfl ?_
  refine J_iconst 1 dL_law_755 ⟨by decide, by decide⟩ ?_
  refine J_iadd dL_law_756 ⟨by omega, by omega⟩ ?_
  refine JL_ld ⟨by omega, by omega⟩ dL_law_757 ?_
  refine J_aload_n 0 dL_law_758 rfl ?_
  refine J_iload_n 3 dL_law_759 rfl ?_
  refine J_iconst 2 dL_law_760 ⟨by decide, by decide⟩ ?_
  refine J_iadd dL_law_761 ⟨by omega, by omega⟩ ?_
  refine JL_ld ⟨by omega, by omega⟩ dL_law_762 ?_
  refine JL_V2 lkM_L_95 rcv_29 dL_law_763 (by decide) (Nat.le_of_ble_eq_true rfl) ?_
  refine k1 _ (fun ω2 h2 => ?_)
  refine J_icmp_eq 854 dL_law_766 (by decide) (fun h766 => ?_) (fun h766 => ?_)
  · skip
    exact kk ω2 h2
  · skip
    exact absurd rfl h766
set_option maxRecDepth 100000 in
set_option maxHeartbeats 4000000 in
theorem lwc_19 {X : Cx} {L sz : Nat} {xs : Nat → Int32} {c : Nat} {ω : Om} (hL : L ≤ 2560) (hi : 5 * (c : Int) + 5 ≤ L) (h : RR c ω) (hc : c < 900000) (kk : ∀ ω2, RR (c + 1) ω2 → JL X L xs sz 854 [some (vR 52), some (vR 0), some (vR 29), some (vI (5 * (c : Int)))] [] ω2) : JL X L xs sz 771 [some (vR 52), some (vR 0), some (vR 29), some (vI (5 * (c : Int)))] [] ω := by
  refine J_aload_n 1 dL_law_771 rfl ?_
  refine J_aload_n 0 dL_law_772 rfl ?_
  refine J_iload_n 3 dL_law_773 rfl ?_
  refine J_iconst 1 dL_law_774 ⟨by decide, by decide⟩ ?_
  refine J_iadd dL_law_775 ⟨by omega, by omega⟩ ?_
  refine JL_ld ⟨by omega, by omega⟩ dL_law_776 ?_
  refine JL_V1 lkM_L_96 rcv_0 dL_law_777 (by decide) (Nat.le_of_ble_eq_true rfl) ?_
  refine st_common (d := 0) h hc (fun z ω1 k1 => ?_)
  refine J_aload_n 2 dL_law_780 rfl ?_
  refine J_aload_n 0 dL_law_781 rfl ?_
  refine J_iload_n 3 dL_law_782 rfl ?_
  refine J_iconst 1 dL_law_783 ⟨by decide, by decide⟩ ?_
  refine J_iadd dL_law_784 ⟨by omega, by omega⟩ ?_
  refine JL_ld ⟨by omega, by omega⟩ dL_law_785 ?_
  refine JL_V1 lkM_L_99 rcv_29 dL_law_786 (by decide) (Nat.le_of_ble_eq_true rfl) ?_
  refine k1 _ (fun ω2 h2 => ?_)
  refine J_icmp_eq 854 dL_law_789 (by decide) (fun h789 => ?_) (fun h789 => ?_)
  · skip
    exact kk ω2 h2
  · skip
    exact absurd rfl h789
set_option maxRecDepth 100000 in
set_option maxHeartbeats 4000000 in
theorem lwc_20 {X : Cx} {L sz : Nat} {xs : Nat → Int32} {c : Nat} {ω : Om} (hL : L ≤ 2560) (hi : 5 * (c : Int) + 5 ≤ L) (h : RR c ω) (hc : c < 900000) (kk : ∀ ω2, RR (c + 1) ω2 → JL X L xs sz 854 [some (vR 52), some (vR 0), some (vR 29), some (vI (5 * (c : Int)))] [] ω2) : JL X L xs sz 794 [some (vR 52), some (vR 0), some (vR 29), some (vI (5 * (c : Int)))] [] ω := by
  refine J_aload_n 1 dL_law_794 rfl ?_
  refine J_aload_n 0 dL_law_795 rfl ?_
  refine J_iload_n 3 dL_law_796 rfl ?_
  refine J_iconst 1 dL_law_797 ⟨by decide, by decide⟩ ?_
  refine J_iadd dL_law_798 ⟨by omega, by omega⟩ ?_
  refine JL_ld ⟨by omega, by omega⟩ dL_law_799 ?_
  refine JL_V1 lkM_L_100 rcv_0 dL_law_800 (by decide) (Nat.le_of_ble_eq_true rfl) ?_
  refine st_dead (d := 0) h hc (fun z ω1 k1 => ?_)
  refine J_aload_n 2 dL_law_803 rfl ?_
  refine J_aload_n 0 dL_law_804 rfl ?_
  refine J_iload_n 3 dL_law_805 rfl ?_
  refine J_iconst 1 dL_law_806 ⟨by decide, by decide⟩ ?_
  refine J_iadd dL_law_807 ⟨by omega, by omega⟩ ?_
  refine JL_ld ⟨by omega, by omega⟩ dL_law_808 ?_
  refine JL_V1 lkM_L_103 rcv_29 dL_law_809 (by decide) (Nat.le_of_ble_eq_true rfl) ?_
  refine k1 _ (fun ω2 h2 => ?_)
  refine J_icmp_eq 854 dL_law_812 (by decide) (fun h812 => ?_) (fun h812 => ?_)
  · skip
    exact kk ω2 h2
  · skip
    exact absurd rfl h812
set_option maxRecDepth 100000 in
set_option maxHeartbeats 4000000 in
theorem lwc_21 {X : Cx} {L sz : Nat} {xs : Nat → Int32} {c : Nat} {ω : Om} (hL : L ≤ 2560) (hi : 5 * (c : Int) + 5 ≤ L) (h : RR c ω) (hc : c < 900000) (kk : ∀ ω2, RR (c + 1) ω2 → JL X L xs sz 854 [some (vR 52), some (vR 0), some (vR 29), some (vI (5 * (c : Int)))] [] ω2) : JL X L xs sz 817 [some (vR 52), some (vR 0), some (vR 29), some (vI (5 * (c : Int)))] [] ω := by
  refine J_aload_n 1 dL_law_817 rfl ?_
  refine J_aload_n 0 dL_law_818 rfl ?_
  refine J_iload_n 3 dL_law_819 rfl ?_
  refine J_iconst 1 dL_law_820 ⟨by decide, by decide⟩ ?_
  refine J_iadd dL_law_821 ⟨by omega, by omega⟩ ?_
  refine JL_ld ⟨by omega, by omega⟩ dL_law_822 ?_
  refine JL_V1 lkM_L_104 rcv_0 dL_law_823 (by decide) (Nat.le_of_ble_eq_true rfl) ?_
  refine st_count (d := 0) h hc (fun z ω1 k1 => ?_)
  refine J_aload_n 2 dL_law_826 rfl ?_
  refine J_aload_n 0 dL_law_827 rfl ?_
  refine J_iload_n 3 dL_law_828 rfl ?_
  refine J_iconst 1 dL_law_829 ⟨by decide, by decide⟩ ?_
  refine J_iadd dL_law_830 ⟨by omega, by omega⟩ ?_
  refine JL_ld ⟨by omega, by omega⟩ dL_law_831 ?_
  refine JL_V1 lkM_L_107 rcv_29 dL_law_832 (by decide) (Nat.le_of_ble_eq_true rfl) ?_
  refine k1 _ (fun ω2 h2 => ?_)
  refine J_icmp_eq 854 dL_law_835 (by decide) (fun h835 => ?_) (fun h835 => ?_)
  · skip
    exact kk ω2 h2
  · skip
    exact absurd rfl h835
set_option maxRecDepth 100000 in
set_option maxHeartbeats 4000000 in
theorem lwc_22 {X : Cx} {L sz : Nat} {xs : Nat → Int32} {c : Nat} {ω : Om} (hL : L ≤ 2560) (hi : 5 * (c : Int) + 5 ≤ L) (h : RR c ω) (hc : c < 900000) (kk : ∀ ω2, RR (c + 1) ω2 → JL X L xs sz 854 [some (vR 52), some (vR 0), some (vR 29), some (vI (5 * (c : Int)))] [] ω2) : JL X L xs sz 840 [some (vR 52), some (vR 0), some (vR 29), some (vI (5 * (c : Int)))] [] ω := by
  refine J_aload_n 1 dL_law_840 rfl ?_
  refine JL_V0 lkM_L_108 rcv_0 dL_law_841 (by decide) (Nat.le_of_ble_eq_true rfl) ?_
  refine st_digest (d := 0) h hc (fun z ω1 k1 => ?_)
  refine J_aload_n 2 dL_law_844 rfl ?_
  refine JL_V0 lkM_L_112 rcv_29 dL_law_845 (by decide) (Nat.le_of_ble_eq_true rfl) ?_
  refine k1 _ (fun ω2 h2 => ?_)
  refine J_lcmp dL_law_848 ?_
  refine J_if_eq 854 dL_law_849 (by decide) (fun h849 => ?_) (fun h849 => ?_)
  · skip
    exact kk ω2 h2
  · skip
    exact absurd (by simp [lCmp]) h849
set_option maxRecDepth 100000 in
set_option maxHeartbeats 4000000 in
theorem law_loop {X : Cx} {L sz : Nat} {xs : Nat → Int32} (hL : L ≤ 2560) : ∀ (n c : Nat) (ω : Om), L < 5 * (c + n) + 5 → c < 600 → RR c ω → JL X L xs sz 18 [some (vR 52), some (vR 0), some (vR 29), some (vI (5 * (c : Int)))] [] ω := by
  intro n
  induction n with
  | zero =>
    intro c ω hn hc h
    refine J_iload_n 3 dL_law_18 rfl ?_
    refine J_aload_n 0 dL_law_19 rfl ?_
    refine JL_len hL dL_law_20 ?_
    refine J_iconst 5 dL_law_21 ⟨by decide, by decide⟩ ?_
    refine J_isub dL_law_22 ⟨by omega, by omega⟩ ?_
    refine J_icmp_gt 860 dL_law_23 (by decide) (fun h23 => ?_) (fun h23 => ?_)
    · skip
      refine J_iconst 1 dL_law_860 ⟨by decide, by decide⟩ ?_
      exact JL_ret dL_law_861
    · skip
      exfalso; omega
  | succ n ih =>
    intro c ω hn hc h
    refine J_iload_n 3 dL_law_18 rfl ?_
    refine J_aload_n 0 dL_law_19 rfl ?_
    refine JL_len hL dL_law_20 ?_
    refine J_iconst 5 dL_law_21 ⟨by decide, by decide⟩ ?_
    refine J_isub dL_law_22 ⟨by omega, by omega⟩ ?_
    refine J_icmp_gt 860 dL_law_23 (by decide) (fun h23 => ?_) (fun h23 => ?_)
    · skip
      refine J_iconst 1 dL_law_860 ⟨by decide, by decide⟩ ?_
      exact JL_ret dL_law_861
    · skip
      skip
      have hi : 5 * (c : Int) + 5 ≤ L := by omega
      have kk : ∀ ω2, RR (c + 1) ω2 → JL X L xs sz 854 [some (vR 52), some (vR 0), some (vR 29), some (vI (5 * (c : Int)))] [] ω2 := by
        intro ω2 h2
        refine J_iinc_3 dL_law_854 (by decide) ⟨by omega, by omega⟩ rfl ?_
        refine J_goto 18 dL_law_857 (by decide) ?_
        rw [show 5 * (c : Int) + 5 = 5 * ((c + 1 : Nat) : Int) from by omega]
        exact ih (c + 1) ω2 (by omega) (by omega) h2
      refine J_aload_n 0 dL_law_26 rfl ?_
      refine J_iload_n 3 dL_law_27 rfl ?_
      refine JL_ld ⟨by omega, by omega⟩ dL_law_28 ?_
      refine J_bipush 31 dL_law_29 ⟨by decide, by decide⟩ (by decide) ?_
      refine J_iand dL_law_31 ?_
      generalize zAnd _ 31 = sv
      refine J_switch dL_law_32 854 (by decide) (fun h32 => ?_) (fun h32a h32b => ?_)
      · exact kk ω (h.mono (Nat.le_succ c))
      · rcases (show sv = 0 ∨ sv = 1 ∨ sv = 2 ∨ sv = 3 ∨ sv = 4 ∨ sv = 5 ∨ sv = 6 ∨ sv = 7 ∨ sv = 8 ∨ sv = 9 ∨ sv = 10 ∨ sv = 11 ∨ sv = 12 ∨ sv = 13 ∨ sv = 14 ∨ sv = 15 ∨ sv = 16 ∨ sv = 17 ∨ sv = 18 ∨ sv = 19 ∨ sv = 20 ∨ sv = 21 ∨ sv = 22 by omega) with rfl | rfl | rfl | rfl | rfl | rfl | rfl | rfl | rfl | rfl | rfl | rfl | rfl | rfl | rfl | rfl | rfl | rfl | rfl | rfl | rfl | rfl | rfl
        · exact ⟨108, 140, rfl, by decide, lwc_0 hL hi h (by omega) kk⟩
        · exact ⟨131, 163, rfl, by decide, lwc_1 hL hi h (by omega) kk⟩
        · exact ⟨144, 176, rfl, by decide, lwc_2 hL hi h (by omega) kk⟩
        · exact ⟨157, 189, rfl, by decide, lwc_3 hL hi h (by omega) kk⟩
        · exact ⟨170, 202, rfl, by decide, lwc_4 hL hi h (by omega) kk⟩
        · exact ⟨183, 215, rfl, by decide, lwc_5 hL hi h (by omega) kk⟩
        · exact ⟨232, 264, rfl, by decide, lwc_6 hL hi h (by omega) kk⟩
        · exact ⟨265, 297, rfl, by decide, lwc_7 hL hi h (by omega) kk⟩
        · exact ⟨298, 330, rfl, by decide, lwc_8 hL hi h (by omega) kk⟩
        · exact ⟨341, 373, rfl, by decide, lwc_9 hL hi h (by omega) kk⟩
        · exact ⟨374, 406, rfl, by decide, lwc_10 hL hi h (by omega) kk⟩
        · exact ⟨417, 449, rfl, by decide, lwc_11 hL hi h (by omega) kk⟩
        · exact ⟨470, 502, rfl, by decide, lwc_12 hL hi h (by omega) kk⟩
        · exact ⟨529, 561, rfl, by decide, lwc_13 hL hi h (by omega) kk⟩
        · exact ⟨588, 620, rfl, by decide, lwc_14 hL hi h (by omega) kk⟩
        · exact ⟨647, 679, rfl, by decide, lwc_15 hL hi h (by omega) kk⟩
        · exact ⟨660, 692, rfl, by decide, lwc_16 hL hi h (by omega) kk⟩
        · exact ⟨683, 715, rfl, by decide, lwc_17 hL hi h (by omega) kk⟩
        · exact ⟨706, 738, rfl, by decide, lwc_18 hL hi h (by omega) kk⟩
        · exact ⟨739, 771, rfl, by decide, lwc_19 hL hi h (by omega) kk⟩
        · exact ⟨762, 794, rfl, by decide, lwc_20 hL hi h (by omega) kk⟩
        · exact ⟨785, 817, rfl, by decide, lwc_21 hL hi h (by omega) kk⟩
        · exact ⟨808, 840, rfl, by decide, lwc_22 hL hi h (by omega) kk⟩
