section JC
variable {X : Cx} {A : Nat → Prop} {own : String} {cc : ByteArray} {nL : Nat} {P : PT} {pc : Nat} {lv : List (Option MV)} {st : List MV} {ω : Om}
def wt : List MV → Nat
  | [] => 0
  | .inr (.inl _) :: r => 2 + wt r
  | _ :: r => 1 + wt r
theorem wt_emb : ∀ st : List MV, ((st.map (emb X)).map fun v => v.category).sum = wt st := by
  intro st
  induction st with
  | nil => rfl
  | cons v r ih =>
    simp only [List.map_cons, List.sum_cons, ih]
    match v with
    | .inl z => rfl
    | .inr (.inl z) => rfl
    | .inr (.inr k) => rfl
theorem PcX_blind (as : List MV) (ω : Om) : FrameBlind (PcX X as ω) := by
  intro a U g mk h
  obtain ⟨e1, r1, r2, r3, r4, r5, r6⟩ := h
  exact ⟨e1, r1, r2, r3, r4, va_K.moved (u := U) (U := U.calling g mk a) (Vm.Alike.refl U.vm) r5, fun w hw => va_Nw.same (by
    have := (List.mem_filter.mp hw).2
    cases w <;> first | rfl | (simp [isNest] at this)) (by rfl) (r6 w hw)⟩
theorem nTbl_warm {s U : State} (hW : s.WarmedH U.vm) (h : ∀ w ∈ nTbl, va_Nw w s) : ∀ w ∈ nTbl, va_Nw w U := by
  intro w hw
  have h1 := (List.mem_filter.mp hw).2
  have h2 := h w hw
  cases w <;> first | exact va_Nw.warmF hW h2 | exact va_Nw.warmM hW h2 | (simp [isNest] at h1)
theorem good_all (z : MD) (hz : cdw z ∈ gTbl) : GoodIn gTbl (cdw z :: gTbl) := by
  intro w hw
  rcases List.mem_cons.mp hw with rfl | hw
  · exact ⟨hz, gTbl_good _ hz⟩
  · exact ⟨hw, gTbl_good _ hw⟩
/-- the room that a call of a method of depth d wants -/
def rmOk (d : Nat) (z : MD) (R : Room) (cells slots : Nat) : Prop := d + 2 ≤ R.frames ∧ 8 + (z.2.2.1 + 11) + (40 * d + 12) ≤ R.locals ∧ cells ≤ R.cells ∧ slots ≤ R.slots
def rcv (k : Nat) (C : String) : Prop := ∃ (ci n : Nat) (fl : List Nat) (q : vw_C), lay[k]? = some (ci + 2, n, fl) ∧ vwCl[ci]? = some q ∧ q.1 = C
/-- behind a call -/
theorem J_back {z : MD} {d : Nat} {as : List MV} {st0 : List Value} {a : Array Value} {p : Program} {e : Env} {R : Room} {s : State} {m : MethodId} {args : Array Value} {below : List Frame} {meth : Method} {c : Code} {cells slots : Nat} {Qm : State → Prop} {H : Heap} {locs : List Loc} {ls : Array Slot}
    (hA : Act X A own cc nL p s m args c) (hP : P p e R s m args below meth c cells slots Qm) (h1 : ∀ v ∈ st, RV v) (h2 : ∀ v, some v ∈ lv → RV v) (h5 : va_S A s.heap H locs) (h6 : lv_has ls nL (lvl X 0 lv))
    (hr : va_Run p X.1 e R s m args below meth c H locs cells slots 0 0 (F0 m pc ls st0) (st.map (emb X)) (QcX X (fun r ω' => J X A own cc nL P (pc + 3) lv (r.toList ++ st) ω') a) (AX X)) :
    W p X.1 e R s m args below meth c H locs cells slots Qm (F0 m pc ls st0) := by
  have hAA : ∀ q, AX X q → A q := fun q ⟨k, hk, e⟩ => e ▸ hA.2.2.2.2.2.2.2.2 k hk
  intro T hT XS
  obtain ⟨v, st₀, t, T', L, h0, X', hL, e1, e2, ⟨r, ω', q1, q2, q3, q4, q5, q6, q7⟩, sg⟩ := hr T hT XS
  cases q1
  rw [h0] at q6 q7
  have hst : ∀ v ∈ r.toList ++ st, RV v := by
    intro v hv
    rcases List.mem_append.mp hv with hv | hv
    · exact q2 v (by simpa using hv)
    · exact h1 v hv
  have hS : va_S A s.heap T'.heap (locs ++ L) := by
    refine ⟨Nat.le_trans h5.1 (by rw [e1]; exact q6), fun q g1 g2 => ?_, fun q hq => ?_⟩
    · rw [e1, q7 q (Nat.lt_of_lt_of_le g1 h5.1) (fun z => g2 (hAA q z))]; exact h5.2.1 q g1 g2
    · rcases List.mem_append.mp hq with h | h
      · exact h5.2.2 q h
      · exact hAA _ (hL q h)
  have K := q4 p e R s m args below meth c cells slots Qm hA hP T'.heap (locs ++ L) ls hst h2 q3 (by rw [e1]; exact q5) hS h6
  obtain ⟨t2, a1, b1⟩ := K T' rfl X'
  refine ⟨t2, sg t2 ?_, b1⟩
  have ev : (r.toList ++ st).map (emb X) = (r.map (emb X)).toList ++ st.map (emb X) := by cases r <;> rfl
  rw [ev] at a1
  exact a1
theorem J_callV {z : MD} {d idx n k : Nat} {as : List MV} (hP0 : ∀ p e R s m args below meth c cells slots Qm, P p e R s m args below meth c cells slots Qm → rmOk d z R cells slots) (lk : MLkV own idx z n) (hn : as.length = n) (hk : rcv k z.1.cls) (hw : wt st ≤ 8) (hd : decode cc pc = .ok (.invokevirtual idx, 3))
    (hM : Mc X z d (vR k :: as) ω (fun r ω' => J X A own cc nL P (pc + 3) lv (r.toList ++ st) ω')) : J X A own cc nL P pc lv (as.reverse ++ vR k :: st) ω :=
  fun p e R s m args below meth c cells slots Qm hA hP H locs ls h1 h2 h3 h4 h5 h6 => by
    obtain ⟨f1, f2, f3, f4⟩ := hP0 p e R s m args below meth c cells slots Qm hP
    obtain ⟨⟨l1, l2, l3, l4, l5, l6⟩, l7, l8⟩ := lk
    obtain ⟨ci, nn, fl, q, y1, y2, y3⟩ := hk
    have hst : (as.reverse ++ vR k :: st).map (emb X) = (as.map (emb X)).reverse ++ .ref (X.2.2.1 k) :: st.map (emb X) := by simp [emb]
    have hr1 : ∀ v ∈ st, RV v := fun v hv => h1 v (by simp [hv])
    have hra : ∀ v ∈ vR k :: as, RV v := fun v hv => h1 v (by
      rcases List.mem_cons.mp hv with rfl | hv
      · simp
      · simp [hv])
    have hpre : PreV s H z.1.cls (X.2.2.1 k) (PcX X (vR k :: as) ω) (as.map (emb X)) := by
      refine ⟨PcX_blind _ _, ?_, fun U hU hW => ⟨rfl, hra, h3, hA.2.2.2.2.2.2.2.1, by rw [hU]; exact h4, va_K.moved hW.alike hA.2.2.2.2.2.2.1, nTbl_warm hW hA.2.2.2.2.2.1⟩⟩
      rw [← y3]
      exact va_recv hA.2.2.2.2.2.2.1 h4 y2 (q0 := k) (by rw [pic_get, y1]; rfl)
    rw [hst]
    have hroom : 2 * (F0 m pc ls ((as.map (emb X)).reverse ++ .ref (X.2.2.1 k) :: st.map (emb X))).monitorRoom + ((st.map (emb X)).map fun v => v.category).sum ≤ 8 := lv_room (by rw [wt_emb]; exact hw)
    have hlen : (as.map (emb X)).length = n := by simpa using hn
    rcases l3 with l3 | ⟨host, l3⟩
    · exact J_back (z := z) (d := d) (as := as) hA hP hr1 h2 h5 h6 (va_runV (Ts := gTbl) (own := own) (C := z.1.cls) ⟨hA.1, hA.2.1, hA.2.2.1, hA.2.2.2.1, hA.2.2.2.2.1⟩ hM
        ⟨callB_of n hA.2.2.2.2.1 (good_all z l1) rfl rfl rfl (hA.2.2.2.2.1 _ l2) (hA.2.2.2.2.1 _ l3) ⟨l4, l5, l6⟩ ⟨f1, f2⟩, hA.2.2.2.2.1 _ l7, hA.2.2.2.2.1 _ l8⟩
        hpre rfl hlen h6.1 rfl hroom hd ⟨f3, f4⟩)
    · exact J_back (z := z) (d := d) (as := as) hA hP hr1 h2 h5 h6 (va_runVN (Ts := gTbl) (own := own) (C := z.1.cls) ⟨hA.1, hA.2.1, hA.2.2.1, hA.2.2.2.1, hA.2.2.2.2.1⟩ hM
        ⟨va_cnB n hA.2.2.2.2.1 (good_all z l1) rfl rfl rfl (hA.2.2.2.2.2.1 _ l3) (hA.2.2.2.2.1 _ l2) ⟨l4, l5, l6⟩ ⟨f1, f2⟩, hA.2.2.2.2.1 _ l7, hA.2.2.2.2.1 _ l8⟩
        hpre rfl hlen h6.1 rfl hroom hd ⟨f3, f4⟩)
theorem J_callS {z : MD} {d idx n : Nat} {as : List MV} (hP0 : ∀ p e R s m args below meth c cells slots Qm, P p e R s m args below meth c cells slots Qm → rmOk d z R cells slots) (lk : MLkS own idx z n) (hn : as.length = n) (hw : wt st ≤ 8) (hd : decode cc pc = .ok (.invokestatic idx, 3))
    (hM : Mc X z d as ω (fun r ω' => J X A own cc nL P (pc + 3) lv (r.toList ++ st) ω')) : J X A own cc nL P pc lv (as.reverse ++ st) ω :=
  fun p e R s m args below meth c cells slots Qm hA hP H locs ls h1 h2 h3 h4 h5 h6 => by
    obtain ⟨f1, f2, f3, f4⟩ := hP0 p e R s m args below meth c cells slots Qm hP
    obtain ⟨⟨l1, l2, l3, l4, l5, l6⟩, l7⟩ := lk
    have hst : (as.reverse ++ st).map (emb X) = (as.map (emb X)).reverse ++ st.map (emb X) := by simp
    have hr1 : ∀ v ∈ st, RV v := fun v hv => h1 v (by simp [hv])
    have hra : ∀ v ∈ as, RV v := fun v hv => h1 v (by simp [hv])
    have hpre : PreS s H (PcX X as ω) (as.map (emb X)) :=
      ⟨PcX_blind _ _, fun U hU hW => ⟨rfl, hra, h3, hA.2.2.2.2.2.2.2.1, by rw [hU]; exact h4, va_K.moved hW.alike hA.2.2.2.2.2.2.1, nTbl_warm hW hA.2.2.2.2.2.1⟩⟩
    rw [hst]
    have hroom : 2 * (F0 m pc ls ((as.map (emb X)).reverse ++ st.map (emb X))).monitorRoom + ((st.map (emb X)).map fun v => v.category).sum ≤ 8 := lv_room (by rw [wt_emb]; exact hw)
    have hlen : (as.map (emb X)).length = n := by simpa using hn
    rcases l3 with l3 | ⟨host, l3⟩
    · exact J_back (z := z) (d := d) (as := as) hA hP hr1 h2 h5 h6 (va_runS (Ts := gTbl) (own := own) ⟨hA.1, hA.2.1, hA.2.2.1, hA.2.2.2.1, hA.2.2.2.2.1⟩ hM
        ⟨callB_of n hA.2.2.2.2.1 (good_all z l1) rfl rfl rfl (hA.2.2.2.2.1 _ l2) (hA.2.2.2.2.1 _ l3) ⟨l4, l5, l6⟩ ⟨f1, f2⟩, hA.2.2.2.2.1 _ l7⟩
        hpre rfl hlen h6.1 rfl hroom hd ⟨f3, f4⟩)
    · exact J_back (z := z) (d := d) (as := as) hA hP hr1 h2 h5 h6 (va_runSN (Ts := gTbl) (own := own) ⟨hA.1, hA.2.1, hA.2.2.1, hA.2.2.2.1, hA.2.2.2.2.1⟩ hM
        ⟨va_cnB n hA.2.2.2.2.1 (good_all z l1) rfl rfl rfl (hA.2.2.2.2.2.1 _ l3) (hA.2.2.2.2.1 _ l2) ⟨l4, l5, l6⟩ ⟨f1, f2⟩, hA.2.2.2.2.1 _ l7, trivial⟩
        hpre rfl hlen h6.1 rfl hroom hd ⟨f3, f4⟩)
-- a method's end
variable {y : MD} {d : Nat} {Q : Option MV → Om → Prop}
theorem JM_iret {z : Int} (hr : y.2.2.2 = some .int) (hd : decode y.2.1 pc = .ok (.ireturn, 1)) (hQ : Q (some (vI z)) ω) : JM X y d Q pc lv [vI z] ω :=
  fun p e R s m args below meth c cells slots Qm hA hP H locs ls h1 h2 h3 h4 h5 h6 => by
    obtain ⟨b1, b2, rfl, rfl, rfl, rfl⟩ := hP
    exact W.iret hA.1 hA.2.1 (b1.trans hr) (fun t ht _ => ⟨some (vI z), ω, rfl, fun v hv => by cases hv; exact st_h h1, h3, hQ, by rw [ht]; exact h4, h5.F ht⟩) (fun q hq => h5.2.2 q hq) hd b2
theorem JM_zret {z : Int} (hr : y.2.2.2 = some .boolean) (hz : z = 0 ∨ z = 1) (hd : decode y.2.1 pc = .ok (.ireturn, 1)) (hQ : Q (some (vI z)) ω) : JM X y d Q pc lv [vI z] ω :=
  fun p e R s m args below meth c cells slots Qm hA hP H locs ls h1 h2 h3 h4 h5 h6 => by
    obtain ⟨b1, b2, rfl, rfl, rfl, rfl⟩ := hP
    exact W.zret hA.1 hA.2.1 (b1.trans hr) (by rcases hz with rfl | rfl <;> rfl) (fun t ht _ => ⟨some (vI z), ω, rfl, fun v hv => by cases hv; exact st_h h1, h3, hQ, by rw [ht]; exact h4, h5.F ht⟩) (fun q hq => h5.2.2 q hq) hd b2
theorem JM_lret {z : Int} (hr : y.2.2.2 = some .long) (hd : decode y.2.1 pc = .ok (.lreturn, 1)) (hQ : Q (some (vL z)) ω) : JM X y d Q pc lv [vL z] ω :=
  fun p e R s m args below meth c cells slots Qm hA hP H locs ls h1 h2 h3 h4 h5 h6 => by
    obtain ⟨b1, b2, rfl, rfl, rfl, rfl⟩ := hP
    exact W.lret hA.1 hA.2.1 (b1.trans hr) (fun t ht _ => ⟨some (vL z), ω, rfl, fun v hv => by cases hv; exact st_h h1, h3, hQ, by rw [ht]; exact h4, h5.F ht⟩) (fun q hq => h5.2.2 q hq) hd b2
theorem JM_vret (hr : y.2.2.2 = none) (hd : decode y.2.1 pc = .ok (.return_, 1)) (hQ : Q none ω) : JM X y d Q pc lv [] ω :=
  fun p e R s m args below meth c cells slots Qm hA hP H locs ls h1 h2 h3 h4 h5 h6 => by
    obtain ⟨b1, b2, rfl, rfl, rfl, rfl⟩ := hP
    exact W.vret hA.1 hA.2.1 (b1.trans hr) (fun t ht _ => ⟨none, ω, rfl, fun v hv => by (cases hv), h3, hQ, by rw [ht]; exact h4, h5.F ht⟩) (fun q hq => h5.2.2 q hq) hd b2
-- a method's start
def argLv : List MV → List (Option MV)
  | [] => []
  | .inr (.inl z) :: r => some (vL z) :: none :: argLv r
  | v :: r => some v :: argLv r
theorem argLv_args (X : Cx) : ∀ (as : List MV) (n : Nat), lvl X n (argLv as) = lv_args n (as.map (emb X)) := by
  intro as
  induction as with
  | nil => intro n; rfl
  | cons v r ih =>
    intro n
    match v with
    | .inl z => simp only [argLv, lvl, List.map_cons, lv_args, ih]; rfl
    | .inr (.inl z) => simp only [argLv, lvl, List.map_cons, lv_args, ih]; rfl
    | .inr (.inr k) => simp only [argLv, lvl, List.map_cons, lv_args, ih]; rfl
theorem argLv_len (X : Cx) : ∀ as : List MV, (lg_sl (as.map (emb X))).length = (argLv as).length := by
  intro as
  induction as with
  | nil => rfl
  | cons v r ih =>
    have e : ∀ (w : Value) (t : List Value), lg_sl (w :: t) = (if w.category = 2 then [.val w, .second] else [.val w]) ++ lg_sl t := fun w t => by simp [lg_sl]
    match v with
    | .inl z => simp only [List.map_cons, e, argLv, List.length_append, ih, List.length_cons]; simp [emb, Value.category]; omega
    | .inr (.inl z) => simp only [List.map_cons, e, argLv, List.length_append, ih, List.length_cons]; simp [emb, Value.category]; omega
    | .inr (.inr k) => simp only [List.map_cons, e, argLv, List.length_append, ih, List.length_cons]; simp [emb, Value.category]; omega
theorem lvl_app (X : Cx) : ∀ (a : List (Option MV)) (k n : Nat), lvl X n (a ++ List.replicate k none) = lvl X n a := by
  intro a
  induction a with
  | nil =>
    intro k
    induction k with
    | zero => intro n; rfl
    | succ k ih => intro n; simp only [List.replicate_succ, List.nil_append, lvl] at ih ⊢; exact ih (n + 1)
  | cons v r ih =>
    intro k n
    cases v with
    | none => simp only [List.cons_append, lvl, ih]
    | some v => simp only [List.cons_append, lvl, ih]
theorem argLv_RV : ∀ as : List MV, (∀ w ∈ as, RV w) → ∀ v, some v ∈ argLv as → RV v := by
  intro as
  induction as with
  | nil => intro _ v hv; cases hv
  | cons a r ih =>
    intro r1 v hv
    have ih' := ih (fun w hw => r1 w (List.mem_cons_of_mem _ hw))
    have ra := r1 a List.mem_cons_self
    match a, ra, hv with
    | .inl z, ra, hv =>
      simp only [argLv, List.mem_cons] at hv
      rcases hv with hv | hv
      · cases hv; exact ra
      · exact ih' v hv
    | .inr (.inl z), ra, hv =>
      simp only [argLv, List.mem_cons] at hv
      rcases hv with hv | hv | hv
      · cases hv; exact ra
      · cases hv
      · exact ih' v hv
    | .inr (.inr q), ra, hv =>
      simp only [argLv, List.mem_cons] at hv
      rcases hv with hv | hv
      · cases hv; exact ra
      · exact ih' v hv
/-- a contract out of the walk of the body -/
theorem Mc_of {as : List MV} (lv : List (Option MV)) (hy : plainName y.1.cls = true) (hl : argLv as ++ List.replicate (y.2.2.1 - (argLv as).length) none = lv) (hn : (argLv as).length ≤ y.2.2.1) (k : JM X y d Q 0 lv [] ω) : Mc X y d as ω Q := by
  refine Met.ofW (cc := y.2.1) (maxL := y.2.2.1) (ret := y.2.2.2) hy rfl ?_
  intro p e s m args below meth c s₁ B hml hv
  obtain ⟨rfl, r1, r2, r3, r4, r5, r6⟩ := hv
  have hts := atoms_spec (ws := cdw y :: gTbl) B.pre
  have hown : s.vm.findClass y.1.cls = some m.cls := findClass_of_methodNamed B.named
  have h6 := lv_entry (as.map (emb X)) (n := y.2.2.1) (by rw [argLv_len]; exact hn)
  rw [lg_entry_eq]
  refine k p e (rmD d) s m _ below meth c 0 0 _ ⟨B.exec, B.bytes, hml, hown, fun w hw => hts w (List.mem_cons_of_mem _ hw), r6, r5, r3, fun q hq => ⟨q, hq, rfl⟩⟩ ⟨B.returns, B.notSynchronized, rfl, rfl, rfl, rfl⟩ s.heap [] _ (fun v hv => by cases hv) ?_ r2 r4 va_S.rf ?_
  · intro v hv
    subst hl
    rcases List.mem_append.mp hv with hv | hv
    · exact argLv_RV as r1 v hv
    · have := (List.mem_replicate.mp hv).2; cases this
  · rw [← hl, lvl_app, argLv_args]; exact h6
end JC
