/-! the model's traces -/
/-- what a trace may change -/
def TF (ω ω' : Om) : Prop := Fr [29, 44, 45, 46, 47, 48] ω ω' ∧ ∀ i, i ≠ 28 → i ≠ 31 → i ≠ 32 → ω' 29 i = ω 29 i
theorem TF.rf (ω : Om) : TF ω ω := ⟨Fr.rf, fun _ _ _ _ => rfl⟩
theorem TF.tr {a b c : Om} (h : TF a b) (g : TF b c) : TF a c := ⟨h.1.tr g.1, fun i x y z => (g.2 i x y z).trans (h.2 i x y z)⟩
theorem TF.u9 {a b : Om} (h : TF a b) {i z : Int} (hi : i = 28 ∨ i = 31 ∨ i = 32) : TF a (up b 29 i z) := ⟨h.1.up (by decide), fun j x y w => by rw [up_i (by omega)]; exact h.2 j x y w⟩
theorem TF.uk {a b : Om} (h : TF a b) {k : Nat} {i z : Int} (hk : k ∈ [44, 45, 46, 47, 48]) : TF a (up b k i z) := by
  refine ⟨h.1.up (List.mem_cons_of_mem _ hk), fun j x y w => ?_⟩
  have : (29 : Nat) ≠ k := fun e => by subst e; revert hk; decide
  rw [up_k this]
  exact h.2 j x y w
theorem TF.v {a b : Om} (h : TF a b) (s : Int) : vw s b = vw s a := vw_eq (h.2 2 (by decide) (by decide) (by decide)) (h.2 8 (by decide) (by decide) (by decide)) (h.1 31 (by decide)) (h.1 32 (by decide)) (h.1 33 (by decide)) (h.1 34 (by decide)) (h.1 36 (by decide)) (h.1 37 (by decide))
/-- the model's cells hold the trace s -/
def MT (ω : Om) (s : TS) : Prop := ω 29 28 = s.1.length ∧ Arr (ω 44) (s.1.map (· % 4)) ∧ Arr (ω 45) (s.1.map (· / 4)) ∧ ω 29 32 = s.2.1.length ∧ Arr (ω 46) (s.2.1.map (·.1)) ∧ Arr (ω 47) (s.2.1.map (·.2.1)) ∧ Arr (ω 48) (s.2.1.map (·.2.2)) ∧ ω 29 31 = s.2.2
theorem MT_put {ω : Om} {s : TS} {k n : Int} (h : MT ω s) (hk : 0 ≤ k ∧ k < 4) : MT (up (up (up ω 44 (ω 29 28) k) 45 (ω 29 28) n) 29 28 (ω 29 28 + 1)) ((4 * n + k) :: s.1, s.2) := by
  obtain ⟨a, b, c, d, e, f, g, i⟩ := h
  have e1 : (4 * n + k) % 4 = k := by omega
  have e2 : (4 * n + k) / 4 = n := by omega
  have l1 : ω 29 28 = ((s.1.map (· % 4)).length : Int) := by rw [List.length_map]; exact a
  have l2 : ω 29 28 = ((s.1.map (· / 4)).length : Int) := by rw [List.length_map]; exact a
  refine ⟨by rw [up_s, a]; simp, ?_, ?_, by rw [up_i (by decide), up_k (by decide), up_k (by decide)]; exact d, ?_, ?_, ?_, by rw [up_i (by decide), up_k (by decide), up_k (by decide)]; exact i⟩
  · rw [up_f (by decide), up_f (by decide), List.map_cons, e1, l1]
    exact Arr_push b
  · rw [up_f (by decide), List.map_cons, e2]
    have : Arr (up ω 44 (ω 29 28) k 45) (s.1.map (· / 4)) := by rw [up_f (by decide)]; exact c
    rw [l2]
    rw [l2] at this
    exact Arr_push this
  · rw [up_f (by decide), up_f (by decide), up_f (by decide)]; exact e
  · rw [up_f (by decide), up_f (by decide), up_f (by decide)]; exact f
  · rw [up_f (by decide), up_f (by decide), up_f (by decide)]; exact g
theorem MT_enter {ω : Om} {s : TS} {b h : Int} (hT : MT ω s) : MT (up (up (up (up ω 46 (ω 29 32) b) 47 (ω 29 32) h) 48 (ω 29 32) 0) 29 32 (ω 29 32 + 1)) (s.1, (b, h, 0) :: s.2.1, s.2.2) := by
  obtain ⟨a1, a2, a3, d, e, f, g, i⟩ := hT
  have l1 : ω 29 32 = ((s.2.1.map (·.1)).length : Int) := by rw [List.length_map]; exact d
  have l2 : ω 29 32 = ((s.2.1.map (·.2.1)).length : Int) := by rw [List.length_map]; exact d
  have l3 : ω 29 32 = ((s.2.1.map (·.2.2)).length : Int) := by rw [List.length_map]; exact d
  refine ⟨by rw [up_i (by decide), up_k (by decide), up_k (by decide), up_k (by decide)]; exact a1, ?_, ?_, by rw [up_s, d]; simp, ?_, ?_, ?_, by rw [up_i (by decide), up_k (by decide), up_k (by decide), up_k (by decide)]; exact i⟩
  · rw [up_f (by decide), up_f (by decide), up_f (by decide), up_f (by decide)]; exact a2
  · rw [up_f (by decide), up_f (by decide), up_f (by decide), up_f (by decide)]; exact a3
  · rw [up_f (by decide), up_f (by decide), up_f (by decide), List.map_cons, l1]
    exact Arr_push e
  · rw [up_f (by decide), up_f (by decide), List.map_cons]
    have : Arr (up ω 46 (ω 29 32) b 47) (s.2.1.map (·.2.1)) := by rw [up_f (by decide)]; exact f
    rw [l2] at this ⊢
    exact Arr_push this
  · rw [up_f (by decide), List.map_cons]
    have : Arr (up (up ω 46 (ω 29 32) b) 47 (ω 29 32) h 48) (s.2.1.map (·.2.2)) := by rw [up_f (by decide), up_f (by decide)]; exact g
    rw [l3] at this ⊢
    exact Arr_push this
theorem MT_deep {ω : Om} {s : TS} (dp : Int) (hT : MT ω s) : MT (up ω 29 31 dp) (s.1, s.2.1, dp) := by
  obtain ⟨a1, a2, a3, d, e, f, g, i⟩ := hT
  refine ⟨by rw [up_i (by decide)]; exact a1, ?_, ?_, by rw [up_i (by decide)]; exact d, ?_, ?_, ?_, up_s⟩ <;> (rw [up_f (by decide)]; assumption)
theorem MT_pop {ω : Om} {ev : List Int} {x : Int × Int × Int} {r : List (Int × Int × Int)} {dp : Int} (hT : MT ω (ev, x :: r, dp)) : MT (up ω 29 32 (ω 29 32 - 1)) (ev, r, dp) := by
  obtain ⟨a1, a2, a3, d, e, f, g, i⟩ := hT
  simp only [List.map_cons, Arr, List.length_cons] at d e f g
  refine ⟨by rw [up_i (by decide)]; exact a1, ?_, ?_, by rw [up_s]; simp only; omega, ?_, ?_, ?_, by rw [up_i (by decide)]; exact i⟩
  · rw [up_f (by decide)]; exact a2
  · rw [up_f (by decide)]; exact a3
  · rw [up_f (by decide)]; exact e.2
  · rw [up_f (by decide)]; exact f.2
  · rw [up_f (by decide)]; exact g.2
theorem MT_next {ω : Om} {ev : List Int} {b h p : Int} {r : List (Int × Int × Int)} {dp : Int} (hT : MT ω (ev, (b, h, p) :: r, dp)) : MT (up ω 48 (r.length : Int) (p + 1)) (ev, (b, h, p + 1) :: r, dp) := by
  obtain ⟨a1, a2, a3, d, e, f, g, i⟩ := hT
  refine ⟨by rw [up_k (by decide)]; exact a1, ?_, ?_, by rw [up_k (by decide)]; exact d, ?_, ?_, ?_, by rw [up_k (by decide)]; exact i⟩
  · rw [up_f (by decide)]; exact a2
  · rw [up_f (by decide)]; exact a3
  · rw [up_f (by decide)]; exact e
  · rw [up_f (by decide)]; exact f
  · simp only [List.map_cons] at g ⊢
    refine ⟨by rw [List.length_map]; exact up_s, Arr_up (by rw [List.length_map]; exact Int.le_refl _) g.2⟩
def aBef (f : Int → Int) (x : Int) : Nat → Int
  | 0 => 0
  | k + 1 => if aBef f x k = 1 ∨ f k = x then 1 else 0
theorem aBef01 (f : Int → Int) (x : Int) : ∀ k, aBef f x k = 0 ∨ aBef f x k = 1 := by
  intro k
  cases k with
  | zero => left; rfl
  | succ k => rw [aBef]; split <;> simp
theorem aBef_mem {f : Int → Int} {x : Int} : ∀ {l : List Int}, Arr f l → (aBef f x l.length = 1 ↔ x ∈ l) := by
  intro l
  induction l with
  | nil => intro _; simp [aBef]
  | cons y l ih =>
    intro h
    rw [List.length_cons, aBef]
    have i := ih h.2
    rw [h.1]
    constructor
    · intro q
      by_cases c : aBef f x l.length = 1 ∨ y = x
      · rcases c with c | c
        · exact List.mem_cons_of_mem _ (i.1 c)
        · rw [c]; exact List.mem_cons_self
      · rw [if_neg c] at q; exact absurd q (by decide)
    · intro q
      rw [if_pos]
      rcases List.mem_cons.1 q with c | c
      · right; exact c.symm
      · left; exact i.2 c
theorem Arr_map {f : Int → Int} {g : Int → Int} {l : List Int} {i : Int} (h : Arr f (l.map g)) (hi : 0 ≤ i ∧ i < l.length) : f i = g (evN l i) := by
  rw [Arr_N h (by rw [List.length_map]; exact hi)]
  unfold evN
  rw [List.getD_eq_getElem?_getD, List.getD_eq_getElem?_getD, List.length_map, List.getElem?_map, List.getElem?_eq_getElem (by omega)]
  rfl
set_option maxRecDepth 100000 in
set_option maxHeartbeats 4000000 in
theorem kX7_put {X : Cx} {d : Nat} {ω : Om} {Q : Option MV → Om → Prop} {k n : Int} {s : TS} (hT : MT ω s) (hl : s.1.length < 60) (hk : 0 ≤ k ∧ k < 4) (hQ : ∀ ω', MT ω' ((4 * n + k) :: s.1, s.2) → TF ω ω' → Q none ω') : Mc X mX7_put d [vR 29, vI k, vI n] ω Q := by
  have l0 := hT.1
  refine Mc_of [some (vR 29), some (vI k), some (vI n)] (by decide +kernel) rfl (Nat.le_of_ble_eq_true rfl) ?_
  refine J_aload_n 0 dX7_put_0 rfl ?_
  refine J_getI 28 lkF_X7_185 rfl rfl rfl dX7_put_1 ?_
  refine J_bipush 60 dX7_put_4 ⟨by decide, by decide⟩ (by decide) ?_
  refine J_icmp_ge 39 dX7_put_6 (by decide) (fun h6 => ?_) (fun h6 => ?_)
  · skip
    exfalso; omega
  · skip
    refine J_aload_n 0 dX7_put_9 rfl ?_
    refine J_getR lkF_X7_53 rfl dX7_put_10 ?_
    refine J_aload_n 0 dX7_put_13 rfl ?_
    refine J_getI 28 lkF_X7_185 rfl rfl rfl dX7_put_14 ?_
    refine J_iload_n 1 dX7_put_17 rfl ?_
    refine J_iastore _ rfl (by omega) dX7_put_18 ?_
    refine J_aload_n 0 dX7_put_19 rfl ?_
    refine J_getR lkF_X7_56 rfl dX7_put_20 ?_
    refine J_aload_n 0 dX7_put_23 rfl ?_
    refine J_getI 28 lkF_X7_185 rfl rfl rfl dX7_put_24 ?_
    try simp (config := {decide := true}) only [up_s, up_k, up_i]
    refine J_iload_n 2 dX7_put_27 rfl ?_
    refine J_iastore _ rfl (by omega) dX7_put_28 ?_
    refine J_aload_n 0 dX7_put_29 rfl ?_
    first | refine J_dupR dX7_put_30 ?_ | refine J_dupI dX7_put_30 ?_
    refine J_getI 28 lkF_X7_185 rfl rfl rfl dX7_put_31 ?_
    try simp (config := {decide := true}) only [up_s, up_k, up_i]
    refine J_iconst 1 dX7_put_34 ⟨by decide, by decide⟩ ?_
    refine J_iadd dX7_put_35 ⟨by omega, by omega⟩ ?_
    refine J_putI 28 lkF_X7_185 rfl fp_7_28 rfl dX7_put_36 ?_
    refine JM_vret rfl dX7_put_39 ?_
    exact hQ _ (MT_put hT hk) ((((TF.rf ω).uk (by decide)).uk (by decide)).u9 (by omega))

set_option maxRecDepth 100000 in
set_option maxHeartbeats 4000000 in
theorem l_isr {X : Cx} {d : Nat} {Q : Option MV → Om → Prop} {ω : Om} {b : Int} (h61 : 0 ≤ ω 29 32 ∧ ω 29 32 ≤ 61) : ∀ (n k : Nat), k + n = (ω 29 32).toNat → Q (some (vI (aBef (ω 46) b (ω 29 32).toNat))) ω → JM X mX7_isRunning d Q 4 [some (vR 29), some (vI b), some (vI (aBef (ω 46) b k)), some (vI k)] [] ω := by
  intro n
  induction n with
  | zero =>
    intro k hk hQ
    have q01 := aBef01 (ω 46) b k
    refine J_iload_n 3 dX7_isRunning_4 rfl ?_
    refine J_aload_n 0 dX7_isRunning_5 rfl ?_
    refine J_getI 32 lkF_X7_188 rfl rfl rfl dX7_isRunning_6 ?_
    refine J_icmp_ge 38 dX7_isRunning_9 (by decide) (fun h9 => ?_) (fun h9 => ?_)
    · skip
      refine J_iload_n 2 dX7_isRunning_38 rfl ?_
      refine JM_zret rfl (by omega) dX7_isRunning_39 ?_
      rw [show k = (ω 29 32).toNat from by omega]; exact hQ
    · skip
      exfalso; omega
  | succ n ih =>
    intro k hk hQ
    have q01 := aBef01 (ω 46) b k
    refine J_iload_n 3 dX7_isRunning_4 rfl ?_
    refine J_aload_n 0 dX7_isRunning_5 rfl ?_
    refine J_getI 32 lkF_X7_188 rfl rfl rfl dX7_isRunning_6 ?_
    refine J_icmp_ge 38 dX7_isRunning_9 (by decide) (fun h9 => ?_) (fun h9 => ?_)
    · skip
      exfalso; omega
    · skip
      refine J_iload_n 2 dX7_isRunning_12 rfl ?_
      refine J_if_ne 26 dX7_isRunning_13 (by decide) (fun h13 => ?_) (fun h13 => ?_)
      · skip
        refine J_iconst 1 dX7_isRunning_26 ⟨by decide, by decide⟩ ?_
        refine J_goto 31 dX7_isRunning_27 (by decide) ?_
        refine J_istore_2 dX7_isRunning_31 (by decide) rfl ?_
        refine J_iinc_3 dX7_isRunning_32 (by decide) ⟨by omega, by omega⟩ rfl ?_
        refine J_goto 4 dX7_isRunning_35 (by decide) ?_
        have e := ih (k + 1) (by omega) hQ
        rw [aBef] at e
        first | (rw [if_pos (by omega)] at e; exact e) | (rw [if_neg (by omega)] at e; exact e)
      · skip
        refine J_aload_n 0 dX7_isRunning_16 rfl ?_
        refine J_getR lkF_X7_59 rfl dX7_isRunning_17 ?_
        refine J_iload_n 3 dX7_isRunning_20 rfl ?_
        refine J_iaload _ rfl rfl (by omega) dX7_isRunning_21 ?_
        refine J_iload_n 1 dX7_isRunning_22 rfl ?_
        refine J_icmp_ne 30 dX7_isRunning_23 (by decide) (fun h23 => ?_) (fun h23 => ?_)
        · skip
          refine J_iconst 0 dX7_isRunning_30 ⟨by decide, by decide⟩ ?_
          refine J_istore_2 dX7_isRunning_31 (by decide) rfl ?_
          refine J_iinc_3 dX7_isRunning_32 (by decide) ⟨by omega, by omega⟩ rfl ?_
          refine J_goto 4 dX7_isRunning_35 (by decide) ?_
          have e := ih (k + 1) (by omega) hQ
          rw [aBef] at e
          first | (rw [if_pos (by omega)] at e; exact e) | (rw [if_neg (by omega)] at e; exact e)
        · skip
          refine J_iconst 1 dX7_isRunning_26 ⟨by decide, by decide⟩ ?_
          refine J_goto 31 dX7_isRunning_27 (by decide) ?_
          refine J_istore_2 dX7_isRunning_31 (by decide) rfl ?_
          refine J_iinc_3 dX7_isRunning_32 (by decide) ⟨by omega, by omega⟩ rfl ?_
          refine J_goto 4 dX7_isRunning_35 (by decide) ?_
          have e := ih (k + 1) (by omega) hQ
          rw [aBef] at e
          first | (rw [if_pos (by omega)] at e; exact e) | (rw [if_neg (by omega)] at e; exact e)

set_option maxRecDepth 100000 in
set_option maxHeartbeats 4000000 in
theorem kX7_isRunning {X : Cx} {d : Nat} {ω : Om} {Q : Option MV → Om → Prop} {b : Int} {s : TS} (hT : MT ω s) (hl : s.2.1.length ≤ 61) (hQ : Q (some (vI (if (s.2.1.any fun x => x.1 == b) = true then 1 else 0))) ω) : Mc X mX7_isRunning d [vR 29, vI b] ω Q := by
  have l0 := hT.2.2.2.1
  have hm := aBef_mem (x := b) hT.2.2.2.2.1
  rw [List.length_map, ← any_has] at hm
  have q01 := aBef01 (ω 46) b s.2.1.length
  have hv : (if (s.2.1.any fun x => x.1 == b) = true then (1 : Int) else 0) = aBef (ω 46) b s.2.1.length := by
    by_cases c : (s.2.1.any fun x => x.1 == b) = true
    · rw [if_pos c, hm.2 c]
    · rw [if_neg c]; rcases q01 with q | q
      · exact q.symm
      · exact absurd (hm.1 q) c
  rw [hv] at hQ
  refine Mc_of [some (vR 29), some (vI b), none, none] (by decide +kernel) rfl (Nat.le_of_ble_eq_true rfl) ?_
  refine J_iconst 0 dX7_isRunning_0 ⟨by decide, by decide⟩ ?_
  refine J_istore_2 dX7_isRunning_1 (by decide) rfl ?_
  refine J_iconst 0 dX7_isRunning_2 ⟨by decide, by decide⟩ ?_
  refine J_istore_3 dX7_isRunning_3 (by decide) rfl ?_
  exact l_isr (by omega) (ω 29 32).toNat 0 (by omega) (by rw [show (ω 29 32).toNat = s.2.1.length from by omega]; exact hQ)

/-- a body is met -/
def metB (s : TS) (b h : Int) : TS := if (s.2.1.any fun x => x.1 == b) = true then ((4 * b + 1) :: s.1, s.2) else ((4 * b + 0) :: s.1, (b, h, 0) :: s.2.1, if s.2.2 < (s.2.1.length : Int) + 1 then (s.2.1.length : Int) + 1 else s.2.2)
theorem meet_B {τ : Om} {s : TS} {h m : Int} (hn : ¬ hb τ h m = -1) : meetT τ s h m = metB s (hb τ h m) h := by
  unfold meetT metB
  rw [if_neg hn]
set_option maxRecDepth 100000 in
set_option maxHeartbeats 4000000 in
theorem kX7_run {X : Cx} {d : Nat} {ω : Om} {Q : Option MV → Om → Prop} {b h : Int} {s : TS} (hT : MT ω s) (hl : s.1.length < 60) (hl2 : s.2.1.length ≤ 60) (hQ : ∀ ω', MT ω' (metB s b h) → TF ω ω' → Q none ω') : Mc X mX7_run (d + 1) [vR 29, vI b, vI h] ω Q := by
  have l0 := hT.1
  have l1 := hT.2.2.2.1
  refine Mc_of [some (vR 29), some (vI b), some (vI h)] (by decide +kernel) rfl (Nat.le_of_ble_eq_true rfl) ?_
  refine J_aload_n 0 dX7_run_0 rfl ?_
  refine J_iload_n 1 dX7_run_1 rfl ?_
  refine JM_V1 lkM_X7_191 rcv_29 dX7_run_2 (by decide) (Nat.le_of_ble_eq_true rfl) ?_
  refine kX7_isRunning hT (by omega) ?_
  generalize hg : (s.2.1.any fun x => x.1 == b) = g
  unfold metB at hQ
  rw [hg] at hQ
  refine J_if_eq 15 dX7_run_5 (by decide) (fun h5 => ?_) (fun h5 => ?_)
  · skip
    refine J_aload_n 0 dX7_run_15 rfl ?_
    refine J_getI 28 lkF_X7_185 rfl rfl rfl dX7_run_16 ?_
    refine J_bipush 60 dX7_run_19 ⟨by decide, by decide⟩ (by decide) ?_
    refine J_icmp_ne 25 dX7_run_21 (by decide) (fun h21 => ?_) (fun h21 => ?_)
    · skip
      refine J_aload_n 0 dX7_run_25 rfl ?_
      refine J_iconst 0 dX7_run_26 ⟨by decide, by decide⟩ ?_
      refine J_iload_n 1 dX7_run_27 rfl ?_
      refine JM_V2 lkM_X7_194 rcv_29 dX7_run_28 (by decide) (Nat.le_of_ble_eq_true rfl) ?_
      refine kX7_put hT hl (by decide) (fun ω1 t1 f1 => ?_)
      have l2 := t1.2.2.2.1
      simp only at l2
      have l3 := t1.2.2.2.2.2.2.2
      simp only at l3
      refine J_aload_n 0 dX7_run_31 rfl ?_
      refine J_getR lkF_X7_59 rfl dX7_run_32 ?_
      refine J_aload_n 0 dX7_run_35 rfl ?_
      refine J_getI 32 lkF_X7_188 rfl rfl rfl dX7_run_36 ?_
      refine J_iload_n 1 dX7_run_39 rfl ?_
      refine J_iastore _ rfl (by omega) dX7_run_40 ?_
      refine J_aload_n 0 dX7_run_41 rfl ?_
      refine J_getR lkF_X7_62 rfl dX7_run_42 ?_
      refine J_aload_n 0 dX7_run_45 rfl ?_
      refine J_getI 32 lkF_X7_188 rfl rfl rfl dX7_run_46 ?_
      try simp (config := {decide := true}) only [up_s, up_k, up_i]
      refine J_iload_n 2 dX7_run_49 rfl ?_
      refine J_iastore _ rfl (by omega) dX7_run_50 ?_
      refine J_aload_n 0 dX7_run_51 rfl ?_
      refine J_getR lkF_X7_65 rfl dX7_run_52 ?_
      refine J_aload_n 0 dX7_run_55 rfl ?_
      refine J_getI 32 lkF_X7_188 rfl rfl rfl dX7_run_56 ?_
      try simp (config := {decide := true}) only [up_s, up_k, up_i]
      refine J_iconst 0 dX7_run_59 ⟨by decide, by decide⟩ ?_
      refine J_iastore _ rfl (by omega) dX7_run_60 ?_
      refine J_aload_n 0 dX7_run_61 rfl ?_
      first | refine J_dupR dX7_run_62 ?_ | refine J_dupI dX7_run_62 ?_
      refine J_getI 32 lkF_X7_188 rfl rfl rfl dX7_run_63 ?_
      try simp (config := {decide := true}) only [up_s, up_k, up_i]
      refine J_iconst 1 dX7_run_66 ⟨by decide, by decide⟩ ?_
      refine J_iadd dX7_run_67 ⟨by omega, by omega⟩ ?_
      refine J_putI 32 lkF_X7_188 rfl fp_7_32 rfl dX7_run_68 ?_
      refine J_aload_n 0 dX7_run_71 rfl ?_
      refine J_aload_n 0 dX7_run_72 rfl ?_
      refine J_getI 32 lkF_X7_188 rfl rfl rfl dX7_run_73 ?_
      try simp (config := {decide := true}) only [up_s, up_k, up_i]
      refine J_aload_n 0 dX7_run_76 rfl ?_
      refine J_getI 31 lkF_X7_198 rfl rfl rfl dX7_run_77 ?_
      try simp (config := {decide := true}) only [up_s, up_k, up_i]
      refine J_icmp_le 90 dX7_run_80 (by decide) (fun h80 => ?_) (fun h80 => ?_)
      · skip
        refine J_aload_n 0 dX7_run_90 rfl ?_
        refine J_getI 31 lkF_X7_198 rfl rfl rfl dX7_run_91 ?_
        try simp (config := {decide := true}) only [up_s, up_k, up_i]
        refine J_putI 31 lkF_X7_198 rfl fp_7_31 rfl dX7_run_94 ?_
        refine JM_vret rfl dX7_run_97 ?_
        rw [if_neg (by cases g <;> first | exact absurd h5 (by decide) | decide)] at hQ
        have hM := MT_enter (b := b) (h := h) t1
        first
          | (rw [if_pos (by omega)] at hQ; refine hQ _ ?_ (((((f1.uk (by decide)).uk (by decide)).uk (by decide)).u9 (by omega)).u9 (by omega)); have := MT_deep (ω1 29 32 + 1) hM; rw [l2] at this ⊢; exact this)
          | (rw [if_neg (by omega)] at hQ; refine hQ _ ?_ (((((f1.uk (by decide)).uk (by decide)).uk (by decide)).u9 (by omega)).u9 (by omega)); have := MT_deep (ω1 29 31) hM; rw [l3] at this ⊢; exact this)
      · skip
        refine J_aload_n 0 dX7_run_83 rfl ?_
        refine J_getI 32 lkF_X7_188 rfl rfl rfl dX7_run_84 ?_
        try simp (config := {decide := true}) only [up_s, up_k, up_i]
        refine J_goto 94 dX7_run_87 (by decide) ?_
        refine J_putI 31 lkF_X7_198 rfl fp_7_31 rfl dX7_run_94 ?_
        refine JM_vret rfl dX7_run_97 ?_
        rw [if_neg (by cases g <;> first | exact absurd h5 (by decide) | decide)] at hQ
        have hM := MT_enter (b := b) (h := h) t1
        first
          | (rw [if_pos (by omega)] at hQ; refine hQ _ ?_ (((((f1.uk (by decide)).uk (by decide)).uk (by decide)).u9 (by omega)).u9 (by omega)); have := MT_deep (ω1 29 32 + 1) hM; rw [l2] at this ⊢; exact this)
          | (rw [if_neg (by omega)] at hQ; refine hQ _ ?_ (((((f1.uk (by decide)).uk (by decide)).uk (by decide)).u9 (by omega)).u9 (by omega)); have := MT_deep (ω1 29 31) hM; rw [l3] at this ⊢; exact this)
    · skip
      exfalso; omega
  · skip
    refine J_aload_n 0 dX7_run_8 rfl ?_
    refine J_iconst 1 dX7_run_9 ⟨by decide, by decide⟩ ?_
    refine J_iload_n 1 dX7_run_10 rfl ?_
    refine JM_V2 lkM_X7_194 rcv_29 dX7_run_11 (by decide) (Nat.le_of_ble_eq_true rfl) ?_
    refine kX7_put hT hl (by decide) (fun ω1 t1 f1 => ?_)
    refine JM_vret rfl dX7_run_14 ?_
    rw [if_pos (by cases g <;> first | rfl | exact absurd rfl h5)] at hQ
    exact hQ ω1 t1 f1

/-- the classes and the bodies that run are classes and bodies -/
def TH (τ : Om) (s : TS) : Prop := ∀ x ∈ s.2.1, (0 ≤ x.2.1 ∧ x.2.1 < τ 3 7) ∧ (0 ≤ x.1 ∧ x.1 < τ 3 8) ∧ 0 ≤ x.2.2 ∧ x.2.2 ≤ τ 17 x.1
theorem TH_meet {τ : Om} (hW : WfT τ) {s : TS} {h m : Int} (hs : TH τ s) (hm : m < 6) : TH τ (meetT τ s h m) := by
  unfold meetT
  by_cases c : hb τ h m = -1
  · rw [if_pos c]; exact hs
  · rw [if_neg c]
    split
    · exact hs
    · intro x hx
      rcases List.mem_cons.1 hx with q | q
      · subst q
        have hn := hb_nb hW hm c
        refine ⟨?_, hn, Int.le_refl _, (hW.2.2.2.2.2.2.2.1 _ hn.1 hn.2).1⟩
        unfold hb at c
        split at c
        · rename_i q; exact ⟨q.1, q.2.1⟩
        · exact absurd rfl c
      · exact hs x q
theorem TH_step {τ : Om} (hW : WfT τ) {ty : Int} {s : TS} (hs : TH τ s) : TH τ (stepT τ ty s) := by
  unfold stepT
  split
  · exact hs
  · rename_i b h p r e
    have hx := hs (b, h, p) (by rw [e]; exact List.mem_cons_self)
    have hr : ∀ x ∈ r, _ := fun x q => hs x (by rw [e]; exact List.mem_cons_of_mem _ q)
    by_cases c : itA τ b p = -1
    · rw [if_pos c]; exact hr
    · rw [if_neg c]
      have hp : p < τ 17 b := by
        unfold itA at c
        split at c
        · rename_i q; exact q.2.2.2.2.1
        · exact absurd rfl c
      have hb : TH τ (s.1, (b, h, p + 1) :: r, s.2.2) := by
        intro x q
        rcases List.mem_cons.1 q with q | q
        · subst q; exact ⟨hx.1, hx.2.1, by have := hx.2.2.1; simp only at this ⊢; omega, by simp only; omega⟩
        · exact hr x q
      split
      · exact hb
      · have hi := itA_R hW b p c
        exact TH_meet hW hb (by omega)
theorem st_len {τ : Om} {ty : Int} {s : TS} (h : s.2.1 ≠ []) : (stepT τ ty s).2.1.length + 2 * s.1.length + 1 ≤ s.2.1.length + 2 * (stepT τ ty s).1.length := by
  unfold stepT
  split
  · rename_i e; exact absurd e h
  · rename_i b h p r e
    rw [e]
    by_cases c : itA τ b p = -1
    · rw [if_pos c]; simp only [List.length_cons]; omega
    · rw [if_neg c]
      split
      · unfold useT; simp only [List.length_cons]; omega
      · unfold meetT
        split
        · simp only [List.length_cons]; omega
        · split
          · simp only [List.length_cons]; omega
          · simp only [List.length_cons]; omega
theorem use_hb {τ : Om} {s : TS} {h f v : Int} (e : hb τ (nrS τ h f) f = v) : useT τ s h f = ((if v = -1 then 4 * f + 3 else 4 * v + 2) :: s.1, s.2) := by
  unfold useT
  rw [e]
theorem meet_miss {τ : Om} {s : TS} {h m : Int} (hn : hb τ h m = -1) : meetT τ s h m = ((4 * m + 3) :: s.1, s.2) := by
  unfold meetT
  rw [if_pos hn]
/-- what an item comes to -/
def comT1 (τ : Om) (s : TS) (ty h it : Int) : TS := if 6 ≤ it ∧ it < 12 then useT τ s h it else meetT τ s (homT τ ty h it) (it % 20)
theorem nrS_m1 (τ : Om) (m : Int) : nrS τ (-1) m = -1 := by
  unfold nrS
  split
  · rw [nr, if_neg (by omega)]
  · rfl
theorem nrS_fr {s : Int} {ω : Om} (t m : Int) : nrS (vw s ω) t m = -1 ∨ ((0 ≤ nrS (vw s ω) t m ∧ nrS (vw s ω) t m < ω 29 2) ∧ ¬ vw s ω 14 (nrS (vw s ω) t m * 12 + m) = -1) := by
  rcases nrS_rg (τ := vw s ω) t m with q | q
  · left; exact q
  · right; exact ⟨⟨q.1.1, q.1.2.1⟩, q.2.1⟩
set_option maxRecDepth 100000 in
set_option maxHeartbeats 4000000 in
theorem kX7_comesTo {X : Cx} {d : Nat} {ω : Om} {Q : Option MV → Om → Prop} {it h ty s : Int} {S : TS} (hT : MT ω S) (hl : S.1.length < 60) (hl2 : S.2.1.length ≤ 60) (hs : ω 29 7 = s) (h01 : 0 ≤ s ∧ s ≤ 1) (hW : WfT (vw s ω)) (hh : 0 ≤ h ∧ h < ω 29 2) (hty : 0 ≤ ty ∧ ty < ω 29 2) (hi : (0 ≤ it ∧ it < 12) ∨ (20 ≤ it ∧ it < 26)) (hQ : ∀ ω', MT ω' (comT1 (vw s ω) S ty h it) → TF ω ω' → Q none ω') : Mc X mX7_comesTo (d + 3) [vR 29, vI it, vI h, vI ty] ω Q := by
  have n8 := n8_vw hW
  have hin : 0 ≤ h ∧ h < vw s ω 3 7 := hh
  have par := par_in hW hh
  unfold comT1 at hQ
  refine Mc_of [some (vR 29), some (vI it), some (vI h), some (vI ty), none, none, none, none] (by decide +kernel) rfl (Nat.le_of_ble_eq_true rfl) ?_
  refine J_iload_n 1 dX7_comesTo_0 rfl ?_
  refine J_bipush 20 dX7_comesTo_1 ⟨by decide, by decide⟩ (by decide) ?_
  refine J_irem dX7_comesTo_3 (by omega) (by omega) ?_
  refine J_istore_4 dX7_comesTo_4 (by decide) rfl ?_
  refine J_iload 4 dX7_comesTo_6 rfl ?_
  refine J_bipush 6 dX7_comesTo_8 ⟨by decide, by decide⟩ (by decide) ?_
  refine J_icmp_lt 51 dX7_comesTo_10 (by decide) (fun h10 => ?_) (fun h10 => ?_)
  · skip
    rw [if_neg (by omega)] at hQ
    obtain ⟨m, hmd⟩ : ∃ m, m = it % 20 := ⟨_, rfl⟩
    rw [← hmd] at hQ ⊢
    have hm6 : 0 ≤ m ∧ m < 6 := by omega
    have hhd := hds_zb hW hin (m := m)
    have hprn := pr_in hW hin
    rw [vw12] at hprn
    have hz := hW.2.2.2.2.2.2.1 h m hh.1 hin.2 hm6.1 hm6.2
    have z01 := zb01 (vw s ω 15 h) m
    refine J_iload_n 1 dX7_comesTo_51 rfl ?_
    refine J_bipush 20 dX7_comesTo_52 ⟨by decide, by decide⟩ (by decide) ?_
    refine J_icmp_ge 82 dX7_comesTo_54 (by decide) (fun h54 => ?_) (fun h54 => ?_)
    · skip
      refine J_iconst 0 dX7_comesTo_82 ⟨by decide, by decide⟩ ?_
      refine J_istore_5 dX7_comesTo_83 (by decide) rfl ?_
      refine J_iload_n 1 dX7_comesTo_85 rfl ?_
      refine J_bipush 20 dX7_comesTo_86 ⟨by decide, by decide⟩ (by decide) ?_
      refine J_icmp_lt 100 dX7_comesTo_88 (by decide) (fun h88 => ?_) (fun h88 => ?_)
      · skip
        exfalso; omega
      · skip
        refine J_aload_n 0 dX7_comesTo_91 rfl ?_
        refine J_getR lkF_X7_13 rfl dX7_comesTo_92 ?_
        refine J_iload_n 2 dX7_comesTo_95 rfl ?_
        refine J_iaload _ rfl rfl (by omega) dX7_comesTo_96 ?_
        refine J_goto 101 dX7_comesTo_97 (by decide) ?_
        refine J_istore_6 dX7_comesTo_101 (by decide) rfl ?_
        refine J_iload 5 dX7_comesTo_103 rfl ?_
        refine J_if_eq 112 dX7_comesTo_105 (by decide) (fun h105 => ?_) (fun h105 => ?_)
        · skip
          refine J_iload 6 dX7_comesTo_112 rfl ?_
          refine J_iconst (-1) dX7_comesTo_114 ⟨by decide, by decide⟩ ?_
          refine J_icmp_ne 122 dX7_comesTo_115 (by decide) (fun h115 => ?_) (fun h115 => ?_)
          · skip
            refine J_aload_n 0 dX7_comesTo_122 rfl ?_
            refine J_iload 6 dX7_comesTo_123 rfl ?_
            refine J_iload 4 dX7_comesTo_125 rfl ?_
            refine JM_V2 lkM_X7_157 rcv_29 dX7_comesTo_127 (by decide) (Nat.le_of_ble_eq_true rfl) ?_
            refine kX7_answersIn hs h01 hW (by omega) (by omega) ?_
            refine J_istore_7 dX7_comesTo_130 (by decide) rfl ?_
            first
              | (have hhome : homT (vw s ω) ty h it = h := by
                   have hitm : it = m := by omega
                   unfold homT
                   rw [if_neg (by omega), hitm, if_neg (by rw [hhd]; exact h75)]
                 rw [hhome] at hQ
                 have hfr : h = -1 ∨ ((0 ≤ h ∧ h < ω 29 2) ∧ ¬ vw s ω 14 (h * 12 + m) = -1) := Or.inr ⟨hh, h65⟩
                 generalize h = found at hQ hfr ⊢)
              | (have hhome : homT (vw s ω) ty h it = nrS (vw s ω) ty m := by
                   have hitm : it = m := by omega
                   unfold homT
                   rw [if_neg (by omega), hitm, if_pos (by rw [hhd]; first | exact h75 | exact z01.resolve_right (fun q => absurd h65 (hz q)))]
                 rw [hhome] at hQ
                 have hfr := nrS_fr (s := s) (ω := ω) ty m
                 generalize nrS (vw s ω) ty m = found at hQ hfr ⊢)
              | (have hhome : homT (vw s ω) ty h it = -1 := by
                   unfold homT
                   rw [if_pos (by omega), hprn, show it - 20 = m from by omega, show ω 31 h = -1 from by omega, nrS_m1]
                 rw [hhome] at hQ
                 have hfr : (-1 : Int) = -1 ∨ ((0 ≤ (-1 : Int) ∧ (-1 : Int) < ω 29 2) ∧ ¬ vw s ω 14 (-1 * 12 + m) = -1) := Or.inl rfl
                 obtain ⟨found, hfd⟩ : ∃ f : Int, f = -1 := ⟨_, rfl⟩
                 rw [← hfd] at hQ hfr)
              | (have hhome : homT (vw s ω) ty h it = nrS (vw s ω) (ω 31 h) m := by
                   unfold homT
                   rw [if_pos (by omega), hprn, show it - 20 = m from by omega]
                 rw [hhome] at hQ
                 have hfr := nrS_fr (s := s) (ω := ω) (ω 31 h) m
                 generalize nrS (vw s ω) (ω 31 h) m = found at hQ hfr ⊢)
            refine J_iload 7 dX7_comesTo_132 rfl ?_
            refine J_iconst (-1) dX7_comesTo_134 ⟨by decide, by decide⟩ ?_
            refine J_icmp_ne 148 dX7_comesTo_135 (by decide) (fun h135 => ?_) (fun h135 => ?_)
            · skip
              refine J_aload_n 0 dX7_comesTo_148 rfl ?_
              refine J_aload_n 0 dX7_comesTo_149 rfl ?_
              refine J_iload 7 dX7_comesTo_150 rfl ?_
              refine J_iload 4 dX7_comesTo_152 rfl ?_
              refine JM_V2 lkM_X7_150 rcv_29 dX7_comesTo_154 (by decide) (Nat.le_of_ble_eq_true rfl) ?_
              refine kX7_memberOf hs h01 (by omega) (by omega) ?_
              have hb1 := hb_in hW (t := found) (m := m) (by rw [vw37]; omega) (by omega)
              rw [← hb1]
              refine J_iload 7 dX7_comesTo_157 rfl ?_
              refine JM_V2 lkM_X7_204 rcv_29 dX7_comesTo_159 (by decide) (Nat.le_of_ble_eq_true rfl) ?_
              refine kX7_run hT hl hl2 (fun ω1 t1 f1 => ?_)
              refine JM_vret rfl dX7_comesTo_162 ?_
              refine hQ ω1 ?_ f1
              first | (rw [meet_B (by rw [hb1]; omega)]; exact t1) | (rw [meet_miss (by rw [show found = -1 from by omega]; unfold hb; rw [if_neg (by omega)])]; exact t1)
            · skip
              refine J_aload_n 0 dX7_comesTo_138 rfl ?_
              refine J_iconst 3 dX7_comesTo_139 ⟨by decide, by decide⟩ ?_
              refine J_iload 4 dX7_comesTo_140 rfl ?_
              refine JM_V2 lkM_X7_194 rcv_29 dX7_comesTo_142 (by decide) (Nat.le_of_ble_eq_true rfl) ?_
              refine kX7_put hT hl (by decide) (fun ω1 t1 f1 => ?_)
              refine J_goto 162 dX7_comesTo_145 (by decide) ?_
              refine JM_vret rfl dX7_comesTo_162 ?_
              refine hQ ω1 ?_ f1
              first | (rw [meet_B (by rw [hb1]; omega)]; exact t1) | (rw [meet_miss (by rw [show found = -1 from by omega]; unfold hb; rw [if_neg (by omega)])]; exact t1)
          · skip
            refine J_iconst (-1) dX7_comesTo_118 ⟨by decide, by decide⟩ ?_
            refine J_goto 130 dX7_comesTo_119 (by decide) ?_
            refine J_istore_7 dX7_comesTo_130 (by decide) rfl ?_
            first
              | (have hhome : homT (vw s ω) ty h it = h := by
                   have hitm : it = m := by omega
                   unfold homT
                   rw [if_neg (by omega), hitm, if_neg (by rw [hhd]; exact h75)]
                 rw [hhome] at hQ
                 have hfr : h = -1 ∨ ((0 ≤ h ∧ h < ω 29 2) ∧ ¬ vw s ω 14 (h * 12 + m) = -1) := Or.inr ⟨hh, h65⟩
                 generalize h = found at hQ hfr ⊢)
              | (have hhome : homT (vw s ω) ty h it = nrS (vw s ω) ty m := by
                   have hitm : it = m := by omega
                   unfold homT
                   rw [if_neg (by omega), hitm, if_pos (by rw [hhd]; first | exact h75 | exact z01.resolve_right (fun q => absurd h65 (hz q)))]
                 rw [hhome] at hQ
                 have hfr := nrS_fr (s := s) (ω := ω) ty m
                 generalize nrS (vw s ω) ty m = found at hQ hfr ⊢)
              | (have hhome : homT (vw s ω) ty h it = -1 := by
                   unfold homT
                   rw [if_pos (by omega), hprn, show it - 20 = m from by omega, show ω 31 h = -1 from by omega, nrS_m1]
                 rw [hhome] at hQ
                 have hfr : (-1 : Int) = -1 ∨ ((0 ≤ (-1 : Int) ∧ (-1 : Int) < ω 29 2) ∧ ¬ vw s ω 14 (-1 * 12 + m) = -1) := Or.inl rfl
                 obtain ⟨found, hfd⟩ : ∃ f : Int, f = -1 := ⟨_, rfl⟩
                 rw [← hfd] at hQ hfr)
              | (have hhome : homT (vw s ω) ty h it = nrS (vw s ω) (ω 31 h) m := by
                   unfold homT
                   rw [if_pos (by omega), hprn, show it - 20 = m from by omega]
                 rw [hhome] at hQ
                 have hfr := nrS_fr (s := s) (ω := ω) (ω 31 h) m
                 generalize nrS (vw s ω) (ω 31 h) m = found at hQ hfr ⊢)
            refine J_iload 7 dX7_comesTo_132 rfl ?_
            refine J_iconst (-1) dX7_comesTo_134 ⟨by decide, by decide⟩ ?_
            refine J_icmp_ne 148 dX7_comesTo_135 (by decide) (fun h135 => ?_) (fun h135 => ?_)
            · skip
              exfalso; omega
            · skip
              refine J_aload_n 0 dX7_comesTo_138 rfl ?_
              refine J_iconst 3 dX7_comesTo_139 ⟨by decide, by decide⟩ ?_
              refine J_iload 4 dX7_comesTo_140 rfl ?_
              refine JM_V2 lkM_X7_194 rcv_29 dX7_comesTo_142 (by decide) (Nat.le_of_ble_eq_true rfl) ?_
              refine kX7_put hT hl (by decide) (fun ω1 t1 f1 => ?_)
              refine J_goto 162 dX7_comesTo_145 (by decide) ?_
              refine JM_vret rfl dX7_comesTo_162 ?_
              refine hQ ω1 ?_ f1
              first | (rw [meet_B (by rw [hb1]; omega)]; exact t1) | (rw [meet_miss (by rw [show found = -1 from by omega]; unfold hb; rw [if_neg (by omega)])]; exact t1)
        · skip
          exfalso; omega
    · skip
      refine J_aload_n 0 dX7_comesTo_57 rfl ?_
      refine J_iload_n 2 dX7_comesTo_58 rfl ?_
      refine J_iload 4 dX7_comesTo_59 rfl ?_
      refine JM_V2 lkM_X7_150 rcv_29 dX7_comesTo_61 (by decide) (Nat.le_of_ble_eq_true rfl) ?_
      refine kX7_memberOf hs h01 (by omega) (by omega) ?_
      refine J_iconst (-1) dX7_comesTo_64 ⟨by decide, by decide⟩ ?_
      refine J_icmp_eq 82 dX7_comesTo_65 (by decide) (fun h65 => ?_) (fun h65 => ?_)
      · skip
        refine J_iconst 0 dX7_comesTo_82 ⟨by decide, by decide⟩ ?_
        refine J_istore_5 dX7_comesTo_83 (by decide) rfl ?_
        refine J_iload_n 1 dX7_comesTo_85 rfl ?_
        refine J_bipush 20 dX7_comesTo_86 ⟨by decide, by decide⟩ (by decide) ?_
        refine J_icmp_lt 100 dX7_comesTo_88 (by decide) (fun h88 => ?_) (fun h88 => ?_)
        · skip
          refine J_iload_n 3 dX7_comesTo_100 rfl ?_
          refine J_istore_6 dX7_comesTo_101 (by decide) rfl ?_
          refine J_iload 5 dX7_comesTo_103 rfl ?_
          refine J_if_eq 112 dX7_comesTo_105 (by decide) (fun h105 => ?_) (fun h105 => ?_)
          · skip
            refine J_iload 6 dX7_comesTo_112 rfl ?_
            refine J_iconst (-1) dX7_comesTo_114 ⟨by decide, by decide⟩ ?_
            refine J_icmp_ne 122 dX7_comesTo_115 (by decide) (fun h115 => ?_) (fun h115 => ?_)
            · skip
              refine J_aload_n 0 dX7_comesTo_122 rfl ?_
              refine J_iload 6 dX7_comesTo_123 rfl ?_
              refine J_iload 4 dX7_comesTo_125 rfl ?_
              refine JM_V2 lkM_X7_157 rcv_29 dX7_comesTo_127 (by decide) (Nat.le_of_ble_eq_true rfl) ?_
              refine kX7_answersIn hs h01 hW (by omega) (by omega) ?_
              refine J_istore_7 dX7_comesTo_130 (by decide) rfl ?_
              first
                | (have hhome : homT (vw s ω) ty h it = h := by
                     have hitm : it = m := by omega
                     unfold homT
                     rw [if_neg (by omega), hitm, if_neg (by rw [hhd]; exact h75)]
                   rw [hhome] at hQ
                   have hfr : h = -1 ∨ ((0 ≤ h ∧ h < ω 29 2) ∧ ¬ vw s ω 14 (h * 12 + m) = -1) := Or.inr ⟨hh, h65⟩
                   generalize h = found at hQ hfr ⊢)
                | (have hhome : homT (vw s ω) ty h it = nrS (vw s ω) ty m := by
                     have hitm : it = m := by omega
                     unfold homT
                     rw [if_neg (by omega), hitm, if_pos (by rw [hhd]; first | exact h75 | exact z01.resolve_right (fun q => absurd h65 (hz q)))]
                   rw [hhome] at hQ
                   have hfr := nrS_fr (s := s) (ω := ω) ty m
                   generalize nrS (vw s ω) ty m = found at hQ hfr ⊢)
                | (have hhome : homT (vw s ω) ty h it = -1 := by
                     unfold homT
                     rw [if_pos (by omega), hprn, show it - 20 = m from by omega, show ω 31 h = -1 from by omega, nrS_m1]
                   rw [hhome] at hQ
                   have hfr : (-1 : Int) = -1 ∨ ((0 ≤ (-1 : Int) ∧ (-1 : Int) < ω 29 2) ∧ ¬ vw s ω 14 (-1 * 12 + m) = -1) := Or.inl rfl
                   obtain ⟨found, hfd⟩ : ∃ f : Int, f = -1 := ⟨_, rfl⟩
                   rw [← hfd] at hQ hfr)
                | (have hhome : homT (vw s ω) ty h it = nrS (vw s ω) (ω 31 h) m := by
                     unfold homT
                     rw [if_pos (by omega), hprn, show it - 20 = m from by omega]
                   rw [hhome] at hQ
                   have hfr := nrS_fr (s := s) (ω := ω) (ω 31 h) m
                   generalize nrS (vw s ω) (ω 31 h) m = found at hQ hfr ⊢)
              refine J_iload 7 dX7_comesTo_132 rfl ?_
              refine J_iconst (-1) dX7_comesTo_134 ⟨by decide, by decide⟩ ?_
              refine J_icmp_ne 148 dX7_comesTo_135 (by decide) (fun h135 => ?_) (fun h135 => ?_)
              · skip
                refine J_aload_n 0 dX7_comesTo_148 rfl ?_
                refine J_aload_n 0 dX7_comesTo_149 rfl ?_
                refine J_iload 7 dX7_comesTo_150 rfl ?_
                refine J_iload 4 dX7_comesTo_152 rfl ?_
                refine JM_V2 lkM_X7_150 rcv_29 dX7_comesTo_154 (by decide) (Nat.le_of_ble_eq_true rfl) ?_
                refine kX7_memberOf hs h01 (by omega) (by omega) ?_
                have hb1 := hb_in hW (t := found) (m := m) (by rw [vw37]; omega) (by omega)
                rw [← hb1]
                refine J_iload 7 dX7_comesTo_157 rfl ?_
                refine JM_V2 lkM_X7_204 rcv_29 dX7_comesTo_159 (by decide) (Nat.le_of_ble_eq_true rfl) ?_
                refine kX7_run hT hl hl2 (fun ω1 t1 f1 => ?_)
                refine JM_vret rfl dX7_comesTo_162 ?_
                refine hQ ω1 ?_ f1
                first | (rw [meet_B (by rw [hb1]; omega)]; exact t1) | (rw [meet_miss (by rw [show found = -1 from by omega]; unfold hb; rw [if_neg (by omega)])]; exact t1)
              · skip
                refine J_aload_n 0 dX7_comesTo_138 rfl ?_
                refine J_iconst 3 dX7_comesTo_139 ⟨by decide, by decide⟩ ?_
                refine J_iload 4 dX7_comesTo_140 rfl ?_
                refine JM_V2 lkM_X7_194 rcv_29 dX7_comesTo_142 (by decide) (Nat.le_of_ble_eq_true rfl) ?_
                refine kX7_put hT hl (by decide) (fun ω1 t1 f1 => ?_)
                refine J_goto 162 dX7_comesTo_145 (by decide) ?_
                refine JM_vret rfl dX7_comesTo_162 ?_
                refine hQ ω1 ?_ f1
                first | (rw [meet_B (by rw [hb1]; omega)]; exact t1) | (rw [meet_miss (by rw [show found = -1 from by omega]; unfold hb; rw [if_neg (by omega)])]; exact t1)
            · skip
              exfalso; omega
          · skip
            exfalso; omega
        · skip
          exfalso; omega
      · skip
        refine J_aload_n 0 dX7_comesTo_68 rfl ?_
        refine J_iload_n 2 dX7_comesTo_69 rfl ?_
        refine J_iload 4 dX7_comesTo_70 rfl ?_
        refine JM_V2 lkM_X7_154 rcv_29 dX7_comesTo_72 (by decide) (Nat.le_of_ble_eq_true rfl) ?_
        refine kX7_isHidden hs h01 (by omega) ?_
        refine J_if_eq 82 dX7_comesTo_75 (by decide) (fun h75 => ?_) (fun h75 => ?_)
        · skip
          refine J_iconst 0 dX7_comesTo_82 ⟨by decide, by decide⟩ ?_
          refine J_istore_5 dX7_comesTo_83 (by decide) rfl ?_
          refine J_iload_n 1 dX7_comesTo_85 rfl ?_
          refine J_bipush 20 dX7_comesTo_86 ⟨by decide, by decide⟩ (by decide) ?_
          refine J_icmp_lt 100 dX7_comesTo_88 (by decide) (fun h88 => ?_) (fun h88 => ?_)
          · skip
            refine J_iload_n 3 dX7_comesTo_100 rfl ?_
            refine J_istore_6 dX7_comesTo_101 (by decide) rfl ?_
            refine J_iload 5 dX7_comesTo_103 rfl ?_
            refine J_if_eq 112 dX7_comesTo_105 (by decide) (fun h105 => ?_) (fun h105 => ?_)
            · skip
              refine J_iload 6 dX7_comesTo_112 rfl ?_
              refine J_iconst (-1) dX7_comesTo_114 ⟨by decide, by decide⟩ ?_
              refine J_icmp_ne 122 dX7_comesTo_115 (by decide) (fun h115 => ?_) (fun h115 => ?_)
              · skip
                refine J_aload_n 0 dX7_comesTo_122 rfl ?_
                refine J_iload 6 dX7_comesTo_123 rfl ?_
                refine J_iload 4 dX7_comesTo_125 rfl ?_
                refine JM_V2 lkM_X7_157 rcv_29 dX7_comesTo_127 (by decide) (Nat.le_of_ble_eq_true rfl) ?_
                refine kX7_answersIn hs h01 hW (by omega) (by omega) ?_
                refine J_istore_7 dX7_comesTo_130 (by decide) rfl ?_
                first
                  | (have hhome : homT (vw s ω) ty h it = h := by
                       have hitm : it = m := by omega
                       unfold homT
                       rw [if_neg (by omega), hitm, if_neg (by rw [hhd]; exact h75)]
                     rw [hhome] at hQ
                     have hfr : h = -1 ∨ ((0 ≤ h ∧ h < ω 29 2) ∧ ¬ vw s ω 14 (h * 12 + m) = -1) := Or.inr ⟨hh, h65⟩
                     generalize h = found at hQ hfr ⊢)
                  | (have hhome : homT (vw s ω) ty h it = nrS (vw s ω) ty m := by
                       have hitm : it = m := by omega
                       unfold homT
                       rw [if_neg (by omega), hitm, if_pos (by rw [hhd]; first | exact h75 | exact z01.resolve_right (fun q => absurd h65 (hz q)))]
                     rw [hhome] at hQ
                     have hfr := nrS_fr (s := s) (ω := ω) ty m
                     generalize nrS (vw s ω) ty m = found at hQ hfr ⊢)
                  | (have hhome : homT (vw s ω) ty h it = -1 := by
                       unfold homT
                       rw [if_pos (by omega), hprn, show it - 20 = m from by omega, show ω 31 h = -1 from by omega, nrS_m1]
                     rw [hhome] at hQ
                     have hfr : (-1 : Int) = -1 ∨ ((0 ≤ (-1 : Int) ∧ (-1 : Int) < ω 29 2) ∧ ¬ vw s ω 14 (-1 * 12 + m) = -1) := Or.inl rfl
                     obtain ⟨found, hfd⟩ : ∃ f : Int, f = -1 := ⟨_, rfl⟩
                     rw [← hfd] at hQ hfr)
                  | (have hhome : homT (vw s ω) ty h it = nrS (vw s ω) (ω 31 h) m := by
                       unfold homT
                       rw [if_pos (by omega), hprn, show it - 20 = m from by omega]
                     rw [hhome] at hQ
                     have hfr := nrS_fr (s := s) (ω := ω) (ω 31 h) m
                     generalize nrS (vw s ω) (ω 31 h) m = found at hQ hfr ⊢)
                refine J_iload 7 dX7_comesTo_132 rfl ?_
                refine J_iconst (-1) dX7_comesTo_134 ⟨by decide, by decide⟩ ?_
                refine J_icmp_ne 148 dX7_comesTo_135 (by decide) (fun h135 => ?_) (fun h135 => ?_)
                · skip
                  refine J_aload_n 0 dX7_comesTo_148 rfl ?_
                  refine J_aload_n 0 dX7_comesTo_149 rfl ?_
                  refine J_iload 7 dX7_comesTo_150 rfl ?_
                  refine J_iload 4 dX7_comesTo_152 rfl ?_
                  refine JM_V2 lkM_X7_150 rcv_29 dX7_comesTo_154 (by decide) (Nat.le_of_ble_eq_true rfl) ?_
                  refine kX7_memberOf hs h01 (by omega) (by omega) ?_
                  have hb1 := hb_in hW (t := found) (m := m) (by rw [vw37]; omega) (by omega)
                  rw [← hb1]
                  refine J_iload 7 dX7_comesTo_157 rfl ?_
                  refine JM_V2 lkM_X7_204 rcv_29 dX7_comesTo_159 (by decide) (Nat.le_of_ble_eq_true rfl) ?_
                  refine kX7_run hT hl hl2 (fun ω1 t1 f1 => ?_)
                  refine JM_vret rfl dX7_comesTo_162 ?_
                  refine hQ ω1 ?_ f1
                  first | (rw [meet_B (by rw [hb1]; omega)]; exact t1) | (rw [meet_miss (by rw [show found = -1 from by omega]; unfold hb; rw [if_neg (by omega)])]; exact t1)
                · skip
                  refine J_aload_n 0 dX7_comesTo_138 rfl ?_
                  refine J_iconst 3 dX7_comesTo_139 ⟨by decide, by decide⟩ ?_
                  refine J_iload 4 dX7_comesTo_140 rfl ?_
                  refine JM_V2 lkM_X7_194 rcv_29 dX7_comesTo_142 (by decide) (Nat.le_of_ble_eq_true rfl) ?_
                  refine kX7_put hT hl (by decide) (fun ω1 t1 f1 => ?_)
                  refine J_goto 162 dX7_comesTo_145 (by decide) ?_
                  refine JM_vret rfl dX7_comesTo_162 ?_
                  refine hQ ω1 ?_ f1
                  first | (rw [meet_B (by rw [hb1]; omega)]; exact t1) | (rw [meet_miss (by rw [show found = -1 from by omega]; unfold hb; rw [if_neg (by omega)])]; exact t1)
              · skip
                exfalso; omega
            · skip
              exfalso; omega
          · skip
            exfalso; omega
        · skip
          refine J_iconst 1 dX7_comesTo_78 ⟨by decide, by decide⟩ ?_
          refine J_goto 83 dX7_comesTo_79 (by decide) ?_
          refine J_istore_5 dX7_comesTo_83 (by decide) rfl ?_
          refine J_iload_n 1 dX7_comesTo_85 rfl ?_
          refine J_bipush 20 dX7_comesTo_86 ⟨by decide, by decide⟩ (by decide) ?_
          refine J_icmp_lt 100 dX7_comesTo_88 (by decide) (fun h88 => ?_) (fun h88 => ?_)
          · skip
            refine J_iload_n 3 dX7_comesTo_100 rfl ?_
            refine J_istore_6 dX7_comesTo_101 (by decide) rfl ?_
            refine J_iload 5 dX7_comesTo_103 rfl ?_
            refine J_if_eq 112 dX7_comesTo_105 (by decide) (fun h105 => ?_) (fun h105 => ?_)
            · skip
              exfalso; omega
            · skip
              refine J_iload_n 2 dX7_comesTo_108 rfl ?_
              refine J_goto 130 dX7_comesTo_109 (by decide) ?_
              refine J_istore_7 dX7_comesTo_130 (by decide) rfl ?_
              first
                | (have hhome : homT (vw s ω) ty h it = h := by
                     have hitm : it = m := by omega
                     unfold homT
                     rw [if_neg (by omega), hitm, if_neg (by rw [hhd]; exact h75)]
                   rw [hhome] at hQ
                   have hfr : h = -1 ∨ ((0 ≤ h ∧ h < ω 29 2) ∧ ¬ vw s ω 14 (h * 12 + m) = -1) := Or.inr ⟨hh, h65⟩
                   generalize h = found at hQ hfr ⊢)
                | (have hhome : homT (vw s ω) ty h it = nrS (vw s ω) ty m := by
                     have hitm : it = m := by omega
                     unfold homT
                     rw [if_neg (by omega), hitm, if_pos (by rw [hhd]; first | exact h75 | exact z01.resolve_right (fun q => absurd h65 (hz q)))]
                   rw [hhome] at hQ
                   have hfr := nrS_fr (s := s) (ω := ω) ty m
                   generalize nrS (vw s ω) ty m = found at hQ hfr ⊢)
                | (have hhome : homT (vw s ω) ty h it = -1 := by
                     unfold homT
                     rw [if_pos (by omega), hprn, show it - 20 = m from by omega, show ω 31 h = -1 from by omega, nrS_m1]
                   rw [hhome] at hQ
                   have hfr : (-1 : Int) = -1 ∨ ((0 ≤ (-1 : Int) ∧ (-1 : Int) < ω 29 2) ∧ ¬ vw s ω 14 (-1 * 12 + m) = -1) := Or.inl rfl
                   obtain ⟨found, hfd⟩ : ∃ f : Int, f = -1 := ⟨_, rfl⟩
                   rw [← hfd] at hQ hfr)
                | (have hhome : homT (vw s ω) ty h it = nrS (vw s ω) (ω 31 h) m := by
                     unfold homT
                     rw [if_pos (by omega), hprn, show it - 20 = m from by omega]
                   rw [hhome] at hQ
                   have hfr := nrS_fr (s := s) (ω := ω) (ω 31 h) m
                   generalize nrS (vw s ω) (ω 31 h) m = found at hQ hfr ⊢)
              refine J_iload 7 dX7_comesTo_132 rfl ?_
              refine J_iconst (-1) dX7_comesTo_134 ⟨by decide, by decide⟩ ?_
              refine J_icmp_ne 148 dX7_comesTo_135 (by decide) (fun h135 => ?_) (fun h135 => ?_)
              · skip
                refine J_aload_n 0 dX7_comesTo_148 rfl ?_
                refine J_aload_n 0 dX7_comesTo_149 rfl ?_
                refine J_iload 7 dX7_comesTo_150 rfl ?_
                refine J_iload 4 dX7_comesTo_152 rfl ?_
                refine JM_V2 lkM_X7_150 rcv_29 dX7_comesTo_154 (by decide) (Nat.le_of_ble_eq_true rfl) ?_
                refine kX7_memberOf hs h01 (by omega) (by omega) ?_
                have hb1 := hb_in hW (t := found) (m := m) (by rw [vw37]; omega) (by omega)
                rw [← hb1]
                refine J_iload 7 dX7_comesTo_157 rfl ?_
                refine JM_V2 lkM_X7_204 rcv_29 dX7_comesTo_159 (by decide) (Nat.le_of_ble_eq_true rfl) ?_
                refine kX7_run hT hl hl2 (fun ω1 t1 f1 => ?_)
                refine JM_vret rfl dX7_comesTo_162 ?_
                refine hQ ω1 ?_ f1
                first | (rw [meet_B (by rw [hb1]; omega)]; exact t1) | (rw [meet_miss (by rw [show found = -1 from by omega]; unfold hb; rw [if_neg (by omega)])]; exact t1)
              · skip
                refine J_aload_n 0 dX7_comesTo_138 rfl ?_
                refine J_iconst 3 dX7_comesTo_139 ⟨by decide, by decide⟩ ?_
                refine J_iload 4 dX7_comesTo_140 rfl ?_
                refine JM_V2 lkM_X7_194 rcv_29 dX7_comesTo_142 (by decide) (Nat.le_of_ble_eq_true rfl) ?_
                refine kX7_put hT hl (by decide) (fun ω1 t1 f1 => ?_)
                refine J_goto 162 dX7_comesTo_145 (by decide) ?_
                refine JM_vret rfl dX7_comesTo_162 ?_
                refine hQ ω1 ?_ f1
                first | (rw [meet_B (by rw [hb1]; omega)]; exact t1) | (rw [meet_miss (by rw [show found = -1 from by omega]; unfold hb; rw [if_neg (by omega)])]; exact t1)
          · skip
            exfalso; omega
  · skip
    obtain ⟨hit, hit2⟩ : it % 20 = it ∧ 6 ≤ it ∧ it < 12 := by omega
    rw [hit] at h10 ⊢
    rw [if_pos hit2] at hQ
    refine J_aload_n 0 dX7_comesTo_13 rfl ?_
    refine J_iload_n 2 dX7_comesTo_14 rfl ?_
    refine J_iload 4 dX7_comesTo_15 rfl ?_
    refine JM_V2 lkM_X7_201 rcv_29 dX7_comesTo_17 (by decide) (Nat.le_of_ble_eq_true rfl) ?_
    refine kX7_slotFrom hs h01 hW (by omega) (by omega) ?_
    generalize hv : hb (vw s ω) (nrS (vw s ω) h it) it = v
    rw [use_hb hv] at hQ
    refine J_istore_5 dX7_comesTo_20 (by decide) rfl ?_
    refine J_aload_n 0 dX7_comesTo_22 rfl ?_
    refine J_iload 5 dX7_comesTo_23 rfl ?_
    refine J_iconst (-1) dX7_comesTo_25 ⟨by decide, by decide⟩ ?_
    refine J_icmp_ne 33 dX7_comesTo_26 (by decide) (fun h26 => ?_) (fun h26 => ?_)
    · skip
      refine J_iconst 2 dX7_comesTo_33 ⟨by decide, by decide⟩ ?_
      refine J_iload 5 dX7_comesTo_34 rfl ?_
      refine J_iconst (-1) dX7_comesTo_36 ⟨by decide, by decide⟩ ?_
      refine J_icmp_ne 45 dX7_comesTo_37 (by decide) (fun h37 => ?_) (fun h37 => ?_)
      · skip
        refine J_iload 5 dX7_comesTo_45 rfl ?_
        refine JM_V2 lkM_X7_194 rcv_29 dX7_comesTo_47 (by decide) (Nat.le_of_ble_eq_true rfl) ?_
        refine kX7_put hT hl (by decide) (fun ω1 t1 f1 => ?_)
        refine JM_vret rfl dX7_comesTo_50 ?_
        refine hQ ω1 ?_ f1
        first | (exfalso; omega) | (rw [if_pos (by omega)]; exact t1) | (rw [if_neg (by omega)]; exact t1)
      · skip
        refine J_iload 4 dX7_comesTo_40 rfl ?_
        refine J_goto 47 dX7_comesTo_42 (by decide) ?_
        refine JM_V2 lkM_X7_194 rcv_29 dX7_comesTo_47 (by decide) (Nat.le_of_ble_eq_true rfl) ?_
        refine kX7_put hT hl (by decide) (fun ω1 t1 f1 => ?_)
        refine JM_vret rfl dX7_comesTo_50 ?_
        refine hQ ω1 ?_ f1
        first | (exfalso; omega) | (rw [if_pos (by omega)]; exact t1) | (rw [if_neg (by omega)]; exact t1)
    · skip
      refine J_iconst 3 dX7_comesTo_29 ⟨by decide, by decide⟩ ?_
      refine J_goto 34 dX7_comesTo_30 (by decide) ?_
      refine J_iload 5 dX7_comesTo_34 rfl ?_
      refine J_iconst (-1) dX7_comesTo_36 ⟨by decide, by decide⟩ ?_
      refine J_icmp_ne 45 dX7_comesTo_37 (by decide) (fun h37 => ?_) (fun h37 => ?_)
      · skip
        refine J_iload 5 dX7_comesTo_45 rfl ?_
        refine JM_V2 lkM_X7_194 rcv_29 dX7_comesTo_47 (by decide) (Nat.le_of_ble_eq_true rfl) ?_
        refine kX7_put hT hl (by decide) (fun ω1 t1 f1 => ?_)
        refine JM_vret rfl dX7_comesTo_50 ?_
        refine hQ ω1 ?_ f1
        first | (exfalso; omega) | (rw [if_pos (by omega)]; exact t1) | (rw [if_neg (by omega)]; exact t1)
      · skip
        refine J_iload 4 dX7_comesTo_40 rfl ?_
        refine J_goto 47 dX7_comesTo_42 (by decide) ?_
        refine JM_V2 lkM_X7_194 rcv_29 dX7_comesTo_47 (by decide) (Nat.le_of_ble_eq_true rfl) ?_
        refine kX7_put hT hl (by decide) (fun ω1 t1 f1 => ?_)
        refine JM_vret rfl dX7_comesTo_50 ?_
        refine hQ ω1 ?_ f1
        first | (exfalso; omega) | (rw [if_pos (by omega)]; exact t1) | (rw [if_neg (by omega)]; exact t1)

/-- what layTrace tells, and lays -/
def RunM (o : Option TS) (r : Int) (ω : Om) : Prop := match o with
  | none => r = 0 ∧ ω 29 28 = 0
  | some s => r = 1 ∧ MT ω s ∧ TW s
theorem comT1_TW {τ : Om} (hW : WfT τ) {ty b h p : Int} {ev : List Int} {r : List (Int × Int × Int)} {dp : Int} (hi : ¬ itA τ b p = -1) : stepT τ ty (ev, (b, h, p) :: r, dp) = comT1 τ (ev, (b, h, p + 1) :: r, dp) ty h (itA τ b p) := by
  unfold stepT comT1
  simp only
  rw [if_neg hi]
set_option maxRecDepth 100000 in
set_option maxHeartbeats 4000000 in
theorem l_lt {X : Cx} {d : Nat} {Q : Option MV → Om → Prop} {ω0 : Om} {s ty m h0 : Int} (hs : ω0 29 7 = s) (h01 : 0 ≤ s ∧ s ≤ 1) (hW : WfT (vw s ω0)) (hty : 0 ≤ ty ∧ ty < ω0 29 2) : ∀ (f : Nat) (ω : Om) (S : TS) (x y : Option MV), 120 + S.2.1.length ≤ f + 2 * S.1.length → MT ω S → TW S → TH (vw s ω0) S → TF ω0 ω → (∀ ω', MT ω' (runT (vw s ω0) ty f S) → TW (runT (vw s ω0) ty f S) → TF ω0 ω' → Q (some (vI 1)) ω') → JM X mX7_layTrace (d + 4) Q 40 [some (vR 29), some (vI ty), some (vI m), some (vI h0), x, y] [] ω := by
  intro f
  induction f with
  | zero =>
    intro ω S x y hf hT hS hH hF hQ
    have l1 := hT.2.2.2.1
    have l60 := hS.2.2.2.2
    refine J_aload_n 0 dX7_layTrace_40 rfl ?_
    refine J_getI 32 lkF_X7_188 rfl rfl rfl dX7_layTrace_41 ?_
    refine J_if_le 152 dX7_layTrace_44 (by decide) (fun h44 => ?_) (fun h44 => ?_)
    · skip
      refine J_iconst 1 dX7_layTrace_152 ⟨by decide, by decide⟩ ?_
      refine JM_zret rfl (by omega) dX7_layTrace_153 ?_
      exact hQ ω hT hS hF
    · skip
      exfalso; omega
  | succ f ih =>
    intro ω S x y hf hT hS hH hF hQ
    have n8 := n8_vw hW
    have l0 := hT.1
    have l1 := hT.2.2.2.1
    obtain ⟨ev, op, dp⟩ := S
    simp only at l0 l1 hf
    rw [runT] at hQ
    refine J_aload_n 0 dX7_layTrace_40 rfl ?_
    refine J_getI 32 lkF_X7_188 rfl rfl rfl dX7_layTrace_41 ?_
    refine J_if_le 152 dX7_layTrace_44 (by decide) (fun h44 => ?_) (fun h44 => ?_)
    · skip
      have e0 : op = [] := List.eq_nil_of_length_eq_zero (by omega)
      subst e0
      simp only [List.isEmpty_nil, true_or, if_true] at hQ
      refine J_iconst 1 dX7_layTrace_152 ⟨by decide, by decide⟩ ?_
      refine JM_zret rfl (by omega) dX7_layTrace_153 ?_
      exact hQ ω hT hS hF
    · skip
      cases op with
      | nil => exfalso; simp only [List.length_nil] at l1; omega
      | cons xx r =>
      obtain ⟨b, h, p⟩ := xx
      refine J_aload_n 0 dX7_layTrace_47 rfl ?_
      refine J_getI 28 lkF_X7_185 rfl rfl rfl dX7_layTrace_48 ?_
      refine J_bipush 60 dX7_layTrace_51 ⟨by decide, by decide⟩ (by decide) ?_
      refine J_icmp_ge 152 dX7_layTrace_53 (by decide) (fun h53 => ?_) (fun h53 => ?_)
      · skip
        rw [if_pos (Or.inr (by simp only; omega))] at hQ
        refine J_iconst 1 dX7_layTrace_152 ⟨by decide, by decide⟩ ?_
        refine JM_zret rfl (by omega) dX7_layTrace_153 ?_
        exact hQ ω hT hS hF
      · skip
        have hx := hH (b, h, p) List.mem_cons_self
        simp only at hx
        have hv := hF.v s
        have hs1 : ω 29 7 = s := by rw [hF.2 7 (by decide) (by decide) (by decide)]; exact hs
        have e2 : ω 29 2 = ω0 29 2 := hF.2 2 (by decide) (by decide) (by decide)
        rw [vw37, vw38, vw17] at hx
        have b40 : 0 ≤ ω0 29 8 ∧ ω0 29 8 ≤ 40 := hW.2.1
        have i6 : 0 ≤ ω0 36 b ∧ ω0 36 b ≤ 6 := hW.2.2.2.2.2.2.2.1 b hx.2.1.1 hx.2.1.2
        have e36 : ω 36 = ω0 36 := hF.1 36 (by decide)
        have e37 : ω 37 = ω0 37 := hF.1 37 (by decide)
        have hL : r.length < 40 := by have := TW_len hS; simp only [List.length_cons] at this; omega
        simp only [List.length_cons] at l1 hf
        have htop : ω 29 32 - 1 = (r.length : Int) := by rw [l1]; omega
        have e46 : ω 46 (r.length : Int) = b := by have := hT.2.2.2.2.1.1; rw [List.length_map] at this; exact this
        have e47 : ω 47 (r.length : Int) = h := by have := hT.2.2.2.2.2.1.1; rw [List.length_map] at this; exact this
        have e48 : ω 48 (r.length : Int) = p := by have := hT.2.2.2.2.2.2.1.1; rw [List.length_map] at this; exact this
        have hsl := st_len (τ := vw s ω0) (ty := ty) (s := (ev, (b, h, p) :: r, dp)) (by simp)
        simp only [List.length_cons] at hsl
        have hSt := TW_step (ty := ty) hW hS (by simp only; omega)
        have hHt := TH_step hW (ty := ty) hH
        rw [if_neg (by simp only [List.isEmpty_cons, Bool.false_eq_true, false_or]; omega)] at hQ
        refine J_aload_n 0 dX7_layTrace_56 rfl ?_
        refine J_getI 32 lkF_X7_188 rfl rfl rfl dX7_layTrace_57 ?_
        refine J_iconst 1 dX7_layTrace_60 ⟨by decide, by decide⟩ ?_
        refine J_isub dX7_layTrace_61 ⟨by omega, by omega⟩ ?_
        refine J_istore_4 dX7_layTrace_62 (by decide) rfl ?_
        rw [htop]
        refine J_aload_n 0 dX7_layTrace_64 rfl ?_
        refine J_getR lkF_X7_65 rfl dX7_layTrace_65 ?_
        refine J_iload 4 dX7_layTrace_68 rfl ?_
        refine J_iaload _ rfl rfl (by omega) dX7_layTrace_70 ?_
        rw [e48]
        refine J_aload_n 0 dX7_layTrace_71 rfl ?_
        refine J_getR lkF_X7_29 rfl dX7_layTrace_72 ?_
        refine J_aload_n 0 dX7_layTrace_75 rfl ?_
        refine J_getR lkF_X7_59 rfl dX7_layTrace_76 ?_
        refine J_iload 4 dX7_layTrace_79 rfl ?_
        refine J_iaload _ rfl rfl (by omega) dX7_layTrace_81 ?_
        rw [e46]
        refine J_iaload _ rfl rfl (by omega) dX7_layTrace_82 ?_
        rw [e36]
        refine J_icmp_ne 99 dX7_layTrace_83 (by decide) (fun h83 => ?_) (fun h83 => ?_)
        · skip
          have hitA := itA_vw hW (b := b) (p := p) hx.2.1 (by omega)
          rw [if_pos (show p < ω0 36 b from by omega)] at hitA
          have hiw := hW.2.2.2.2.2.2.2.2.1 b p hx.2.1.1 hx.2.1.2 hx.2.2.1 (by rw [vw17]; omega)
          rw [vw18, show b * 6 + p = 6 * b + p from by omega, ← hitA] at hiw
          have hst := comT1_TW (dp := dp) (ev := ev) (r := r) (h := h) (ty := ty) hW (b := b) (p := p) (by omega)
          rw [hst] at hSt hHt hsl hQ
          refine J_aload_n 0 dX7_layTrace_99 rfl ?_
          refine J_getR lkF_X7_32 rfl dX7_layTrace_100 ?_
          refine J_bipush 6 dX7_layTrace_103 ⟨by decide, by decide⟩ (by decide) ?_
          refine J_aload_n 0 dX7_layTrace_105 rfl ?_
          refine J_getR lkF_X7_59 rfl dX7_layTrace_106 ?_
          refine J_iload 4 dX7_layTrace_109 rfl ?_
          refine J_iaload _ rfl rfl (by omega) dX7_layTrace_111 ?_
          rw [e46]
          refine J_imul dX7_layTrace_112 ⟨by omega, by omega⟩ ?_
          refine J_aload_n 0 dX7_layTrace_113 rfl ?_
          refine J_getR lkF_X7_65 rfl dX7_layTrace_114 ?_
          refine J_iload 4 dX7_layTrace_117 rfl ?_
          refine J_iaload _ rfl rfl (by omega) dX7_layTrace_119 ?_
          rw [e48]
          refine J_iadd dX7_layTrace_120 ⟨by omega, by omega⟩ ?_
          refine J_iaload _ rfl rfl (by omega) dX7_layTrace_121 ?_
          rw [e37, ← hitA]
          refine J_istore_5 dX7_layTrace_122 (by decide) rfl ?_
          refine J_aload_n 0 dX7_layTrace_124 rfl ?_
          refine J_getR lkF_X7_65 rfl dX7_layTrace_125 ?_
          refine J_iload 4 dX7_layTrace_128 rfl ?_
          refine J_dup2 dX7_layTrace_130 ?_
          refine J_iaload _ rfl rfl (by omega) dX7_layTrace_131 ?_
          rw [e48]
          refine J_iconst 1 dX7_layTrace_132 ⟨by decide, by decide⟩ ?_
          refine J_iadd dX7_layTrace_133 ⟨by omega, by omega⟩ ?_
          refine J_iastore _ rfl (by omega) dX7_layTrace_134 ?_
          refine J_aload_n 0 dX7_layTrace_135 rfl ?_
          refine J_iload 5 dX7_layTrace_136 rfl ?_
          refine J_aload_n 0 dX7_layTrace_138 rfl ?_
          refine J_getR lkF_X7_62 rfl dX7_layTrace_139 ?_
          refine J_iload 4 dX7_layTrace_142 rfl ?_
          refine J_iaload _ rfl rfl (by omega) dX7_layTrace_144 ?_
          try simp (config := {decide := true}) only [up_s, up_k, up_i]
          refine J_iload_n 1 dX7_layTrace_145 rfl ?_
          refine JM_V3 lkM_X7_207 rcv_29 dX7_layTrace_146 (by decide) (Nat.le_of_ble_eq_true rfl) ?_
          have hN := MT_next hT
          have hF1 : TF ω0 (up ω 48 (r.length : Int) (p + 1)) := hF.uk (by decide)
          have hv1 := hF1.v s
          rw [e47]
          refine kX7_comesTo (s := s) hN (by simp only; omega) (by simp only [List.length_cons]; omega) (by rw [up_k (by decide)]; exact hs1) h01 (by rw [hv1]; exact hW) (by rw [up_k (by decide), e2]; exact hx.1) (by rw [up_k (by decide), e2]; exact hty) hiw (fun ω2 t2 f2 => ?_)
          rw [hv1] at t2
          refine J_goto 40 dX7_layTrace_149 (by decide) ?_
          first | exact ih _ _ _ _ (by omega) t2 hSt hHt (hF1.tr f2) hQ | exact ih _ _ _ _ (by simp only; omega) (MT_pop hT) hSt hHt (hF.u9 (by omega)) hQ
        · skip
          have hitA : itA (vw s ω0) b p = -1 := by
            unfold itA
            rw [if_neg (by rw [vw38, vw17]; omega)]
          have hst : stepT (vw s ω0) ty (ev, (b, h, p) :: r, dp) = (ev, r, dp) := by unfold stepT; simp only; rw [if_pos hitA]
          rw [hst] at hSt hHt hsl hQ
          refine J_aload_n 0 dX7_layTrace_86 rfl ?_
          first | refine J_dupR dX7_layTrace_87 ?_ | refine J_dupI dX7_layTrace_87 ?_
          refine J_getI 32 lkF_X7_188 rfl rfl rfl dX7_layTrace_88 ?_
          refine J_iconst 1 dX7_layTrace_91 ⟨by decide, by decide⟩ ?_
          refine J_isub dX7_layTrace_92 ⟨by omega, by omega⟩ ?_
          refine J_putI 32 lkF_X7_188 rfl fp_7_32 rfl dX7_layTrace_93 ?_
          refine J_goto 149 dX7_layTrace_96 (by decide) ?_
          refine J_goto 40 dX7_layTrace_149 (by decide) ?_
          first | exact ih _ _ _ _ (by omega) t2 hSt hHt (hF1.tr f2) hQ | exact ih _ _ _ _ (by simp only; omega) (MT_pop hT) hSt hHt (hF.u9 (by omega)) hQ

theorem MT_0 (ω : Om) : MT (up (up (up ω 29 28 0) 29 31 0) 29 32 0) ([], [], 0) := by
  refine ⟨?_, trivial, trivial, up_s, trivial, trivial, trivial, ?_⟩
  · rw [up_i (by decide), up_i (by decide), up_s]; rfl
  · rw [up_i (by decide), up_s]
set_option maxRecDepth 100000 in
set_option maxHeartbeats 4000000 in
theorem kX7_layTrace {X : Cx} {d : Nat} {ω : Om} {Q : Option MV → Om → Prop} {s ty m : Int} (hs : ω 29 7 = s) (h01 : 0 ≤ s ∧ s ≤ 1) (hW : WfT (vw s ω)) (hty : 0 ≤ ty ∧ ty < ω 29 2) (hm : 0 ≤ m ∧ m < 6) (hQ : ∀ (r : Int) (ω' : Om), RunM (trT (vw s ω) ty m) r ω' → TF ω ω' → Q (some (vI r)) ω') : Mc X mX7_layTrace (d + 4) [vR 29, vI ty, vI m] ω Q := by
  have n8 := n8_vw hW
  have hF0 : TF ω (up (up (up ω 29 28 0) 29 31 0) 29 32 0) := (((TF.rf ω).u9 (by omega)).u9 (by omega)).u9 (by omega)
  have hv := hF0.v s
  have h2 := hF0.2 2 (by decide) (by decide) (by decide)
  have h7 := hF0.2 7 (by decide) (by decide) (by decide)
  have hfr := nrS_fr (s := s) (ω := ω) ty m
  refine Mc_of [some (vR 29), some (vI ty), some (vI m), none, none, none] (by decide +kernel) rfl (Nat.le_of_ble_eq_true rfl) ?_
  refine J_aload_n 0 dX7_layTrace_0 rfl ?_
  refine J_iconst 0 dX7_layTrace_1 ⟨by decide, by decide⟩ ?_
  refine J_putI 28 lkF_X7_185 rfl fp_7_28 rfl dX7_layTrace_2 ?_
  refine J_aload_n 0 dX7_layTrace_5 rfl ?_
  refine J_iconst 0 dX7_layTrace_6 ⟨by decide, by decide⟩ ?_
  refine J_putI 31 lkF_X7_198 rfl fp_7_31 rfl dX7_layTrace_7 ?_
  refine J_aload_n 0 dX7_layTrace_10 rfl ?_
  refine J_iconst 0 dX7_layTrace_11 ⟨by decide, by decide⟩ ?_
  refine J_putI 32 lkF_X7_188 rfl fp_7_32 rfl dX7_layTrace_12 ?_
  refine J_aload_n 0 dX7_layTrace_15 rfl ?_
  refine J_iload_n 1 dX7_layTrace_16 rfl ?_
  refine J_iload_n 2 dX7_layTrace_17 rfl ?_
  refine JM_V2 lkM_X7_157 rcv_29 dX7_layTrace_18 (by decide) (Nat.le_of_ble_eq_true rfl) ?_
  refine kX7_answersIn (s := s) (by rw [h7]; exact hs) h01 (by rw [hv]; exact hW) (by rw [h2]; omega) (by omega) ?_
  rw [hv]
  unfold trT at hQ
  generalize hN : nrS (vw s ω) ty m = t1 at hQ hfr ⊢
  refine J_istore_3 dX7_layTrace_21 (by decide) rfl ?_
  refine J_iload_n 3 dX7_layTrace_22 rfl ?_
  refine J_iconst (-1) dX7_layTrace_23 ⟨by decide, by decide⟩ ?_
  refine J_icmp_ne 29 dX7_layTrace_24 (by decide) (fun h24 => ?_) (fun h24 => ?_)
  · skip
    refine J_aload_n 0 dX7_layTrace_29 rfl ?_
    refine J_aload_n 0 dX7_layTrace_30 rfl ?_
    refine J_iload_n 3 dX7_layTrace_31 rfl ?_
    refine J_iload_n 2 dX7_layTrace_32 rfl ?_
    refine JM_V2 lkM_X7_150 rcv_29 dX7_layTrace_33 (by decide) (Nat.le_of_ble_eq_true rfl) ?_
    refine kX7_memberOf (s := s) (by rw [h7]; exact hs) h01 (by omega) (by omega) ?_
    rw [hv]
    have hb1 := hb_in hW (t := t1) (m := m) (by rw [vw37]; omega) (by omega)
    rw [← hb1]
    refine J_iload_n 3 dX7_layTrace_36 rfl ?_
    refine JM_V2 lkM_X7_204 rcv_29 dX7_layTrace_37 (by decide) (Nat.le_of_ble_eq_true rfl) ?_
    refine kX7_run (MT_0 ω) (by decide) (by decide) (fun ω1 t2 f2 => ?_)
    rw [if_neg (by omega)] at hQ
    have hst : startT (vw s ω) ty m = metB ([], [], 0) (hb (vw s ω) t1 m) t1 := by
      unfold startT
      rw [hN, meet_B (by rw [hb1]; omega)]
      rfl
    rw [← hst] at t2
    have hbR := hb_R hW t1 (m := m) (by omega)
    have hTW : TW (startT (vw s ω) ty m) := by
      unfold startT
      rw [hN]
      exact TW_meet TW_init (by decide) hbR
    have hTH : TH (vw s ω) (startT (vw s ω) ty m) := by
      unfold startT
      exact TH_meet hW (fun x hx => absurd hx List.not_mem_nil) (by omega)
    have hln : 120 + (startT (vw s ω) ty m).2.1.length ≤ 120 + 2 * (startT (vw s ω) ty m).1.length := by
      rw [hst]
      unfold metB
      simp
    exact l_lt hs h01 hW hty 120 ω1 _ none none hln t2 hTW hTH (hF0.tr f2) (fun ω3 t3 w3 f3 => hQ 1 ω3 ⟨rfl, t3, w3⟩ f3)
  · skip
    refine J_iconst 0 dX7_layTrace_27 ⟨by decide, by decide⟩ ?_
    refine JM_zret rfl (by omega) dX7_layTrace_28 ?_
    rw [if_pos (by omega)] at hQ
    exact hQ 0 _ ⟨rfl, by rw [up_i (by decide), up_i (by decide), up_s]⟩ hF0

set_option maxRecDepth 100000 in
set_option maxHeartbeats 4000000 in
theorem kX7_traceNow {X : Cx} {d : Nat} {ω : Om} {Q : Option MV → Om → Prop} {t m w : Int} (hM : MW ω) (ht : 0 ≤ t ∧ t < ω 29 2) (hm : 0 ≤ m ∧ m < 6) (hw : w = 0 ∨ w = 1) (hQ : ∀ (r : Int) (ω' : Om), RunM (trT (vw 0 ω) t m) r ω' → TF ω ω' → Q (some (vI (trN (trT (vw 0 ω) t m) w))) ω') : Mc X mX7_traceNow (d + 5) [vR 29, vI t, vI m, vI w] ω Q := by
  refine Mc_of [some (vR 29), some (vI t), some (vI m), some (vI w)] (by decide +kernel) rfl (Nat.le_of_ble_eq_true rfl) ?_
  refine J_aload_n 0 dX7_traceNow_0 rfl ?_
  refine J_iload_n 1 dX7_traceNow_1 rfl ?_
  refine J_iload_n 2 dX7_traceNow_2 rfl ?_
  refine JM_V2 lkM_X7_211 rcv_29 dX7_traceNow_3 (by decide) (Nat.le_of_ble_eq_true rfl) ?_
  refine kX7_layTrace hM.2 (by decide) hM.1 (by omega) (by omega) (fun r ω1 r1 f1 => ?_)
  refine J_if_ne 13 dX7_traceNow_6 (by decide) (fun h6 => ?_) (fun h6 => ?_)
  · skip
    refine J_iload_n 3 dX7_traceNow_13 rfl ?_
    refine J_if_ne 24 dX7_traceNow_14 (by decide) (fun h14 => ?_) (fun h14 => ?_)
    · skip
      refine J_aload_n 0 dX7_traceNow_24 rfl ?_
      refine J_getI 31 lkF_X7_198 rfl rfl rfl dX7_traceNow_25 ?_
      refine JM_iret rfl dX7_traceNow_28 ?_
      have e := hQ r ω1 r1 f1
      revert e r1
      cases trT (vw 0 ω) t m with
      | none => intro r1 e; first | exact e | exact absurd r1.1 (by omega)
      | some S =>
        intro r1 e
        unfold trN at e
        simp only at e
        first
          | exact absurd r1.1 (by omega)
          | (rw [if_pos (by omega)] at e; rw [r1.2.1.1]; exact e)
          | (rw [if_neg (by omega)] at e; rw [r1.2.1.2.2.2.2.2.2.2]; exact e)
    · skip
      refine J_aload_n 0 dX7_traceNow_17 rfl ?_
      refine J_getI 28 lkF_X7_185 rfl rfl rfl dX7_traceNow_18 ?_
      refine J_goto 28 dX7_traceNow_21 (by decide) ?_
      refine JM_iret rfl dX7_traceNow_28 ?_
      have e := hQ r ω1 r1 f1
      revert e r1
      cases trT (vw 0 ω) t m with
      | none => intro r1 e; first | exact e | exact absurd r1.1 (by omega)
      | some S =>
        intro r1 e
        unfold trN at e
        simp only at e
        first
          | exact absurd r1.1 (by omega)
          | (rw [if_pos (by omega)] at e; rw [r1.2.1.1]; exact e)
          | (rw [if_neg (by omega)] at e; rw [r1.2.1.2.2.2.2.2.2.2]; exact e)
  · skip
    refine J_iconst (-1) dX7_traceNow_9 ⟨by decide, by decide⟩ ?_
    refine J_goto 28 dX7_traceNow_10 (by decide) ?_
    refine JM_iret rfl dX7_traceNow_28 ?_
    have e := hQ r ω1 r1 f1
    revert e r1
    cases trT (vw 0 ω) t m with
    | none => intro r1 e; first | exact e | exact absurd r1.1 (by omega)
    | some S =>
      intro r1 e
      unfold trN at e
      simp only at e
      first
        | exact absurd r1.1 (by omega)
        | (rw [if_pos (by omega)] at e; rw [r1.2.1.1]; exact e)
        | (rw [if_neg (by omega)] at e; rw [r1.2.1.2.2.2.2.2.2.2]; exact e)

set_option maxRecDepth 100000 in
set_option maxHeartbeats 4000000 in
theorem kX7_trace {X : Cx} {d : Nat} {ω : Om} {Q : Option MV → Om → Prop} {t m w : Int} (hM : MW ω) (hQ : ∀ ω', TF ω ω' → Q (some (vI (aTr (vw 0 ω) t m w))) ω') : Mc X mX7_trace (d + 6) [vR 29, vI t, vI m, vI w] ω Q := by
  have n8 := n8_vw hM.1
  unfold aTr at hQ
  rw [vw37] at hQ
  refine Mc_of [some (vR 29), some (vI t), some (vI m), some (vI w)] (by decide +kernel) rfl (Nat.le_of_ble_eq_true rfl) ?_
  refine J_aload_n 0 dX7_trace_0 rfl ?_
  refine J_iload_n 1 dX7_trace_1 rfl ?_
  refine J_iload_n 2 dX7_trace_2 rfl ?_
  refine JM_V2 lkM_X7_176 rcv_29 dX7_trace_3 (by decide) (Nat.le_of_ble_eq_true rfl) ?_
  refine kX7_isMethod n8 ?_
  generalize hg : (if (0 ≤ t ∧ t < ω 29 2) ∧ 0 ≤ m ∧ m < 6 then (1 : Int) else 0) = g
  have hg2 : (g = 1 ∧ ((0 ≤ t ∧ t < ω 29 2) ∧ 0 ≤ m ∧ m < 6)) ∨ (g = 0 ∧ ¬ ((0 ≤ t ∧ t < ω 29 2) ∧ 0 ≤ m ∧ m < 6)) := by
    subst hg
    split
    · left; exact ⟨rfl, by omega⟩
    · right; exact ⟨rfl, by omega⟩
  refine J_if_ne 13 dX7_trace_6 (by decide) (fun h6 => ?_) (fun h6 => ?_)
  · skip
    refine J_iload_n 3 dX7_trace_13 rfl ?_
    refine J_iconst 0 dX7_trace_14 ⟨by decide, by decide⟩ ?_
    refine J_iconst 1 dX7_trace_15 ⟨by decide, by decide⟩ ?_
    refine JM_S3 lkM_X7_77 dX7_trace_16 (by decide) (Nat.le_of_ble_eq_true rfl) ?_
    refine kX7_within ?_
    generalize hg1 : (if 0 ≤ w ∧ w ≤ 1 then (1 : Int) else 0) = g1
    have hg12 : (g1 = 1 ∧ (0 ≤ w ∧ w ≤ 1)) ∨ (g1 = 0 ∧ ¬ (0 ≤ w ∧ w ≤ 1)) := by
      subst hg1
      split
      · left; exact ⟨rfl, by omega⟩
      · right; exact ⟨rfl, by omega⟩
    refine J_if_eq 32 dX7_trace_19 (by decide) (fun h19 => ?_) (fun h19 => ?_)
    · skip
      refine J_sipush (-1002) dX7_trace_32 ⟨by decide, by decide⟩ (by decide) ?_
      refine JM_iret rfl dX7_trace_35 ?_
      first | (have e := hQ ω (TF.rf ω); rw [if_neg (by omega)] at e; exact e) | (have e := hQ ω (TF.rf ω); rw [if_pos (by omega), if_neg (by omega)] at e; exact e) | (have e := hQ ω1 f1; rw [if_pos (by omega), if_pos (by omega)] at e; exact e)
    · skip
      refine J_aload_n 0 dX7_trace_22 rfl ?_
      refine J_iload_n 1 dX7_trace_23 rfl ?_
      refine J_iload_n 2 dX7_trace_24 rfl ?_
      refine J_iload_n 3 dX7_trace_25 rfl ?_
      refine JM_V3 lkM_X7_214 rcv_29 dX7_trace_26 (by decide) (Nat.le_of_ble_eq_true rfl) ?_
      refine kX7_traceNow hM (by omega) (by omega) (by omega) (fun r ω1 r1 f1 => ?_)
      refine J_goto 35 dX7_trace_29 (by decide) ?_
      refine JM_iret rfl dX7_trace_35 ?_
      first | (have e := hQ ω (TF.rf ω); rw [if_neg (by omega)] at e; exact e) | (have e := hQ ω (TF.rf ω); rw [if_pos (by omega), if_neg (by omega)] at e; exact e) | (have e := hQ ω1 f1; rw [if_pos (by omega), if_pos (by omega)] at e; exact e)
  · skip
    refine J_sipush (-1001) dX7_trace_9 ⟨by decide, by decide⟩ (by decide) ?_
    refine JM_iret rfl dX7_trace_12 ?_
    first | (have e := hQ ω (TF.rf ω); rw [if_neg (by omega)] at e; exact e) | (have e := hQ ω (TF.rf ω); rw [if_pos (by omega), if_neg (by omega)] at e; exact e) | (have e := hQ ω1 f1; rw [if_pos (by omega), if_pos (by omega)] at e; exact e)

theorem RunM_ev {o : Option TS} {r : Int} {ω : Om} (h : RunM o r ω) : (r = 0 ∧ o = none ∧ ω 29 28 = 0) ∨ (r = 1 ∧ ∃ s, o = some s ∧ MT ω s ∧ TW s) := by
  cases o with
  | none => left; exact ⟨h.1, rfl, h.2⟩
  | some s => right; exact ⟨h.1, s, rfl, h.2⟩
theorem MT_at {ω : Om} {s : TS} (h : MT ω s) {i : Int} (hi : 0 ≤ i ∧ i < s.1.length) : ω 44 i = evN s.1 i % 4 ∧ ω 45 i = evN s.1 i / 4 := ⟨Arr_map h.2.1 hi, Arr_map h.2.2.1 hi⟩
theorem tr_evs {τ : Om} {t m : Int} {s : TS} (h : trT τ t m = some s) : evs τ t m = s.1 := by unfold evs; rw [h]
set_option maxRecDepth 100000 in
set_option maxHeartbeats 4000000 in
theorem kX7_event {X : Cx} {d : Nat} {ω : Om} {Q : Option MV → Om → Prop} {t m i w : Int} (hM : MW ω) (hQ : ∀ ω', TF ω ω' → Q (some (vI (aEv (vw 0 ω) t m i w))) ω') : Mc X mX7_event (d + 5) [vR 29, vI t, vI m, vI i, vI w] ω Q := by
  have n8 := n8_vw hM.1
  unfold aEv at hQ
  rw [vw37] at hQ
  refine Mc_of [some (vR 29), some (vI t), some (vI m), some (vI i), some (vI w)] (by decide +kernel) rfl (Nat.le_of_ble_eq_true rfl) ?_
  refine J_aload_n 0 dX7_event_0 rfl ?_
  refine J_iload_n 1 dX7_event_1 rfl ?_
  refine J_iload_n 2 dX7_event_2 rfl ?_
  refine JM_V2 lkM_X7_176 rcv_29 dX7_event_3 (by decide) (Nat.le_of_ble_eq_true rfl) ?_
  refine kX7_isMethod n8 ?_
  generalize hg : (if (0 ≤ t ∧ t < ω 29 2) ∧ 0 ≤ m ∧ m < 6 then (1 : Int) else 0) = g
  have hg2 : (g = 1 ∧ ((0 ≤ t ∧ t < ω 29 2) ∧ 0 ≤ m ∧ m < 6)) ∨ (g = 0 ∧ ¬ ((0 ≤ t ∧ t < ω 29 2) ∧ 0 ≤ m ∧ m < 6)) := by
    subst hg
    split
    · left; exact ⟨rfl, by omega⟩
    · right; exact ⟨rfl, by omega⟩
  refine J_if_eq 32 dX7_event_6 (by decide) (fun h6 => ?_) (fun h6 => ?_)
  · skip
    refine J_sipush (-1001) dX7_event_32 ⟨by decide, by decide⟩ (by decide) ?_
    refine JM_iret rfl dX7_event_35 ?_
    first | (have e := hQ ω (TF.rf ω); rw [if_neg (by omega)] at e; exact e) | (have e := hQ ω1 f1; rw [if_pos (by omega), if_neg (by omega)] at e; exact e) | (have e := hQ ω1 f1; rw [if_pos (by omega), if_pos (by omega)] at e; first | (rw [if_pos (by omega)] at e; rw [(hev (by omega) (by omega) (by omega)).1]; exact e) | (rw [if_neg (by omega), if_pos (by omega)] at e; rw [(hev (by omega) (by omega) (by omega)).2]; exact e) | (rw [if_neg (by omega), if_neg (by omega)] at e; exact e))
  · skip
    refine J_aload_n 0 dX7_event_9 rfl ?_
    refine J_iload_n 1 dX7_event_10 rfl ?_
    refine J_iload_n 2 dX7_event_11 rfl ?_
    refine JM_V2 lkM_X7_211 rcv_29 dX7_event_12 (by decide) (Nat.le_of_ble_eq_true rfl) ?_
    refine kX7_layTrace hM.2 (by decide) hM.1 (by omega) (by omega) (fun r ω1 r1 f1 => ?_)
    have hl : (r = 0 ∧ trN (trT (vw 0 ω) t m) 0 = -1) ∨ (r = 1 ∧ trN (trT (vw 0 ω) t m) 0 = ω1 29 28 ∧ 0 ≤ ω1 29 28 ∧ ω1 29 28 ≤ 60) := by
      rcases RunM_ev r1 with ⟨q, q1, _⟩ | ⟨q, S, q1, q2, q3⟩
      · left; rw [q1]; exact ⟨q, rfl⟩
      · right; rw [q1]; have := q2.1; have := q3.2.2.2.2; unfold trN; simp only [if_true]; omega
    have hev : r = 1 → 0 ≤ i → i < ω1 29 28 → ω1 44 i = evN (evs (vw 0 ω) t m) i % 4 ∧ ω1 45 i = evN (evs (vw 0 ω) t m) i / 4 := fun hr i0 i1 => by
      rcases RunM_ev r1 with ⟨q, _, _⟩ | ⟨q, S, q1, q2, q3⟩
      · omega
      · rw [tr_evs q1]; exact MT_at q2 ⟨i0, by rw [← q2.1]; exact i1⟩
    clear r1
    refine J_if_eq 32 dX7_event_15 (by decide) (fun h15 => ?_) (fun h15 => ?_)
    · skip
      refine J_sipush (-1001) dX7_event_32 ⟨by decide, by decide⟩ (by decide) ?_
      refine JM_iret rfl dX7_event_35 ?_
      first | (have e := hQ ω (TF.rf ω); rw [if_neg (by omega)] at e; exact e) | (have e := hQ ω1 f1; rw [if_pos (by omega), if_neg (by omega)] at e; exact e) | (have e := hQ ω1 f1; rw [if_pos (by omega), if_pos (by omega)] at e; first | (rw [if_pos (by omega)] at e; rw [(hev (by omega) (by omega) (by omega)).1]; exact e) | (rw [if_neg (by omega), if_pos (by omega)] at e; rw [(hev (by omega) (by omega) (by omega)).2]; exact e) | (rw [if_neg (by omega), if_neg (by omega)] at e; exact e))
    · skip
      refine J_iload_n 3 dX7_event_18 rfl ?_
      refine J_iconst 0 dX7_event_19 ⟨by decide, by decide⟩ ?_
      refine J_aload_n 0 dX7_event_20 rfl ?_
      refine J_getI 28 lkF_X7_185 rfl rfl rfl dX7_event_21 ?_
      refine J_iconst 1 dX7_event_24 ⟨by decide, by decide⟩ ?_
      refine J_isub dX7_event_25 ⟨by omega, by omega⟩ ?_
      refine JM_S3 lkM_X7_77 dX7_event_26 (by decide) (Nat.le_of_ble_eq_true rfl) ?_
      refine kX7_within ?_
      generalize hg1 : (if 0 ≤ i ∧ i ≤ ω1 29 28 - 1 then (1 : Int) else 0) = g1
      have hg12 : (g1 = 1 ∧ (0 ≤ i ∧ i ≤ ω1 29 28 - 1)) ∨ (g1 = 0 ∧ ¬ (0 ≤ i ∧ i ≤ ω1 29 28 - 1)) := by
        subst hg1
        split
        · left; exact ⟨rfl, by omega⟩
        · right; exact ⟨rfl, by omega⟩
      refine J_if_ne 36 dX7_event_29 (by decide) (fun h29 => ?_) (fun h29 => ?_)
      · skip
        refine J_iload 4 dX7_event_36 rfl ?_
        refine J_if_ne 50 dX7_event_38 (by decide) (fun h38 => ?_) (fun h38 => ?_)
        · skip
          refine J_iload 4 dX7_event_50 rfl ?_
          refine J_iconst 1 dX7_event_52 ⟨by decide, by decide⟩ ?_
          refine J_icmp_ne 65 dX7_event_53 (by decide) (fun h53 => ?_) (fun h53 => ?_)
          · skip
            refine J_sipush (-1002) dX7_event_65 ⟨by decide, by decide⟩ (by decide) ?_
            refine JM_iret rfl dX7_event_68 ?_
            first | (have e := hQ ω (TF.rf ω); rw [if_neg (by omega)] at e; exact e) | (have e := hQ ω1 f1; rw [if_pos (by omega), if_neg (by omega)] at e; exact e) | (have e := hQ ω1 f1; rw [if_pos (by omega), if_pos (by omega)] at e; first | (rw [if_pos (by omega)] at e; rw [(hev (by omega) (by omega) (by omega)).1]; exact e) | (rw [if_neg (by omega), if_pos (by omega)] at e; rw [(hev (by omega) (by omega) (by omega)).2]; exact e) | (rw [if_neg (by omega), if_neg (by omega)] at e; exact e))
          · skip
            refine J_aload_n 0 dX7_event_56 rfl ?_
            refine J_getR lkF_X7_56 rfl dX7_event_57 ?_
            refine J_iload_n 3 dX7_event_60 rfl ?_
            refine J_iaload _ rfl rfl (by omega) dX7_event_61 ?_
            refine J_goto 68 dX7_event_62 (by decide) ?_
            refine JM_iret rfl dX7_event_68 ?_
            first | (have e := hQ ω (TF.rf ω); rw [if_neg (by omega)] at e; exact e) | (have e := hQ ω1 f1; rw [if_pos (by omega), if_neg (by omega)] at e; exact e) | (have e := hQ ω1 f1; rw [if_pos (by omega), if_pos (by omega)] at e; first | (rw [if_pos (by omega)] at e; rw [(hev (by omega) (by omega) (by omega)).1]; exact e) | (rw [if_neg (by omega), if_pos (by omega)] at e; rw [(hev (by omega) (by omega) (by omega)).2]; exact e) | (rw [if_neg (by omega), if_neg (by omega)] at e; exact e))
        · skip
          refine J_aload_n 0 dX7_event_41 rfl ?_
          refine J_getR lkF_X7_53 rfl dX7_event_42 ?_
          refine J_iload_n 3 dX7_event_45 rfl ?_
          refine J_iaload _ rfl rfl (by omega) dX7_event_46 ?_
          refine J_goto 68 dX7_event_47 (by decide) ?_
          refine JM_iret rfl dX7_event_68 ?_
          first | (have e := hQ ω (TF.rf ω); rw [if_neg (by omega)] at e; exact e) | (have e := hQ ω1 f1; rw [if_pos (by omega), if_neg (by omega)] at e; exact e) | (have e := hQ ω1 f1; rw [if_pos (by omega), if_pos (by omega)] at e; first | (rw [if_pos (by omega)] at e; rw [(hev (by omega) (by omega) (by omega)).1]; exact e) | (rw [if_neg (by omega), if_pos (by omega)] at e; rw [(hev (by omega) (by omega) (by omega)).2]; exact e) | (rw [if_neg (by omega), if_neg (by omega)] at e; exact e))
      · skip
        refine J_sipush (-1001) dX7_event_32 ⟨by decide, by decide⟩ (by decide) ?_
        refine JM_iret rfl dX7_event_35 ?_
        first | (have e := hQ ω (TF.rf ω); rw [if_neg (by omega)] at e; exact e) | (have e := hQ ω1 f1; rw [if_pos (by omega), if_neg (by omega)] at e; exact e) | (have e := hQ ω1 f1; rw [if_pos (by omega), if_pos (by omega)] at e; first | (rw [if_pos (by omega)] at e; rw [(hev (by omega) (by omega) (by omega)).1]; exact e) | (rw [if_neg (by omega), if_pos (by omega)] at e; rw [(hev (by omega) (by omega) (by omega)).2]; exact e) | (rw [if_neg (by omega), if_neg (by omega)] at e; exact e))
