/-! bodies that run are bodies that are -/
def TVB (τ : Om) (s : TS) : Prop := ∀ e ∈ s.1, e % 4 < 2 → e / 4 < τ 3 8
theorem hb_nb {τ : Om} (hW : WfT τ) {t m : Int} (hm : m < 6) (h : ¬ hb τ t m = -1) : 0 ≤ hb τ t m ∧ hb τ t m < τ 3 8 := by
  unfold hb at h ⊢
  split
  · rename_i g
    rw [if_pos g] at h
    have := hW.2.2.2.1 t m g.1 g.2.1 g.2.2.2.1 hm
    omega
  · rename_i g; rw [if_neg g] at h; exact absurd rfl h
theorem TVB_meet {τ : Om} (hW : WfT τ) {s : TS} {h m : Int} (hs : TVB τ s) (hm : 0 ≤ m ∧ m < 6) : TVB τ (meetT τ s h m) := by
  unfold meetT
  split
  · intro e he q
    rcases List.mem_cons.mp he with rfl | he
    · omega
    · exact hs e he q
  · rename_i g
    have hn := hb_nb hW hm.2 g
    split
    · intro e he q
      rcases List.mem_cons.mp he with rfl | he
      · omega
      · exact hs e he q
    · intro e he q
      rcases List.mem_cons.mp he with rfl | he
      · omega
      · exact hs e he q
theorem TVB_use {τ : Om} {s : TS} {h f : Int} (hs : TVB τ s) : TVB τ (useT τ s h f) := by
  unfold useT
  intro e he q
  rcases List.mem_cons.mp he with rfl | he
  · split at q <;> omega
  · exact hs e he q
theorem TVB_run {τ : Om} {ty : Int} (hW : WfT τ) : ∀ (f : Nat) (s : TS), TVB τ s → TVB τ (runT τ ty f s) := by
  intro f
  induction f with
  | zero => intro s h; exact h
  | succ f ih =>
    intro s h
    unfold runT
    split
    · exact h
    · refine ih _ ?_
      obtain ⟨ev, stk, dp⟩ := s
      cases stk with
      | nil => exact h
      | cons x r =>
        obtain ⟨b, a, p⟩ := x
        simp only [stepT]
        split
        · exact h
        · rename_i h1
          obtain ⟨g1, g2⟩ := itA_R hW b p h1
          split
          · exact TVB_use h
          · exact TVB_meet hW h (by omega)
theorem evs_nb {τ : Om} (hW : WfT τ) {t m : Int} (hm : 0 ≤ m ∧ m < 6) : ∀ e ∈ evs τ t m, e % 4 < 2 → e / 4 < τ 3 8 := by
  unfold evs
  cases h : trT τ t m with
  | none => intro e he; exact absurd he List.not_mem_nil
  | some s =>
    unfold trT at h
    split at h
    · cases h
    · cases h
      exact TVB_run hW _ _ (TVB_meet hW (fun _ h => absurd h List.not_mem_nil) (by omega))
theorem reach_nb {τ : Om} (hW : WfT τ) (c : Int) : ∀ k, reachT τ c k = true → c < τ 3 8 := by
  intro k
  induction k with
  | zero => intro h; cases h
  | succ k ih =>
    intro h
    simp only [reachT, Bool.or_eq_true, Bool.and_eq_true] at h
    rcases h with h | ⟨_, h⟩
    · exact ih h
    · have h1 := List.contains_iff_mem.mp h
      have := evs_nb hW (by omega) _ h1 (by omega)
      omega
/-- bodies that are dead, among the first k -/
def ddS (τ : Om) : Nat → Int
  | 0 => 0
  | k + 1 => ddS τ k + ddN τ k
theorem ddS_sum (τ : Om) : ∀ k : Nat, ddS τ k = k - sumB (fun i => reachT τ (i : Int) (6 * (τ 3 7).toNat)) k := by
  intro k
  induction k with
  | zero => rfl
  | succ k ih =>
    simp only [ddS, sumB]
    rw [ih]
    unfold ddN
    split <;> omega
theorem dd_bc {τ ω : Om} (hW : WfT τ) (h : ∀ c : Nat, c < 64 → tbL (ω 5 5) c = reachT τ c (6 * (τ 3 7).toNat)) : τ 3 8 - bcL (ω 5 5) = ddS τ (τ 3 8).toNat := by
  have b40 := hW.2.1
  rw [ddS_sum, bcL_sum, sumB_cg (q := fun i => reachT τ (i : Int) (6 * (τ 3 7).toNat)) 64 (fun i hi => h i hi)]
  have e := sumB_none (p := fun i => reachT τ (i : Int) (6 * (τ 3 7).toNat)) (τ 3 8).toNat (64 - (τ 3 8).toNat) (fun i a b => by
    rw [Bool.eq_false_iff]; intro q
    have := reach_nb hW i _ q
    omega)
  rw [show (τ 3 8).toNat + (64 - (τ 3 8).toNat) = 64 from by omega] at e
  rw [e]
  omega
set_option maxRecDepth 100000 in
set_option maxHeartbeats 4000000 in
theorem kJ13_bitCount_95d88 {X : Cx} {d : Nat} {ω : Om} {Q : Option MV → Om → Prop} {x : Int} (hQ : Q (some (vI (bcL x))) ω) : Mc X mJ13_bitCount_95d88 d [vL x] ω Q := by
  refine Mc_of [some (vL x), none] (by decide +kernel) rfl (Nat.le_of_ble_eq_true rfl) ?_
  refine J_lload_n 0 dJ13_bitCount_95d88_0 rfl ?_
  refine J_lload_n 0 dJ13_bitCount_95d88_1 rfl ?_
  refine J_iconst 1 dJ13_bitCount_95d88_2 ⟨by decide, by decide⟩ ?_
  refine J_lushr dJ13_bitCount_95d88_3 ?_
  refine J_ldc2z (v := (6148914691236517205)) (6148914691236517205) (gm 762 (by decide +kernel) rfl) (by decide) dJ13_bitCount_95d88_4 ?_
  refine J_land dJ13_bitCount_95d88_7 ?_
  refine J_lsub dJ13_bitCount_95d88_8 ?_
  refine J_lstore_0 dJ13_bitCount_95d88_9 (by decide) ?_
  refine J_lload_n 0 dJ13_bitCount_95d88_10 rfl ?_
  refine J_ldc2z (v := (3689348814741910323)) (3689348814741910323) (gm 763 (by decide +kernel) rfl) (by decide) dJ13_bitCount_95d88_11 ?_
  refine J_land dJ13_bitCount_95d88_14 ?_
  refine J_lload_n 0 dJ13_bitCount_95d88_15 rfl ?_
  refine J_iconst 2 dJ13_bitCount_95d88_16 ⟨by decide, by decide⟩ ?_
  refine J_lushr dJ13_bitCount_95d88_17 ?_
  refine J_ldc2z (v := (3689348814741910323)) (3689348814741910323) (gm 763 (by decide +kernel) rfl) (by decide) dJ13_bitCount_95d88_18 ?_
  refine J_land dJ13_bitCount_95d88_21 ?_
  refine J_ladd dJ13_bitCount_95d88_22 ?_
  refine J_lstore_0 dJ13_bitCount_95d88_23 (by decide) ?_
  refine J_lload_n 0 dJ13_bitCount_95d88_24 rfl ?_
  refine J_lload_n 0 dJ13_bitCount_95d88_25 rfl ?_
  refine J_iconst 4 dJ13_bitCount_95d88_26 ⟨by decide, by decide⟩ ?_
  refine J_lushr dJ13_bitCount_95d88_27 ?_
  refine J_ladd dJ13_bitCount_95d88_28 ?_
  refine J_ldc2z (v := (1085102592571150095)) (1085102592571150095) (gm 764 (by decide +kernel) rfl) (by decide) dJ13_bitCount_95d88_29 ?_
  refine J_land dJ13_bitCount_95d88_32 ?_
  refine J_lstore_0 dJ13_bitCount_95d88_33 (by decide) ?_
  refine J_lload_n 0 dJ13_bitCount_95d88_34 rfl ?_
  refine J_lload_n 0 dJ13_bitCount_95d88_35 rfl ?_
  refine J_bipush 8 dJ13_bitCount_95d88_36 ⟨by decide, by decide⟩ (by decide) ?_
  refine J_lushr dJ13_bitCount_95d88_38 ?_
  refine J_ladd dJ13_bitCount_95d88_39 ?_
  refine J_lstore_0 dJ13_bitCount_95d88_40 (by decide) ?_
  refine J_lload_n 0 dJ13_bitCount_95d88_41 rfl ?_
  refine J_lload_n 0 dJ13_bitCount_95d88_42 rfl ?_
  refine J_bipush 16 dJ13_bitCount_95d88_43 ⟨by decide, by decide⟩ (by decide) ?_
  refine J_lushr dJ13_bitCount_95d88_45 ?_
  refine J_ladd dJ13_bitCount_95d88_46 ?_
  refine J_lstore_0 dJ13_bitCount_95d88_47 (by decide) ?_
  refine J_lload_n 0 dJ13_bitCount_95d88_48 rfl ?_
  refine J_lload_n 0 dJ13_bitCount_95d88_49 rfl ?_
  refine J_bipush 32 dJ13_bitCount_95d88_50 ⟨by decide, by decide⟩ (by decide) ?_
  refine J_lushr dJ13_bitCount_95d88_52 ?_
  refine J_ladd dJ13_bitCount_95d88_53 ?_
  refine J_lstore_0 dJ13_bitCount_95d88_54 (by decide) ?_
  refine J_lload_n 0 dJ13_bitCount_95d88_55 rfl ?_
  refine J_l2i dJ13_bitCount_95d88_56 ?_
  refine J_bipush 127 dJ13_bitCount_95d88_57 ⟨by decide, by decide⟩ (by decide) ?_
  refine J_iand dJ13_bitCount_95d88_59 ?_
  refine JM_iret rfl dJ13_bitCount_95d88_60 ?_
  exact hQ

set_option maxRecDepth 100000 in
set_option maxHeartbeats 4000000 in
theorem kX3_reachedCount {X : Cx} {d : Nat} {ω : Om} {Q : Option MV → Om → Prop} (hQ : Q (some (vI (bcL (ω 5 5)))) ω) : Mc X mX3_reachedCount (d + 1) [vR 5] ω Q := by
  refine Mc_of [some (vR 5)] (by decide +kernel) rfl (Nat.le_of_ble_eq_true rfl) ?_
  refine J_aload_n 0 dX3_reachedCount_0 rfl ?_
  refine J_getL 5 lkF_X3_36 rfl rfl dX3_reachedCount_1 ?_
  refine JM_S1 lkM_X3_76 dX3_reachedCount_4 (by decide) (Nat.le_of_ble_eq_true rfl) ?_
  refine kJ13_bitCount_95d88 ?_
  refine JM_iret rfl dX3_reachedCount_7 ?_
  exact hQ

/-- the page -/
def PG (ω : Om) : Prop := (0 ≤ ω 1 1 ∧ ω 1 1 ≤ 40) ∧ ∀ i, 0 ≤ i → i < ω 1 1 → 32 ≤ ω 8 i ∧ ω 8 i ≤ 126
theorem PG.cd {ω : Om} (h : PG ω) : ∀ i : Int, 0 ≤ i → i < ω 1 1 → -100 ≤ ω 8 i ∧ ω 8 i ≤ 1000 := fun i a b => by have := h.2 i a b; omega
set_option maxRecDepth 100000 in
set_option maxHeartbeats 4000000 in
theorem kX6_letter {X : Cx} {d : Nat} {ω : Om} {Q : Option MV → Om → Prop} {c : Int} (hP : PG ω) (hQ : if 32 ≤ c ∧ c ≤ 126 then (if ω 1 1 < 40 then Q (some (vI (ω 1 1 + 1))) (up (up ω 8 (ω 1 1) c) 1 1 (ω 1 1 + 1)) else Q (some (vI (-1004))) ω) else Q (some (vI (-1002))) ω) : Mc X mX6_letter (d + 1) [vR 0, vI c] ω Q := by
  refine Mc_of [some (vR 0), some (vI c)] (by decide +kernel) rfl (Nat.le_of_ble_eq_true rfl) ?_
  refine J_iload_n 1 dX6_letter_0 rfl ?_
  refine J_bipush 32 dX6_letter_1 ⟨by decide, by decide⟩ (by decide) ?_
  refine J_icmp_lt 12 dX6_letter_3 (by decide) (fun h3 => ?_) (fun h3 => ?_)
  · skip
    rw [if_neg (by omega)] at hQ
    refine J_sipush (-1002) dX6_letter_12 ⟨by decide, by decide⟩ (by decide) ?_
    refine JM_iret rfl dX6_letter_15 ?_
    exact hQ
  · skip
    refine J_iload_n 1 dX6_letter_6 rfl ?_
    refine J_bipush 126 dX6_letter_7 ⟨by decide, by decide⟩ (by decide) ?_
    refine J_icmp_le 16 dX6_letter_9 (by decide) (fun h9 => ?_) (fun h9 => ?_)
    · skip
      rw [if_pos (by omega)] at hQ
      refine J_aload_n 0 dX6_letter_16 rfl ?_
      refine J_getR lkF_X6_10 rfl dX6_letter_17 ?_
      refine J_iload_n 1 dX6_letter_20 rfl ?_
      refine JM_V1 lkM_X6_61 rcv_1 dX6_letter_21 (by decide) (Nat.le_of_ble_eq_true rfl) ?_
      refine kX1_append hP.1.1 ?_
      by_cases h40 : ω 1 1 < 40
      rotate_left
      · rw [if_neg h40] at hQ ⊢
        refine J_if_eq 37 dX6_letter_24 (by decide) (fun h24 => ?_) (fun h24 => ?_)
        · skip
          refine J_sipush (-1004) dX6_letter_37 ⟨by decide, by decide⟩ (by decide) ?_
          refine JM_iret rfl dX6_letter_40 ?_
          exact hQ
        · skip
          exact absurd rfl h24
      rw [if_pos h40] at hQ ⊢
      refine J_if_eq 37 dX6_letter_24 (by decide) (fun h24 => ?_) (fun h24 => ?_)
      · skip
        exact absurd h24 (by decide)
      · skip
        skip
        refine J_aload_n 0 dX6_letter_27 rfl ?_
        refine J_getR lkF_X6_10 rfl dX6_letter_28 ?_
        refine J_getI 1 lkF_X6_65 rfl rfl rfl dX6_letter_31 ?_
        try simp (config := {decide := true}) only [up_s, up_k, up_i]
        refine J_goto 40 dX6_letter_34 (by decide) ?_
        refine JM_iret rfl dX6_letter_40 ?_
        exact hQ
    · skip
      rw [if_neg (by omega)] at hQ
      refine J_sipush (-1002) dX6_letter_12 ⟨by decide, by decide⟩ (by decide) ?_
      refine JM_iret rfl dX6_letter_15 ?_
      exact hQ

set_option maxRecDepth 100000 in
set_option maxHeartbeats 4000000 in
theorem kX6_blank {X : Cx} {d : Nat} {ω : Om} {Q : Option MV → Om → Prop} (hQ : Q (some (vI (ω 1 1))) (up ω 1 1 0)) : Mc X mX6_blank (d + 1) [vR 0] ω Q := by
  refine Mc_of [some (vR 0), none] (by decide +kernel) rfl (Nat.le_of_ble_eq_true rfl) ?_
  refine J_aload_n 0 dX6_blank_0 rfl ?_
  refine J_getR lkF_X6_10 rfl dX6_blank_1 ?_
  refine J_getI 1 lkF_X6_65 rfl rfl rfl dX6_blank_4 ?_
  refine J_istore_1 dX6_blank_7 (by decide) rfl ?_
  refine J_aload_n 0 dX6_blank_8 rfl ?_
  refine J_getR lkF_X6_10 rfl dX6_blank_9 ?_
  refine JM_V0 lkM_X6_68 rcv_1 dX6_blank_12 (by decide) (Nat.le_of_ble_eq_true rfl) ?_
  refine kX1_wipe ?_
  refine J_iload_n 1 dX6_blank_15 rfl ?_
  refine JM_iret rfl dX6_blank_16 ?_
  exact hQ

set_option maxRecDepth 100000 in
set_option maxHeartbeats 4000000 in
theorem kX6_fault {X : Cx} {d : Nat} {ω : Om} {Q : Option MV → Om → Prop} (hC : CS ω) (hP : PG ω) (hQ : ∀ ω', Fr [2, 9, 10, 11] ω ω' → Q (some (vI (rdF (ω 8) (ω 3 7) (ω 1 1).toNat 0 rd0).1)) ω') : Mc X mX6_fault (d + 5) [vR 0] ω Q := by
  refine Mc_of [some (vR 0)] (by decide +kernel) rfl (Nat.le_of_ble_eq_true rfl) ?_
  refine J_aload_n 0 dX6_fault_0 rfl ?_
  refine J_getR lkF_X6_19 rfl dX6_fault_1 ?_
  refine J_aload_n 0 dX6_fault_4 rfl ?_
  refine J_getR lkF_X6_10 rfl dX6_fault_5 ?_
  refine J_aload_n 0 dX6_fault_8 rfl ?_
  refine J_getR lkF_X6_26 rfl dX6_fault_9 ?_
  refine J_getI 7 lkF_X6_71 rfl rfl rfl dX6_fault_12 ?_
  refine JM_V2 lkM_X6_74 rcv_2 dX6_fault_15 (by decide) (Nat.le_of_ble_eq_true rfl) ?_
  refine kX2_read hC.1.1 hP.1 hP.cd (fun ω1 q1 q2 => ?_)
  refine JM_iret rfl dX6_fault_18 ?_
  exact hQ ω1 q2

/-- what the page tells, if it is a class -/
def tyO (f : Int → Int) (n : Int) (k : Nat) : Option RS := match (rdF f n k 0 rd0).2 with
  | none => none
  | some s => if 4 ≤ s.1 ∧ s.1 ≤ 6 then some s else none
theorem rdF_1 (f : Int → Int) (n : Int) : ∀ (k i : Nat) (s : RS), ((rdF f n k i s).2 = none → (rdF f n k i s).1 < (i : Int) + k) ∧ (∀ s', (rdF f n k i s).2 = some s' → (rdF f n k i s).1 = (i : Int) + k) := by
  intro k
  induction k with
  | zero => intro i s; refine ⟨fun h => ?_, fun s' h => ?_⟩ <;> simp [rdF] at h ⊢
  | succ k ih =>
    intro i s
    simp only [rdF]
    cases h : rdS n (f i) s with
    | none => refine ⟨fun _ => by simp only; omega, fun s' q => by cases q⟩
    | some s' => have := ih (i + 1) s'; refine ⟨fun q => ?_, fun s2 q => ?_⟩
                 · have h2 := this.1 q
                   show (rdF f n k (i + 1) s').1 < _
                   omega
                 · have h2 := this.2 s2 q
                   show (rdF f n k (i + 1) s').1 = _
                   omega
set_option maxRecDepth 100000 in
set_option maxHeartbeats 4000000 in
theorem kX6_type {X : Cx} {d : Nat} {ω : Om} {Q : Option MV → Om → Prop} (hC : CS ω) (hP : PG ω) (hv : 0 ≤ ω 3 9 ∧ ω 3 9 < 1000000) (hQ0 : tyO (ω 8) (ω 3 7) (ω 1 1).toNat = none → ∀ ω', Fr [2, 9, 10, 11] ω ω' → Q (some (vI (-1003))) ω') (hQ1 : ∀ s, tyO (ω 8) (ω 3 7) (ω 1 1).toNat = some s → ¬ (ω 3 7 < 8 ∧ ω 3 8 + nMth s.2.2.1 ≤ 40) → ∀ ω', Fr [2, 9, 10, 11] ω ω' → Q (some (vI (-1004))) ω') (hQ2 : ∀ s, tyO (ω 8) (ω 3 7) (ω 1 1).toNat = some s → RW (ω 3 7) s → ω 3 7 < 8 ∧ ω 3 8 + nMth s.2.2.1 ≤ 40 → ∀ ω1 ω2, Fr [2, 9, 10, 11] ω ω1 → AcL ω1 ω2 s s.2.2.1 (ω1 3 9 + 1) → Q (some (vI (ω 3 7))) (up (up ω2 1 1 0) 6 6 0)) : Mc X mX6_type (d + 5) [vR 0] ω Q := by
  have n8 := hC.1.1
  have b40 := hC.1.2.1
  have p40 := hP.1
  have hr1 := rdF_1 (ω 8) (ω 3 7) (ω 1 1).toNat 0 rd0
  refine Mc_of [some (vR 0), none] (by decide +kernel) rfl (Nat.le_of_ble_eq_true rfl) ?_
  refine J_aload_n 0 dX6_type_0 rfl ?_
  refine J_getR lkF_X6_19 rfl dX6_type_1 ?_
  refine J_aload_n 0 dX6_type_4 rfl ?_
  refine J_getR lkF_X6_10 rfl dX6_type_5 ?_
  refine J_aload_n 0 dX6_type_8 rfl ?_
  refine J_getR lkF_X6_26 rfl dX6_type_9 ?_
  refine J_getI 7 lkF_X6_71 rfl rfl rfl dX6_type_12 ?_
  refine JM_V2 lkM_X6_74 rcv_2 dX6_type_15 (by decide) (Nat.le_of_ble_eq_true rfl) ?_
  refine kX2_read hC.1.1 hP.1 hP.cd (fun ω1 q1 q2 => ?_)
  have e1 : ω1 1 1 = ω 1 1 := by rw [q2 1 (by decide)]
  have e3 : ω1 3 = ω 3 := q2 3 (by decide)
  refine J_aload_n 0 dX6_type_18 rfl ?_
  refine J_getR lkF_X6_10 rfl dX6_type_19 ?_
  refine J_getI 1 lkF_X6_65 rfl rfl rfl dX6_type_22 ?_
  refine J_icmp_lt 38 dX6_type_25 (by decide) (fun h25 => ?_) (fun h25 => ?_)
  · skip
    refine J_sipush (-1003) dX6_type_38 ⟨by decide, by decide⟩ (by decide) ?_
    refine JM_iret rfl dX6_type_41 ?_
    refine hQ0 ?_ ω1 q2
    unfold tyO
    cases hx : (rdF (ω 8) (ω 3 7) (ω 1 1).toNat 0 rd0).2 with
    | none => rfl
    | some s0 =>
      simp only
      first
        | (exfalso; have := hr1.2 s0 hx; omega)
        | (rw [hs] at hx; cases hx; rw [if_neg (by omega)])
  · skip
    refine J_aload_n 0 dX6_type_28 rfl ?_
    refine J_getR lkF_X6_19 rfl dX6_type_29 ?_
    refine JM_V0 lkM_X6_78 rcv_2 dX6_type_32 (by decide) (Nat.le_of_ble_eq_true rfl) ?_
    have hsome : ∃ s, (rdF (ω 8) (ω 3 7) (ω 1 1).toNat 0 rd0).2 = some s := by
      cases hx : (rdF (ω 8) (ω 3 7) (ω 1 1).toNat 0 rd0).2 with
      | none => have := hr1.1 hx; exfalso; omega
      | some s => exact ⟨s, rfl⟩
    obtain ⟨s, hs⟩ := hsome
    obtain ⟨hRd, hRW⟩ := q1 s hs
    refine kX2_isWhole ?_
    rw [hRd.1]
    generalize hg : (if 4 ≤ s.1 ∧ s.1 ≤ 6 then (1 : Int) else 0) = g
    have hg2 : (g = 1 ∧ 4 ≤ s.1 ∧ s.1 ≤ 6) ∨ (g = 0 ∧ ¬ (4 ≤ s.1 ∧ s.1 ≤ 6)) := by
      subst hg
      split
      · left; exact ⟨rfl, by omega⟩
      · right; exact ⟨rfl, by omega⟩
    refine J_if_ne 42 dX6_type_35 (by decide) (fun h35 => ?_) (fun h35 => ?_)
    · skip
      refine J_aload_n 0 dX6_type_42 rfl ?_
      refine J_getR lkF_X6_26 rfl dX6_type_43 ?_
      refine J_aload_n 0 dX6_type_46 rfl ?_
      refine J_getR lkF_X6_19 rfl dX6_type_47 ?_
      refine JM_V1 lkM_X6_82 rcv_3 dX6_type_50 (by decide) (Nat.le_of_ble_eq_true rfl) ?_
      have hty : tyO (ω 8) (ω 3 7) (ω 1 1).toNat = some s := by unfold tyO; rw [hs]; simp only; rw [if_pos (by omega)]
      have hRd' : RdC ω1 (ω1 3 7) s := by rw [e3]; exact hRd
      have hRW' : RW (ω1 3 7) s := by rw [e3]; exact hRW
      refine kX5_hasRoomFor hRd hRW (by rw [e3]; exact b40) ?_
      rw [e3]
      generalize hg5 : (if ω 3 7 < 8 ∧ ω 3 8 + nMth s.2.2.1 ≤ 40 then (1 : Int) else 0) = g5
      have hg6 : (g5 = 1 ∧ ω 3 7 < 8 ∧ ω 3 8 + nMth s.2.2.1 ≤ 40) ∨ (g5 = 0 ∧ ¬ (ω 3 7 < 8 ∧ ω 3 8 + nMth s.2.2.1 ≤ 40)) := by
        subst hg5
        split
        · left; exact ⟨rfl, by omega⟩
        · right; exact ⟨rfl, by omega⟩
      refine J_if_ne 60 dX6_type_53 (by decide) (fun h53 => ?_) (fun h53 => ?_)
      · skip
        refine J_aload_n 0 dX6_type_60 rfl ?_
        refine J_getR lkF_X6_26 rfl dX6_type_61 ?_
        refine J_aload_n 0 dX6_type_64 rfl ?_
        refine J_getR lkF_X6_19 rfl dX6_type_65 ?_
        refine JM_V1 lkM_X6_86 rcv_3 dX6_type_68 (by decide) (Nat.le_of_ble_eq_true rfl) ?_
        refine kX5_accept hRd' hRW' (by rw [e3]; omega) (by rw [e3]; omega) (by rw [e3]; exact hv) (fun t t0 t1 => by rw [q2 15 (by decide)]; exact hC.2.2.2 t t0 t1) (fun ω2 hA => ?_)
        rw [e3]
        refine J_istore_1 dX6_type_71 (by decide) rfl ?_
        refine J_aload_n 0 dX6_type_72 rfl ?_
        refine J_getR lkF_X6_10 rfl dX6_type_73 ?_
        refine JM_V0 lkM_X6_68 rcv_1 dX6_type_76 (by decide) (Nat.le_of_ble_eq_true rfl) ?_
        refine kX1_wipe ?_
        refine J_aload_n 0 dX6_type_79 rfl ?_
        refine J_getR lkF_X6_49 rfl dX6_type_80 ?_
        refine JM_V0 lkM_X6_90 rcv_6 dX6_type_83 (by decide) (Nat.le_of_ble_eq_true rfl) ?_
        refine kX0_forgetKept ?_
        refine J_iload_n 1 dX6_type_86 rfl ?_
        refine JM_iret rfl dX6_type_87 ?_
        exact hQ2 s hty hRW (by omega) ω1 ω2 q2 hA
      · skip
        refine J_sipush (-1004) dX6_type_56 ⟨by decide, by decide⟩ (by decide) ?_
        refine JM_iret rfl dX6_type_59 ?_
        exact hQ1 s hty (by omega) ω1 q2
    · skip
      refine J_sipush (-1003) dX6_type_38 ⟨by decide, by decide⟩ (by decide) ?_
      refine JM_iret rfl dX6_type_41 ?_
      refine hQ0 ?_ ω1 q2
      unfold tyO
      cases hx : (rdF (ω 8) (ω 3 7) (ω 1 1).toNat 0 rd0).2 with
      | none => rfl
      | some s0 =>
        simp only
        first
          | (exfalso; have := hr1.2 s0 hx; omega)
          | (rw [hs] at hx; cases hx; rw [if_neg (by omega)])

/-- whether what came with the last class lies in another one -/
def elT (ω : Om) : Bool := anyB (fun k => decide ((if k % 12 < 6 then ω 16 (ω 3 7 - 1) else 12 * (ω 3 7 - 1)) ≤ hb ω (k / 12) (k % 12))) (12 * (ω 3 7 - 1).toNat)
set_option maxRecDepth 100000 in
set_option maxHeartbeats 4000000 in
theorem kX6_drop {X : Cx} {d : Nat} {ω : Om} {Q : Option MV → Om → Prop} (hC : CS ω) (hv : 0 ≤ ω 3 9 ∧ ω 3 9 < 1000000) (hQ : if ω 3 7 = 0 ∨ elT ω = true then Q (some (vI (-1003))) ω else Q (some (vI (ω 3 7 - 1))) (up (up (up (up ω 3 8 (ω 16 (ω 3 7 - 1))) 3 7 (ω 3 7 - 1)) 3 9 (ω 3 9 + 1)) 6 6 0)) : Mc X mX6_drop (d + 2) [vR 0] ω Q := by
  have n8 := hC.1.1
  unfold elT at hQ
  refine Mc_of [some (vR 0)] (by decide +kernel) rfl (Nat.le_of_ble_eq_true rfl) ?_
  refine J_aload_n 0 dX6_drop_0 rfl ?_
  refine J_getR lkF_X6_26 rfl dX6_drop_1 ?_
  refine J_getI 7 lkF_X6_71 rfl rfl rfl dX6_drop_4 ?_
  try simp (config := {decide := true}) only [up_s, up_k, up_i]
  refine J_if_eq 20 dX6_drop_7 (by decide) (fun h7 => ?_) (fun h7 => ?_)
  · skip
    rw [if_pos (Or.inl h7)] at hQ
    refine J_sipush (-1003) dX6_drop_20 ⟨by decide, by decide⟩ (by decide) ?_
    refine JM_iret rfl dX6_drop_23 ?_
    exact hQ
  · skip
    refine J_aload_n 0 dX6_drop_10 rfl ?_
    refine J_getR lkF_X6_26 rfl dX6_drop_11 ?_
    refine JM_V0 lkM_X6_93 rcv_3 dX6_drop_14 (by decide) (Nat.le_of_ble_eq_true rfl) ?_
    refine kX5_lastLiesElsewhere (by omega) ?_
    generalize hg : anyB (fun k => decide ((if k % 12 < 6 then ω 16 (ω 3 7 - 1) else 12 * (ω 3 7 - 1)) ≤ hb ω (k / 12) (k % 12))) (12 * (ω 3 7 - 1).toNat) = g at hQ ⊢
    refine J_if_eq 24 dX6_drop_17 (by decide) (fun h17 => ?_) (fun h17 => ?_)
    · skip
      have hgf : ¬ g = true := fun q => by rw [if_pos q] at h17; exact absurd h17 (by decide)
      rw [if_neg (fun q => q.elim h7 hgf)] at hQ
      refine J_aload_n 0 dX6_drop_24 rfl ?_
      refine J_getR lkF_X6_26 rfl dX6_drop_25 ?_
      refine JM_V0 lkM_X6_96 rcv_3 dX6_drop_28 (by decide) (Nat.le_of_ble_eq_true rfl) ?_
      refine kX5_removeLast (by omega) hv ?_
      refine J_aload_n 0 dX6_drop_31 rfl ?_
      refine J_getR lkF_X6_49 rfl dX6_drop_32 ?_
      refine JM_V0 lkM_X6_90 rcv_6 dX6_drop_35 (by decide) (Nat.le_of_ble_eq_true rfl) ?_
      refine kX0_forgetKept ?_
      refine J_aload_n 0 dX6_drop_38 rfl ?_
      refine J_getR lkF_X6_26 rfl dX6_drop_39 ?_
      refine J_getI 7 lkF_X6_71 rfl rfl rfl dX6_drop_42 ?_
      try simp (config := {decide := true}) only [up_s, up_k, up_i]
      refine JM_iret rfl dX6_drop_45 ?_
      exact hQ
    · skip
      have hgt : g = true := by
        cases g
        · exact absurd rfl h17
        · rfl
      rw [if_pos (Or.inr hgt)] at hQ
      refine J_sipush (-1003) dX6_drop_20 ⟨by decide, by decide⟩ (by decide) ?_
      refine JM_iret rfl dX6_drop_23 ?_
      exact hQ

set_option maxRecDepth 100000 in
set_option maxHeartbeats 4000000 in
theorem kX6_hollow {X : Cx} {d : Nat} {ω : Om} {Q : Option MV → Om → Prop} {t b : Int} (hC : CS ω) (hb : b = 0 ∨ b = 1) (hv : 0 ≤ ω 3 9 ∧ ω 3 9 < 1000000) (hQ : if 0 ≤ t ∧ t < ω 3 7 then Q (some (vI (hol ω t))) (up (up (up ω 13 t b) 3 9 (ω 3 9 + 1)) 6 6 0) else Q (some (vI (-1001))) ω) : Mc X mX6_hollow (d + 2) [vR 0, vI t, vI b] ω Q := by
  have n8 := hC.1.1
  refine Mc_of [some (vR 0), some (vI t), some (vI b), none] (by decide +kernel) rfl (Nat.le_of_ble_eq_true rfl) ?_
  refine J_aload_n 0 dX6_hollow_0 rfl ?_
  refine J_getR lkF_X6_26 rfl dX6_hollow_1 ?_
  refine J_iload_n 1 dX6_hollow_4 rfl ?_
  refine JM_V1 lkM_X6_99 rcv_3 dX6_hollow_5 (by decide) (Nat.le_of_ble_eq_true rfl) ?_
  refine kX5_hasType ?_
  generalize hg : (if 0 ≤ t ∧ t < ω 3 7 ∧ t < 8 then (1 : Int) else 0) = g
  have hg2 : (g = 1 ∧ 0 ≤ t ∧ t < ω 3 7) ∨ (g = 0 ∧ ¬ (0 ≤ t ∧ t < ω 3 7)) := by
    subst hg
    split
    · left; exact ⟨rfl, by omega⟩
    · right; exact ⟨rfl, by omega⟩
  refine J_if_ne 15 dX6_hollow_8 (by decide) (fun h8 => ?_) (fun h8 => ?_)
  · skip
    rw [if_pos (by omega)] at hQ
    refine J_aload_n 0 dX6_hollow_15 rfl ?_
    refine J_getR lkF_X6_26 rfl dX6_hollow_16 ?_
    refine J_iload_n 1 dX6_hollow_19 rfl ?_
    refine JM_V1 lkM_X6_102 rcv_3 dX6_hollow_20 (by decide) (Nat.le_of_ble_eq_true rfl) ?_
    refine kX5_isHollow ?_
    refine J_istore_3 dX6_hollow_23 (by decide) rfl ?_
    refine J_aload_n 0 dX6_hollow_24 rfl ?_
    refine J_getR lkF_X6_26 rfl dX6_hollow_25 ?_
    refine J_iload_n 1 dX6_hollow_28 rfl ?_
    refine J_iload_n 2 dX6_hollow_29 rfl ?_
    refine JM_V2 lkM_X6_105 rcv_3 dX6_hollow_30 (by decide) (Nat.le_of_ble_eq_true rfl) ?_
    refine kX5_makeHollow (by omega) hb hv ?_
    refine J_aload_n 0 dX6_hollow_33 rfl ?_
    refine J_getR lkF_X6_49 rfl dX6_hollow_34 ?_
    refine JM_V0 lkM_X6_90 rcv_6 dX6_hollow_37 (by decide) (Nat.le_of_ble_eq_true rfl) ?_
    refine kX0_forgetKept ?_
    refine J_iload_n 3 dX6_hollow_40 rfl ?_
    refine J_if_eq 48 dX6_hollow_41 (by decide) (fun h41 => ?_) (fun h41 => ?_)
    · skip
      refine J_iconst 0 dX6_hollow_48 ⟨by decide, by decide⟩ ?_
      refine JM_iret rfl dX6_hollow_49 ?_
      rcases (show hol ω t = 0 ∨ hol ω t = 1 by unfold hol; split <;> simp) with q | q
      · rw [q] at hQ h41; first | exact hQ | exact absurd rfl h41
      · rw [q] at hQ h41; first | exact hQ | exact absurd h41 (by decide)
    · skip
      refine J_iconst 1 dX6_hollow_44 ⟨by decide, by decide⟩ ?_
      refine J_goto 49 dX6_hollow_45 (by decide) ?_
      refine JM_iret rfl dX6_hollow_49 ?_
      rcases (show hol ω t = 0 ∨ hol ω t = 1 by unfold hol; split <;> simp) with q | q
      · rw [q] at hQ h41; first | exact hQ | exact absurd rfl h41
      · rw [q] at hQ h41; first | exact hQ | exact absurd h41 (by decide)
  · skip
    rw [if_neg (by omega)] at hQ
    refine J_sipush (-1001) dX6_hollow_11 ⟨by decide, by decide⟩ (by decide) ?_
    refine JM_iret rfl dX6_hollow_14 ?_
    exact hQ

theorem why_0 {τ : Om} {t m u : Int} (h : whyT τ t m u = 0) : ¬ hb τ t m = -1 ∧ (¬ u = 0 → ¬ pr τ t = -1) := by
  unfold whyT at h
  by_cases hp : plainT τ t m u = 0
  · unfold plainT at hp
    by_cases h1 : hb τ t m = -1
    · rw [if_pos h1] at hp; exact absurd hp (by decide)
    · refine ⟨h1, fun hu => ?_⟩
      rw [if_neg h1, if_neg hu] at hp
      by_cases h2 : pr τ t = -1
      · rw [if_pos h2] at hp; exact absurd hp (by decide)
      · exact h2
  · rw [if_neg hp] at h; exact absurd h hp
set_option maxRecDepth 100000 in
set_option maxHeartbeats 4000000 in
theorem kX6_move {X : Cx} {d : Nat} {ω : Om} {Q : Option MV → Om → Prop} {t m u : Int} (hC : CS ω) (hk : 0 ≤ ω 6 6 ∧ ω 6 6 ≤ 20) (hv : 0 ≤ ω 3 9 ∧ ω 3 9 < 1000000) (hdn : 0 ≤ ω 6 7 ∧ ω 6 7 < 1000000) (hQ : if (0 ≤ t ∧ t < ω 3 7) ∧ 0 ≤ m ∧ m < 12 then (if whyT ω t m u = 0 then (if ω 6 6 < 20 then (∀ ω1 ω2, CP ω ω1 → KeepP ω1 ω2 t m u → Q (some (vI (ω 6 6 + 1))) ω2) else (∀ ω', CP ω ω' → Q (some (vI (-1004))) ω')) else (∀ ω', CP ω ω' → Q (some (vI (-1003))) ω')) else Q (some (vI (-1001))) ω) : Mc X mX6_move (d + 5) [vR 0, vI t, vI m, vI u] ω Q := by
  have n8 := hC.1.1
  refine Mc_of [some (vR 0), some (vI t), some (vI m), some (vI u)] (by decide +kernel) rfl (Nat.le_of_ble_eq_true rfl) ?_
  refine J_aload_n 0 dX6_move_0 rfl ?_
  refine J_getR lkF_X6_26 rfl dX6_move_1 ?_
  refine J_iload_n 1 dX6_move_4 rfl ?_
  refine JM_V1 lkM_X6_99 rcv_3 dX6_move_5 (by decide) (Nat.le_of_ble_eq_true rfl) ?_
  refine kX5_hasType ?_
  generalize hg : (if 0 ≤ t ∧ t < ω 3 7 ∧ t < 8 then (1 : Int) else 0) = g
  have hg2 : (g = 1 ∧ 0 ≤ t ∧ t < ω 3 7) ∨ (g = 0 ∧ ¬ (0 ≤ t ∧ t < ω 3 7)) := by
    subst hg
    split
    · left; exact ⟨rfl, by omega⟩
    · right; exact ⟨rfl, by omega⟩
  refine J_if_eq 18 dX6_move_8 (by decide) (fun h8 => ?_) (fun h8 => ?_)
  · skip
    refine J_sipush (-1001) dX6_move_18 ⟨by decide, by decide⟩ (by decide) ?_
    refine JM_iret rfl dX6_move_21 ?_
    rw [if_neg (by omega)] at hQ; exact hQ
  · skip
    refine J_iload_n 2 dX6_move_11 rfl ?_
    refine JM_S1 lkM_X6_126 dX6_move_12 (by decide) (Nat.le_of_ble_eq_true rfl) ?_
    refine kX6_isMember ?_
    generalize hgm : (if 0 ≤ m ∧ m < 12 then (1 : Int) else 0) = gm
    have hgm2 : (gm = 1 ∧ 0 ≤ m ∧ m < 12) ∨ (gm = 0 ∧ ¬ (0 ≤ m ∧ m < 12)) := by
      subst hgm
      split
      · left; exact ⟨rfl, by omega⟩
      · right; exact ⟨rfl, by omega⟩
    refine J_if_ne 22 dX6_move_15 (by decide) (fun h15 => ?_) (fun h15 => ?_)
    · skip
      refine J_aload_n 0 dX6_move_22 rfl ?_
      refine J_getR lkF_X6_49 rfl dX6_move_23 ?_
      refine J_iload_n 1 dX6_move_26 rfl ?_
      refine J_iload_n 2 dX6_move_27 rfl ?_
      refine J_iload_n 3 dX6_move_28 rfl ?_
      refine JM_V3 lkM_X6_160 rcv_6 dX6_move_29 (by decide) (Nat.le_of_ble_eq_true rfl) ?_
      rw [if_pos (by omega)] at hQ
      refine kX0_reason hC.1 hC.2.1 (by omega) (by omega) (fun ω1 r1 r2 r3 => ?_)
      have hP := CP_rea hC r1 r2
      have e6 : ∀ i, i ≠ 9 → ω1 6 i = ω 6 i := r1.2.1
      have e66 := e6 6 (by decide)
      have e67 := e6 7 (by decide)
      have e3 : ω1 3 = ω 3 := r1.1 3 (by decide)
      refine J_if_eq 39 dX6_move_32 (by decide) (fun h32 => ?_) (fun h32 => ?_)
      · skip
        rw [if_pos h32] at hQ
        refine J_aload_n 0 dX6_move_39 rfl ?_
        refine J_getR lkF_X6_49 rfl dX6_move_40 ?_
        refine J_iload_n 1 dX6_move_43 rfl ?_
        refine J_iload_n 2 dX6_move_44 rfl ?_
        refine J_iload_n 3 dX6_move_45 rfl ?_
        refine JM_V3 lkM_X6_167 rcv_6 dX6_move_46 (by decide) (Nat.le_of_ble_eq_true rfl) ?_
        obtain ⟨hw1, hw2⟩ := why_0 h32
        refine kX0_keep hP.2.1 (by rw [e3]; omega) (by omega) (fun q => by rw [pr_TQ hP.1.2.2.2.2]; exact hw2 q) (by omega) (by rw [e3]; exact hv) (by rw [e67]; exact hdn) ?_
        by_cases h20 : ω 6 6 < 20
        rotate_left
        · rw [e66, if_neg h20]
          rw [if_neg h20] at hQ
          refine J_if_eq 62 dX6_move_49 (by decide) (fun h49 => ?_) (fun h49 => ?_)
          · skip
            refine J_sipush (-1004) dX6_move_62 ⟨by decide, by decide⟩ (by decide) ?_
            refine JM_iret rfl dX6_move_65 ?_
            exact hQ ω1 hP
          · skip
            exact absurd rfl h49
        rw [e66, if_pos h20]
        rw [if_pos h20] at hQ
        intro ω2 hK
        have ek : ω2 6 6 = ω 6 6 + 1 := by rw [hK.2.2.2.1.1, e66]
        refine J_if_eq 62 dX6_move_49 (by decide) (fun h49 => ?_) (fun h49 => ?_)
        · skip
          exact absurd h49 (by decide)
        · skip
          refine J_aload_n 0 dX6_move_52 rfl ?_
          refine J_getR lkF_X6_49 rfl dX6_move_53 ?_
          refine J_getI 6 lkF_X6_171 rfl rfl rfl dX6_move_56 ?_
          refine J_goto 65 dX6_move_59 (by decide) ?_
          refine JM_iret rfl dX6_move_65 ?_
          rw [ek]; exact hQ ω1 ω2 hP hK
      · skip
        rw [if_neg h32] at hQ
        refine J_sipush (-1003) dX6_move_35 ⟨by decide, by decide⟩ (by decide) ?_
        refine JM_iret rfl dX6_move_38 ?_
        exact hQ ω1 hP
    · skip
      refine J_sipush (-1001) dX6_move_18 ⟨by decide, by decide⟩ (by decide) ?_
      refine JM_iret rfl dX6_move_21 ?_
      rw [if_neg (by omega)] at hQ; exact hQ

set_option maxRecDepth 100000 in
set_option maxHeartbeats 4000000 in
theorem kX6_undo {X : Cx} {d : Nat} {ω : Om} {Q : Option MV → Om → Prop} {m : Int} (hk : 0 ≤ ω 6 6 ∧ ω 6 6 ≤ 20) (hm : 0 < ω 6 6 → 0 ≤ m ∧ m < 12 ∧ ω 28 (ω 6 6 - 1) = m) (hv : 0 ≤ ω 3 9 ∧ ω 3 9 < 1000000) (hdn : 0 ≤ ω 6 8 ∧ ω 6 8 < 1000000) (hQ : if ω 6 6 ≤ 0 then Q (some (vI (-1003))) ω else (∀ ω', BackP ω ω' m → Q (some (vI (ω 6 6 - 1))) ω')) : Mc X mX6_undo (d + 4) [vR 0] ω Q := by
  refine Mc_of [some (vR 0)] (by decide +kernel) rfl (Nat.le_of_ble_eq_true rfl) ?_
  refine J_aload_n 0 dX6_undo_0 rfl ?_
  refine J_getR lkF_X6_49 rfl dX6_undo_1 ?_
  refine JM_V0 lkM_X6_174 rcv_6 dX6_undo_4 (by decide) (Nat.le_of_ble_eq_true rfl) ?_
  refine kX0_takeBack hk hm hv hdn ?_
  by_cases h0 : ω 6 6 ≤ 0
  · rw [if_pos h0] at hQ ⊢
    refine J_if_eq 20 dX6_undo_7 (by decide) (fun h7 => ?_) (fun h7 => ?_)
    · skip
      refine J_sipush (-1003) dX6_undo_20 ⟨by decide, by decide⟩ (by decide) ?_
      refine JM_iret rfl dX6_undo_23 ?_
      exact hQ
    · skip
      exact absurd rfl h7
  rw [if_neg h0] at hQ ⊢
  intro ω1 hB
  have ek : ω1 6 6 = ω 6 6 - 1 := hB.2.2.1.1
  refine J_if_eq 20 dX6_undo_7 (by decide) (fun h7 => ?_) (fun h7 => ?_)
  · skip
    exact absurd h7 (by decide)
  · skip
    refine J_aload_n 0 dX6_undo_10 rfl ?_
    refine J_getR lkF_X6_49 rfl dX6_undo_11 ?_
    refine J_getI 6 lkF_X6_171 rfl rfl rfl dX6_undo_14 ?_
    refine J_goto 23 dX6_undo_17 (by decide) ?_
    refine JM_iret rfl dX6_undo_23 ?_
    rw [ek]; exact hQ ω1 hB

set_option maxRecDepth 100000 in
set_option maxHeartbeats 4000000 in
theorem kX6_contract {X : Cx} {d : Nat} {ω : Om} {Q : Option MV → Om → Prop} {ms : Int} (hK : KC ω) (hQ : if 1 ≤ ms ∧ ms ≤ 63 then (if ω 0 6 < 6 then Q (some (vI (ω 0 6))) (up (up ω 7 (ω 0 6) ms) 0 6 (ω 0 6 + 1)) else Q (some (vI (-1004))) ω) else Q (some (vI (-1002))) ω) : Mc X mX6_contract d [vR 0, vI ms] ω Q := by
  have k6 := hK.1
  refine Mc_of [some (vR 0), some (vI ms)] (by decide +kernel) rfl (Nat.le_of_ble_eq_true rfl) ?_
  refine J_iload_n 1 dX6_contract_0 rfl ?_
  refine J_iconst 1 dX6_contract_1 ⟨by decide, by decide⟩ ?_
  refine J_icmp_lt 11 dX6_contract_2 (by decide) (fun h2 => ?_) (fun h2 => ?_)
  · skip
    rw [if_neg (by omega)] at hQ
    refine J_sipush (-1002) dX6_contract_11 ⟨by decide, by decide⟩ (by decide) ?_
    refine JM_iret rfl dX6_contract_14 ?_
    exact hQ
  · skip
    refine J_iload_n 1 dX6_contract_5 rfl ?_
    refine J_bipush 64 dX6_contract_6 ⟨by decide, by decide⟩ (by decide) ?_
    refine J_icmp_lt 15 dX6_contract_8 (by decide) (fun h8 => ?_) (fun h8 => ?_)
    · skip
      rw [if_pos (by omega)] at hQ
      refine J_aload_n 0 dX6_contract_15 rfl ?_
      refine J_getI 6 lkF_X6_57 rfl rfl rfl dX6_contract_16 ?_
      refine J_bipush 6 dX6_contract_19 ⟨by decide, by decide⟩ (by decide) ?_
      refine J_icmp_lt 28 dX6_contract_21 (by decide) (fun h21 => ?_) (fun h21 => ?_)
      · skip
        rw [if_pos h21] at hQ
        refine J_aload_n 0 dX6_contract_28 rfl ?_
        refine J_getR lkF_X6_53 rfl dX6_contract_29 ?_
        refine J_aload_n 0 dX6_contract_32 rfl ?_
        refine J_getI 6 lkF_X6_57 rfl rfl rfl dX6_contract_33 ?_
        refine J_iload_n 1 dX6_contract_36 rfl ?_
        refine J_iastore _ rfl (by omega) dX6_contract_37 ?_
        refine J_aload_n 0 dX6_contract_38 rfl ?_
        first | refine J_dupR dX6_contract_39 ?_ | refine J_dupI dX6_contract_39 ?_
        refine J_getI 6 lkF_X6_57 rfl rfl rfl dX6_contract_40 ?_
        try simp (config := {decide := true}) only [up_s, up_k, up_i]
        refine J_iconst 1 dX6_contract_43 ⟨by decide, by decide⟩ ?_
        refine J_iadd dX6_contract_44 ⟨by omega, by omega⟩ ?_
        refine J_putI 6 lkF_X6_57 rfl fp_6_6 rfl dX6_contract_45 ?_
        refine J_aload_n 0 dX6_contract_48 rfl ?_
        refine J_getI 6 lkF_X6_57 rfl rfl rfl dX6_contract_49 ?_
        try simp (config := {decide := true}) only [up_s, up_k, up_i]
        refine J_iconst 1 dX6_contract_52 ⟨by decide, by decide⟩ ?_
        refine J_isub dX6_contract_53 ⟨by omega, by omega⟩ ?_
        refine JM_iret rfl dX6_contract_54 ?_
        rw [show ω 0 6 + 1 - 1 = ω 0 6 from by omega]; exact hQ
      · skip
        rw [if_neg h21] at hQ
        refine J_sipush (-1004) dX6_contract_24 ⟨by decide, by decide⟩ (by decide) ?_
        refine JM_iret rfl dX6_contract_27 ?_
        exact hQ
    · skip
      rw [if_neg (by omega)] at hQ
      refine J_sipush (-1002) dX6_contract_11 ⟨by decide, by decide⟩ (by decide) ?_
      refine JM_iret rfl dX6_contract_14 ?_
      exact hQ

/-- what count() tells -/
def cntN (τ : Om) (ps kp cn dn un w : Int) : Int := if w = 0 then ps else if w = 1 then τ 3 7 else if w = 2 then τ 3 8 else if w = 3 then kp else if w = 4 then cn else if w = 5 then dn else if w = 6 then un else if w = 7 then ddS τ (τ 3 8).toNat else if w = 8 then missT τ (6 * (τ 3 7).toNat) else -1002
set_option maxRecDepth 100000 in
set_option maxHeartbeats 4000000 in
theorem kX6_count {X : Cx} {d : Nat} {ω : Om} {Q : Option MV → Om → Prop} {w : Int} (hC : CS ω) (hQ : ∀ ω', CP ω ω' → Q (some (vI (cntN ω (ω 1 1) (ω 6 6) (ω 0 6) (ω 6 7) (ω 6 8) w))) ω') : Mc X mX6_count (d + 4) [vR 0, vI w] ω Q := by
  have b40 := hC.1.2.1
  refine Mc_of [some (vR 0), some (vI w)] (by decide +kernel) rfl (Nat.le_of_ble_eq_true rfl) ?_
  refine J_iload_n 1 dX6_count_0 rfl ?_
  refine J_switch dX6_count_1 143 (by decide) (fun h1 => ?_) (fun h1a h1b => ?_)
  · skip
    refine J_sipush (-1002) dX6_count_143 ⟨by decide, by decide⟩ (by decide) ?_
    refine JM_iret rfl dX6_count_146 ?_
    have e := hQ ω (CP.rf hC)
    unfold cntN at e
    rw [if_neg (by omega), if_neg (by omega), if_neg (by omega), if_neg (by omega), if_neg (by omega), if_neg (by omega), if_neg (by omega), if_neg (by omega), if_neg (by omega)] at e
    exact e
  · skip
    rcases (show w = 0 ∨ w = 1 ∨ w = 2 ∨ w = 3 ∨ w = 4 ∨ w = 5 ∨ w = 6 ∨ w = 7 ∨ w = 8 by omega) with rfl | rfl | rfl | rfl | rfl | rfl | rfl | rfl | rfl
    · skip
      refine ⟨51, 52, rfl, by decide, ?_⟩
      refine J_aload_n 0 dX6_count_52 rfl ?_
      refine J_getR lkF_X6_10 rfl dX6_count_53 ?_
      refine J_getI 1 lkF_X6_65 rfl rfl rfl dX6_count_56 ?_
      refine JM_iret rfl dX6_count_59 ?_
      have e := hQ ω (CP.rf hC)
      unfold cntN at e
      rw [if_pos rfl] at e
      exact e
    · skip
      refine ⟨59, 60, rfl, by decide, ?_⟩
      refine J_aload_n 0 dX6_count_60 rfl ?_
      refine J_getR lkF_X6_26 rfl dX6_count_61 ?_
      refine J_getI 7 lkF_X6_71 rfl rfl rfl dX6_count_64 ?_
      refine JM_iret rfl dX6_count_67 ?_
      have e := hQ ω (CP.rf hC)
      unfold cntN at e
      rw [if_neg (by decide), if_pos rfl] at e
      exact e
    · skip
      refine ⟨67, 68, rfl, by decide, ?_⟩
      refine J_aload_n 0 dX6_count_68 rfl ?_
      refine J_getR lkF_X6_26 rfl dX6_count_69 ?_
      refine J_getI 8 lkF_X6_196 rfl rfl rfl dX6_count_72 ?_
      refine JM_iret rfl dX6_count_75 ?_
      have e := hQ ω (CP.rf hC)
      unfold cntN at e
      rw [if_neg (by decide), if_neg (by decide), if_pos rfl] at e
      exact e
    · skip
      refine ⟨75, 76, rfl, by decide, ?_⟩
      refine J_aload_n 0 dX6_count_76 rfl ?_
      refine J_getR lkF_X6_49 rfl dX6_count_77 ?_
      refine J_getI 6 lkF_X6_171 rfl rfl rfl dX6_count_80 ?_
      refine JM_iret rfl dX6_count_83 ?_
      have e := hQ ω (CP.rf hC)
      unfold cntN at e
      rw [if_neg (by decide), if_neg (by decide), if_neg (by decide), if_pos rfl] at e
      exact e
    · skip
      refine ⟨83, 84, rfl, by decide, ?_⟩
      refine J_aload_n 0 dX6_count_84 rfl ?_
      refine J_getI 6 lkF_X6_57 rfl rfl rfl dX6_count_85 ?_
      refine JM_iret rfl dX6_count_88 ?_
      have e := hQ ω (CP.rf hC)
      unfold cntN at e
      rw [if_neg (by decide), if_neg (by decide), if_neg (by decide), if_neg (by decide), if_pos rfl] at e
      exact e
    · skip
      refine ⟨88, 89, rfl, by decide, ?_⟩
      refine J_aload_n 0 dX6_count_89 rfl ?_
      refine J_getR lkF_X6_49 rfl dX6_count_90 ?_
      refine J_getI 7 lkF_X6_199 rfl rfl rfl dX6_count_93 ?_
      refine JM_iret rfl dX6_count_96 ?_
      have e := hQ ω (CP.rf hC)
      unfold cntN at e
      rw [if_neg (by decide), if_neg (by decide), if_neg (by decide), if_neg (by decide), if_neg (by decide), if_pos rfl] at e
      exact e
    · skip
      refine ⟨96, 97, rfl, by decide, ?_⟩
      refine J_aload_n 0 dX6_count_97 rfl ?_
      refine J_getR lkF_X6_49 rfl dX6_count_98 ?_
      refine J_getI 8 lkF_X6_202 rfl rfl rfl dX6_count_101 ?_
      refine JM_iret rfl dX6_count_104 ?_
      have e := hQ ω (CP.rf hC)
      unfold cntN at e
      rw [if_neg (by decide), if_neg (by decide), if_neg (by decide), if_neg (by decide), if_neg (by decide), if_neg (by decide), if_pos rfl] at e
      exact e
    · skip
      refine ⟨104, 105, rfl, by decide, ?_⟩
      refine J_aload_n 0 dX6_count_105 rfl ?_
      refine J_getR lkF_X6_40 rfl dX6_count_106 ?_
      refine JM_V0 lkM_X6_148 rcv_5 dX6_count_109 (by decide) (Nat.le_of_ble_eq_true rfl) ?_
      refine kX3_refresh hC.1 (TE.rf ω) hC.2.1.2 (fun ω1 s1 s2 s3 s4 => ?_)
      have hP := CP_sv hC s1 s3 s4
      have hdd := dd_bc hC.1 s1.2.1
      have hbc : 0 ≤ bcL (ω1 5 5) ∧ bcL (ω1 5 5) ≤ 64 := by rw [bcL_sum]; exact sumB_R _ 64
      have e38 : ω1 3 8 = ω 3 8 := by rw [s3 3 (by decide)]
      refine J_aload_n 0 dX6_count_112 rfl ?_
      refine J_getR lkF_X6_26 rfl dX6_count_113 ?_
      refine J_getI 8 lkF_X6_196 rfl rfl rfl dX6_count_116 ?_
      refine J_aload_n 0 dX6_count_119 rfl ?_
      refine J_getR lkF_X6_40 rfl dX6_count_120 ?_
      refine JM_V0 lkM_X6_205 rcv_5 dX6_count_123 (by decide) (Nat.le_of_ble_eq_true rfl) ?_
      refine kX3_reachedCount ?_
      refine J_isub dX6_count_126 ⟨by omega, by omega⟩ ?_
      refine JM_iret rfl dX6_count_127 ?_
      have e := hQ ω1 hP
      unfold cntN at e
      rw [if_neg (by decide), if_neg (by decide), if_neg (by decide), if_neg (by decide), if_neg (by decide), if_neg (by decide), if_neg (by decide), if_pos rfl] at e
      rw [e38, hdd]; exact e
    · skip
      refine ⟨127, 128, rfl, by decide, ?_⟩
      refine J_aload_n 0 dX6_count_128 rfl ?_
      refine J_getR lkF_X6_40 rfl dX6_count_129 ?_
      refine JM_V0 lkM_X6_148 rcv_5 dX6_count_132 (by decide) (Nat.le_of_ble_eq_true rfl) ?_
      refine kX3_refresh hC.1 (TE.rf ω) hC.2.1.2 (fun ω1 s1 s2 s3 s4 => ?_)
      have hP := CP_sv hC s1 s3 s4
      refine J_aload_n 0 dX6_count_135 rfl ?_
      refine J_getR lkF_X6_40 rfl dX6_count_136 ?_
      refine J_getI 6 lkF_X6_209 rfl rfl rfl dX6_count_139 ?_
      refine JM_iret rfl dX6_count_142 ?_
      have e := hQ ω1 hP
      unfold cntN at e
      rw [if_neg (by decide), if_neg (by decide), if_neg (by decide), if_neg (by decide), if_neg (by decide), if_neg (by decide), if_neg (by decide), if_neg (by decide), if_pos rfl] at e
      rw [s1.2.2]; exact e
