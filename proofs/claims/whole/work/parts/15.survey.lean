/-! what events can be -/
def EvOk (e : Int) : Prop := 0 ≤ e ∧ e < 400 ∧ (e % 4 < 2 → e / 4 < 40)
def TV (s : TS) : Prop := (∀ e ∈ s.1, EvOk e) ∧ (∀ x ∈ s.2.1, 4 * x.1 + 0 ∈ s.1) ∧ ∀ c : Int, 4 * c + 1 ∈ s.1 → 4 * c + 0 ∈ s.1
theorem TV_cons {s : TS} {e : Int} (h : TV s) (he : EvOk e) (h1 : ∀ c : Int, e = 4 * c + 1 → 4 * c + 0 ∈ s.1) : TV (e :: s.1, s.2) := by
  refine ⟨fun x hx => ?_, fun x hx => List.mem_cons_of_mem _ (h.2.1 x hx), fun c hc => ?_⟩
  · rcases List.mem_cons.mp hx with rfl | hx
    · exact he
    · exact h.1 x hx
  · rcases List.mem_cons.mp hc with hc | hc
    · exact List.mem_cons_of_mem _ (h1 c hc.symm)
    · exact List.mem_cons_of_mem _ (h.2.2 c hc)
theorem TV_meet {τ : Om} {s : TS} {h m : Int} (hs : TV s) (hm : 0 ≤ m ∧ m < 12) (hB : -1 ≤ hb τ h m ∧ hb τ h m < 40) : TV (meetT τ s h m) := by
  unfold meetT
  split
  · exact TV_cons hs ⟨by omega, by omega, by omega⟩ (fun c hc => by omega)
  · split
    · rename_i h1 h2
      obtain ⟨x, hx, e⟩ := List.mem_map.mp (any_has.mp h2)
      exact TV_cons hs ⟨by omega, by omega, by omega⟩ (fun c hc => by have := hs.2.1 x hx; have e2 : c = x.1 := by omega
                                                                      rw [e2]; exact this)
    · rename_i h1 h2
      have := TV_cons (e := 4 * hb τ h m + 0) hs ⟨by omega, by omega, by omega⟩ (fun c hc => by omega)
      refine ⟨this.1, fun x hx => ?_, this.2.2⟩
      rcases List.mem_cons.mp hx with rfl | hx
      · exact List.mem_cons_self
      · exact this.2.1 x hx
theorem TV_use {τ : Om} {s : TS} {h f : Int} (hs : TV s) (hf : 0 ≤ f ∧ f < 12) (hB : -1 ≤ hb τ (nrS τ h f) f ∧ hb τ (nrS τ h f) f < 96) : TV (useT τ s h f) := by
  unfold useT
  split
  · exact TV_cons hs ⟨by omega, by omega, by omega⟩ (fun c hc => by omega)
  · exact TV_cons hs ⟨by omega, by omega, by omega⟩ (fun c hc => by omega)
theorem TV_step {τ : Om} {ty : Int} {s : TS} (hW : WfT τ) (hs : TV s) : TV (stepT τ ty s) := by
  obtain ⟨ev, stk, dp⟩ := s
  cases stk with
  | nil => exact hs
  | cons x r =>
    obtain ⟨b, h, p⟩ := x
    have hp : TV (ev, r, dp) := ⟨hs.1, fun x hx => hs.2.1 x (List.mem_cons_of_mem _ hx), hs.2.2⟩
    have hb1 : TV (ev, (b, h, p + 1) :: r, dp) := ⟨hs.1, fun x hx => by
      rcases List.mem_cons.mp hx with rfl | hx
      · exact hs.2.1 (b, h, p) List.mem_cons_self
      · exact hs.2.1 x (List.mem_cons_of_mem _ hx), hs.2.2⟩
    simp only [stepT]
    split
    · exact hp
    · rename_i h1
      obtain ⟨g1, g2⟩ := itA_R hW b p h1
      split
      · exact TV_use hb1 (by omega) (hb_RF hW _ (by omega))
      · rename_i h2
        exact TV_meet hb1 (by omega) (hb_R hW _ (by omega))
theorem TV_run {τ : Om} {ty : Int} (hW : WfT τ) : ∀ (f : Nat) (s : TS), TV s → TV (runT τ ty f s) := by
  intro f
  induction f with
  | zero => intro s h; exact h
  | succ f ih =>
    intro s h
    unfold runT
    split
    · exact h
    · exact ih _ (TV_step hW h)
theorem TW_run {τ : Om} {ty : Int} (hW : WfT τ) : ∀ (f : Nat) (s : TS), TW s → TW (runT τ ty f s) := by
  intro f
  induction f with
  | zero => intro s h; exact h
  | succ f ih =>
    intro s h
    unfold runT
    split
    · exact h
    · rename_i hc
      exact ih _ (TW_step hW h (by omega))
theorem tr_ok {τ : Om} {ty m : Int} {s : TS} (hW : WfT τ) (hm : 0 ≤ m ∧ m < 6) (h : trT τ ty m = some s) : TW s ∧ TV s := by
  unfold trT at h
  split at h
  · cases h
  · cases h
    exact ⟨TW_run hW _ _ (TW_meet TW_init (by decide) (hb_R hW _ (by omega))), TV_run hW _ _ (TV_meet ⟨fun _ h => absurd h List.not_mem_nil, fun _ h => absurd h List.not_mem_nil, fun _ h => absurd h List.not_mem_nil⟩ (by omega) (hb_R hW _ (by omega)))⟩
/-! what the traces tell together -/
def evs (τ : Om) (t m : Int) : List Int := match trT τ t m with
  | none => []
  | some s => s.1
def missC : List Int → Int
  | [] => 0
  | x :: r => missC r + if x % 4 = 3 then 1 else 0
theorem missC_R : ∀ l : List Int, 0 ≤ missC l ∧ missC l ≤ l.length := by
  intro l
  induction l with
  | nil => exact ⟨by decide, by decide⟩
  | cons x r ih => simp only [missC, List.length_cons]; split <;> omega
/-- EVENTS MISSING in the first k traces, of classes that have objects -/
def missT (τ : Om) : Nat → Int
  | 0 => 0
  | k + 1 => missT τ k + if hol τ ((k / 6 : Nat) : Int) = 0 then missC (evs τ ((k / 6 : Nat) : Int) ((k % 6 : Nat) : Int)) else 0
/-- whether a body runs in the first k traces -/
def reachT (τ : Om) (c : Int) : Nat → Bool
  | 0 => false
  | k + 1 => reachT τ c k || (decide (hol τ ((k / 6 : Nat) : Int) = 0) && (evs τ ((k / 6 : Nat) : Int) ((k % 6 : Nat) : Int)).contains (4 * c + 0))
theorem evs_len {τ : Om} (hW : WfT τ) (t : Int) {m : Int} (hm : 0 ≤ m ∧ m < 6) : (evs τ t m).length ≤ 60 := by
  unfold evs
  cases h : trT τ t m with
  | none => simp
  | some s => exact (tr_ok hW hm h).1.2.2.2.2
theorem missT_R {τ : Om} (hW : WfT τ) : ∀ k : Nat, 0 ≤ missT τ k ∧ missT τ k ≤ 60 * k := by
  intro k
  induction k with
  | zero => exact ⟨Int.le_refl 0, Int.le_refl 0⟩
  | succ k ih =>
    have h1 := missC_R (evs τ ((k / 6 : Nat) : Int) ((k % 6 : Nat) : Int))
    have h2 := evs_len hW ((k / 6 : Nat) : Int) (m := ((k % 6 : Nat) : Int)) (by omega)
    simp only [missT]
    split <;> omega
/-- a row of the survey holds a trace -/
def RowIs (ω : Om) (row : Int) (o : Option TS) : Prop := match o with
  | none => ω 24 row = -1 ∧ ω 25 row = -1
  | some s => ω 24 row = s.1.length ∧ ω 25 row = s.2.2 ∧ Arr (fun i => ω 23 (row * 60 + i)) s.1
def RowEq (ω ω' : Om) (row : Int) : Prop := ω' 24 row = ω 24 row ∧ ω' 25 row = ω 25 row ∧ ∀ i, 0 ≤ i → i < 60 → ω' 23 (row * 60 + i) = ω 23 (row * 60 + i)
theorem Arr_cg {f g : Int → Int} : ∀ {l : List Int}, (∀ i : Nat, i < l.length → f i = g i) → Arr g l → Arr f l := by
  intro l
  induction l with
  | nil => intro _ _; trivial
  | cons x r ih => intro h hg; exact ⟨by rw [h r.length (by simp)]; exact hg.1, ih (fun i hi => h i (by simp; omega)) hg.2⟩
theorem RowIs.eq {ω ω' : Om} {row : Int} {o : Option TS} (h : RowIs ω row o) (hl : ∀ s, o = some s → s.1.length ≤ 60) (he : RowEq ω ω' row) : RowIs ω' row o := by
  cases o with
  | none => exact ⟨by rw [he.1]; exact h.1, by rw [he.2.1]; exact h.2⟩
  | some s =>
    have := hl s rfl
    exact ⟨by rw [he.1]; exact h.1, by rw [he.2.1]; exact h.2.1, Arr_cg (fun i hi => he.2.2 i (by omega) (by omega)) h.2.2⟩
/-- the survey's cells hold all traces of τ -/
def SVv (τ ω : Om) : Prop := (∀ t m : Int, 0 ≤ t → t < τ 3 7 → 0 ≤ m → m < 6 → RowIs ω (t * 6 + m) (trT τ t m)) ∧ (∀ c : Nat, c < 64 → tbL (ω 5 5) c = reachT τ c (6 * (τ 3 7).toNat)) ∧ ω 5 6 = missT τ (6 * (τ 3 7).toNat)
set_option maxRecDepth 100000 in
set_option maxHeartbeats 4000000 in
theorem kX4_eventAt {X : Cx} {d : Nat} {ω : Om} {Q : Option MV → Om → Prop} {p : Int} (hQ : Q (some (vI (if 0 ≤ p ∧ p < ω 4 7 ∧ p < 60 then ω 19 p else -1))) ω) : Mc X mX4_eventAt d [vR 4, vI p] ω Q := by
  refine Mc_of [some (vR 4), some (vI p)] (by decide +kernel) rfl (Nat.le_of_ble_eq_true rfl) ?_
  refine J_iload_n 1 dX4_eventAt_0 rfl ?_
  refine J_if_lt 27 dX4_eventAt_1 (by decide) (fun h1 => ?_) (fun h1 => ?_)
  · skip
    refine J_iconst (-1) dX4_eventAt_27 ⟨by decide, by decide⟩ ?_
    refine JM_iret rfl dX4_eventAt_28 ?_
    (repeat' split at hQ) <;> first | exact hQ | (exfalso; omega)
  · skip
    refine J_iload_n 1 dX4_eventAt_4 rfl ?_
    refine J_aload_n 0 dX4_eventAt_5 rfl ?_
    refine J_getI 7 lkF_X4_36 rfl rfl rfl dX4_eventAt_6 ?_
    refine J_icmp_ge 27 dX4_eventAt_9 (by decide) (fun h9 => ?_) (fun h9 => ?_)
    · skip
      refine J_iconst (-1) dX4_eventAt_27 ⟨by decide, by decide⟩ ?_
      refine JM_iret rfl dX4_eventAt_28 ?_
      (repeat' split at hQ) <;> first | exact hQ | (exfalso; omega)
    · skip
      refine J_iload_n 1 dX4_eventAt_12 rfl ?_
      refine J_bipush 60 dX4_eventAt_13 ⟨by decide, by decide⟩ (by decide) ?_
      refine J_icmp_ge 27 dX4_eventAt_15 (by decide) (fun h15 => ?_) (fun h15 => ?_)
      · skip
        refine J_iconst (-1) dX4_eventAt_27 ⟨by decide, by decide⟩ ?_
        refine JM_iret rfl dX4_eventAt_28 ?_
        (repeat' split at hQ) <;> first | exact hQ | (exfalso; omega)
      · skip
        refine J_aload_n 0 dX4_eventAt_18 rfl ?_
        refine J_getR lkF_X4_9 rfl dX4_eventAt_19 ?_
        refine J_iload_n 1 dX4_eventAt_22 rfl ?_
        refine J_iaload _ rfl rfl (by omega) dX4_eventAt_23 ?_
        refine J_goto 28 dX4_eventAt_24 (by decide) ?_
        refine JM_iret rfl dX4_eventAt_28 ?_
        (repeat' split at hQ) <;> first | exact hQ | (exfalso; omega)

set_option maxRecDepth 100000 in
set_option maxHeartbeats 4000000 in
theorem kX3_rowOf {X : Cx} {d : Nat} {ω : Om} {Q : Option MV → Om → Prop} {t m : Int} (hQ : Q (some (vI (if 0 ≤ t ∧ t < 8 ∧ 0 ≤ m ∧ m < 6 then t * 6 + m else -1))) ω) : Mc X mX3_rowOf d [vI t, vI m] ω Q := by
  refine Mc_of [some (vI t), some (vI m)] (by decide +kernel) rfl (Nat.le_of_ble_eq_true rfl) ?_
  refine J_iload_n 0 dX3_rowOf_0 rfl ?_
  refine J_if_lt 29 dX3_rowOf_1 (by decide) (fun h1 => ?_) (fun h1 => ?_)
  · skip
    refine J_iconst (-1) dX3_rowOf_29 ⟨by decide, by decide⟩ ?_
    refine JM_iret rfl dX3_rowOf_30 ?_
    (repeat' split at hQ) <;> first | exact hQ | (exfalso; omega)
  · skip
    refine J_iload_n 0 dX3_rowOf_4 rfl ?_
    refine J_bipush 8 dX3_rowOf_5 ⟨by decide, by decide⟩ (by decide) ?_
    refine J_icmp_ge 29 dX3_rowOf_7 (by decide) (fun h7 => ?_) (fun h7 => ?_)
    · skip
      refine J_iconst (-1) dX3_rowOf_29 ⟨by decide, by decide⟩ ?_
      refine JM_iret rfl dX3_rowOf_30 ?_
      (repeat' split at hQ) <;> first | exact hQ | (exfalso; omega)
    · skip
      refine J_iload_n 1 dX3_rowOf_10 rfl ?_
      refine J_if_lt 29 dX3_rowOf_11 (by decide) (fun h11 => ?_) (fun h11 => ?_)
      · skip
        refine J_iconst (-1) dX3_rowOf_29 ⟨by decide, by decide⟩ ?_
        refine JM_iret rfl dX3_rowOf_30 ?_
        (repeat' split at hQ) <;> first | exact hQ | (exfalso; omega)
      · skip
        refine J_iload_n 1 dX3_rowOf_14 rfl ?_
        refine J_bipush 6 dX3_rowOf_15 ⟨by decide, by decide⟩ (by decide) ?_
        refine J_icmp_ge 29 dX3_rowOf_17 (by decide) (fun h17 => ?_) (fun h17 => ?_)
        · skip
          refine J_iconst (-1) dX3_rowOf_29 ⟨by decide, by decide⟩ ?_
          refine JM_iret rfl dX3_rowOf_30 ?_
          (repeat' split at hQ) <;> first | exact hQ | (exfalso; omega)
        · skip
          refine J_iload_n 0 dX3_rowOf_20 rfl ?_
          refine J_bipush 6 dX3_rowOf_21 ⟨by decide, by decide⟩ (by decide) ?_
          refine J_imul dX3_rowOf_23 ⟨by omega, by omega⟩ ?_
          refine J_iload_n 1 dX3_rowOf_24 rfl ?_
          refine J_iadd dX3_rowOf_25 ⟨by omega, by omega⟩ ?_
          refine J_goto 30 dX3_rowOf_26 (by decide) ?_
          refine JM_iret rfl dX3_rowOf_30 ?_
          (repeat' split at hQ) <;> first | exact hQ | (exfalso; omega)

set_option maxRecDepth 100000 in
set_option maxHeartbeats 4000000 in
theorem kX3_sizeOf {X : Cx} {d : Nat} {ω : Om} {Q : Option MV → Om → Prop} {t m : Int} (ht : 0 ≤ t ∧ t < 8) (hm : 0 ≤ m ∧ m < 6) (hQ : Q (some (vI (ω 24 (t * 6 + m)))) ω) : Mc X mX3_sizeOf (d + 1) [vR 5, vI t, vI m] ω Q := by
  refine Mc_of [some (vR 5), some (vI t), some (vI m), none] (by decide +kernel) rfl (Nat.le_of_ble_eq_true rfl) ?_
  refine J_iload_n 1 dX3_sizeOf_0 rfl ?_
  refine J_iload_n 2 dX3_sizeOf_1 rfl ?_
  refine JM_S2 lkM_X3_62 dX3_sizeOf_2 (by decide) (Nat.le_of_ble_eq_true rfl) ?_
  refine kX3_rowOf ?_
  rw [if_pos (by omega)]
  refine J_istore_3 dX3_sizeOf_5 (by decide) rfl ?_
  refine J_iload_n 3 dX3_sizeOf_6 rfl ?_
  refine J_iconst (-1) dX3_sizeOf_7 ⟨by decide, by decide⟩ ?_
  refine J_icmp_ne 15 dX3_sizeOf_8 (by decide) (fun h8 => ?_) (fun h8 => ?_)
  · skip
    refine J_aload_n 0 dX3_sizeOf_15 rfl ?_
    refine J_getR lkF_X3_15 rfl dX3_sizeOf_16 ?_
    refine J_iload_n 3 dX3_sizeOf_19 rfl ?_
    refine J_iaload _ rfl rfl (by omega) dX3_sizeOf_20 ?_
    refine JM_iret rfl dX3_sizeOf_21 ?_
    exact hQ
  · skip
    exfalso; omega

set_option maxRecDepth 100000 in
set_option maxHeartbeats 4000000 in
theorem kX3_depthOf {X : Cx} {d : Nat} {ω : Om} {Q : Option MV → Om → Prop} {t m : Int} (ht : 0 ≤ t ∧ t < 8) (hm : 0 ≤ m ∧ m < 6) (hQ : Q (some (vI (ω 25 (t * 6 + m)))) ω) : Mc X mX3_depthOf (d + 1) [vR 5, vI t, vI m] ω Q := by
  refine Mc_of [some (vR 5), some (vI t), some (vI m), none] (by decide +kernel) rfl (Nat.le_of_ble_eq_true rfl) ?_
  refine J_iload_n 1 dX3_depthOf_0 rfl ?_
  refine J_iload_n 2 dX3_depthOf_1 rfl ?_
  refine JM_S2 lkM_X3_62 dX3_depthOf_2 (by decide) (Nat.le_of_ble_eq_true rfl) ?_
  refine kX3_rowOf ?_
  rw [if_pos (by omega)]
  refine J_istore_3 dX3_depthOf_5 (by decide) rfl ?_
  refine J_iload_n 3 dX3_depthOf_6 rfl ?_
  refine J_iconst (-1) dX3_depthOf_7 ⟨by decide, by decide⟩ ?_
  refine J_icmp_ne 15 dX3_depthOf_8 (by decide) (fun h8 => ?_) (fun h8 => ?_)
  · skip
    refine J_aload_n 0 dX3_depthOf_15 rfl ?_
    refine J_getR lkF_X3_18 rfl dX3_depthOf_16 ?_
    refine J_iload_n 3 dX3_depthOf_19 rfl ?_
    refine J_iaload _ rfl rfl (by omega) dX3_depthOf_20 ?_
    refine JM_iret rfl dX3_depthOf_21 ?_
    exact hQ
  · skip
    exfalso; omega

set_option maxRecDepth 100000 in
set_option maxHeartbeats 4000000 in
theorem kX3_eventAt {X : Cx} {d : Nat} {ω : Om} {Q : Option MV → Om → Prop} {t m p : Int} (ht : 0 ≤ t ∧ t < 8) (hm : 0 ≤ m ∧ m < 6) (hp : 0 ≤ p ∧ p < 60) (hQ : Q (some (vI (ω 23 ((t * 6 + m) * 60 + p)))) ω) : Mc X mX3_eventAt (d + 1) [vR 5, vI t, vI m, vI p] ω Q := by
  refine Mc_of [some (vR 5), some (vI t), some (vI m), some (vI p), none] (by decide +kernel) rfl (Nat.le_of_ble_eq_true rfl) ?_
  refine J_iload_n 1 dX3_eventAt_0 rfl ?_
  refine J_iload_n 2 dX3_eventAt_1 rfl ?_
  refine JM_S2 lkM_X3_62 dX3_eventAt_2 (by decide) (Nat.le_of_ble_eq_true rfl) ?_
  refine kX3_rowOf ?_
  rw [if_pos (by omega)]
  refine J_istore_4 dX3_eventAt_5 (by decide) rfl ?_
  refine J_iload 4 dX3_eventAt_7 rfl ?_
  refine J_iconst (-1) dX3_eventAt_9 ⟨by decide, by decide⟩ ?_
  refine J_icmp_eq 23 dX3_eventAt_10 (by decide) (fun h10 => ?_) (fun h10 => ?_)
  · skip
    exfalso; omega
  · skip
    refine J_iload_n 3 dX3_eventAt_13 rfl ?_
    refine J_if_lt 23 dX3_eventAt_14 (by decide) (fun h14 => ?_) (fun h14 => ?_)
    · skip
      exfalso; omega
    · skip
      refine J_iload_n 3 dX3_eventAt_17 rfl ?_
      refine J_bipush 60 dX3_eventAt_18 ⟨by decide, by decide⟩ (by decide) ?_
      refine J_icmp_lt 27 dX3_eventAt_20 (by decide) (fun h20 => ?_) (fun h20 => ?_)
      · skip
        refine J_aload_n 0 dX3_eventAt_27 rfl ?_
        refine J_getR lkF_X3_9 rfl dX3_eventAt_28 ?_
        refine J_iload 4 dX3_eventAt_31 rfl ?_
        refine J_bipush 60 dX3_eventAt_33 ⟨by decide, by decide⟩ (by decide) ?_
        refine J_imul dX3_eventAt_35 ⟨by omega, by omega⟩ ?_
        refine J_iload_n 3 dX3_eventAt_36 rfl ?_
        refine J_iadd dX3_eventAt_37 ⟨by omega, by omega⟩ ?_
        refine J_iaload _ rfl rfl (by omega) dX3_eventAt_38 ?_
        refine JM_iret rfl dX3_eventAt_39 ?_
        exact hQ
      · skip
        exfalso; omega

set_option maxRecDepth 100000 in
set_option maxHeartbeats 4000000 in
theorem kX3_isReached {X : Cx} {d : Nat} {ω : Om} {Q : Option MV → Om → Prop} {b : Int} (hb : 0 ≤ b ∧ b < 40) (hQ : Q (some (vI (if tbL (ω 5 5) b.toNat = true then 1 else 0))) ω) : Mc X mX3_isReached d [vR 5, vI b] ω Q := by
  have hbn : b = ((b.toNat : Nat) : Int) := by omega
  have hbit0 := bit_0 (ω 5 5) (b := b.toNat) (by omega)
  rw [← hbn] at hbit0
  refine Mc_of [some (vR 5), some (vI b)] (by decide +kernel) rfl (Nat.le_of_ble_eq_true rfl) ?_
  refine J_iload_n 1 dX3_isReached_0 rfl ?_
  refine J_if_lt 27 dX3_isReached_1 (by decide) (fun h1 => ?_) (fun h1 => ?_)
  · skip
    exfalso; omega
  · skip
    refine J_iload_n 1 dX3_isReached_4 rfl ?_
    refine J_bipush 40 dX3_isReached_5 ⟨by decide, by decide⟩ (by decide) ?_
    refine J_icmp_ge 27 dX3_isReached_7 (by decide) (fun h7 => ?_) (fun h7 => ?_)
    · skip
      exfalso; omega
    · skip
      refine J_aload_n 0 dX3_isReached_10 rfl ?_
      refine J_getL 5 lkF_X3_36 rfl rfl dX3_isReached_11 ?_
      refine J_iload_n 1 dX3_isReached_14 rfl ?_
      refine J_lshr dX3_isReached_15 ?_
      refine J_lconst1 dX3_isReached_16 ?_
      refine J_land dX3_isReached_17 ?_
      refine J_lconst0 dX3_isReached_18 ?_
      refine J_lcmp dX3_isReached_19 ?_
      refine J_if_eq 27 dX3_isReached_20 (by decide) (fun h20 => ?_) (fun h20 => ?_)
      · skip
        rw [lCmp0, hbit0] at h20
        rw [if_neg (by rw [h20]; decide)] at hQ
        refine J_iconst 0 dX3_isReached_27 ⟨by decide, by decide⟩ ?_
        refine JM_zret rfl (by omega) dX3_isReached_28 ?_
        exact hQ
      · skip
        rw [lCmp0, hbit0, Bool.not_eq_false] at h20
        rw [if_pos h20] at hQ
        refine J_iconst 1 dX3_isReached_23 ⟨by decide, by decide⟩ ?_
        refine J_goto 28 dX3_isReached_24 (by decide) ?_
        refine JM_zret rfl (by omega) dX3_isReached_28 ?_
        exact hQ

set_option maxRecDepth 100000 in
set_option maxHeartbeats 4000000 in
theorem l_store {X : Cx} {d : Nat} {Q : Option MV → Om → Prop} {ω1 : Om} {t m : Int} (ht : 0 ≤ t ∧ t < 8) (hm : 0 ≤ m ∧ m < 6) (hs : ω1 4 7 ≤ 60) : ∀ (n : Nat) (i : Int) (ω : Om), 0 ≤ i → (i ≤ ω1 4 7 ∨ i = 0) → ω1 4 7 ≤ i + n → Fr [23] ω1 ω → (∀ j, 0 ≤ j → j < i → ω 23 ((t * 6 + m) * 60 + j) = ω1 19 j) → (∀ q, (q < (t * 6 + m) * 60 ∨ (t * 6 + m) * 60 + 60 ≤ q) → ω 23 q = ω1 23 q) → (∀ ω', Fr [23] ω1 ω' → (∀ j, 0 ≤ j → j < ω1 4 7 → ω' 23 ((t * 6 + m) * 60 + j) = ω1 19 j) → (∀ q, (q < (t * 6 + m) * 60 ∨ (t * 6 + m) * 60 + 60 ≤ q) → ω' 23 q = ω1 23 q) → Q none ω') → JM X mX3_store (d + 1) Q 41 [some (vR 5), some (vI t), some (vI m), some (vI (t * 6 + m)), some (vI i)] [] ω := by
  intro n
  induction n with
  | zero =>
    intro i ω h0 h1 h2 hF hc ho hQ
    have e4 : ω 4 7 = ω1 4 7 := by rw [hF 4 (by decide)]
    refine J_iload 4 dX3_store_41 rfl ?_
    refine J_aload_n 0 dX3_store_43 rfl ?_
    refine J_getR lkF_X3_29 rfl dX3_store_44 ?_
    refine J_getI 7 lkF_X3_66 rfl rfl rfl dX3_store_47 ?_
    refine J_icmp_ge 87 dX3_store_50 (by decide) (fun h50 => ?_) (fun h50 => ?_)
    · skip
      refine JM_vret rfl dX3_store_87 ?_
      exact hQ _ hF (fun j a b => hc j a (by omega)) ho
    · skip
      exfalso; omega
  | succ n ih =>
    intro i ω h0 h1 h2 hF hc ho hQ
    have e4 : ω 4 7 = ω1 4 7 := by rw [hF 4 (by decide)]
    refine J_iload 4 dX3_store_41 rfl ?_
    refine J_aload_n 0 dX3_store_43 rfl ?_
    refine J_getR lkF_X3_29 rfl dX3_store_44 ?_
    refine J_getI 7 lkF_X3_66 rfl rfl rfl dX3_store_47 ?_
    refine J_icmp_ge 87 dX3_store_50 (by decide) (fun h50 => ?_) (fun h50 => ?_)
    · skip
      refine JM_vret rfl dX3_store_87 ?_
      exact hQ _ hF (fun j a b => hc j a (by omega)) ho
    · skip
      refine J_iload 4 dX3_store_53 rfl ?_
      refine J_bipush 60 dX3_store_55 ⟨by decide, by decide⟩ (by decide) ?_
      refine J_icmp_ge 87 dX3_store_57 (by decide) (fun h57 => ?_) (fun h57 => ?_)
      · skip
        exfalso; omega
      · skip
        refine J_aload_n 0 dX3_store_60 rfl ?_
        refine J_getR lkF_X3_9 rfl dX3_store_61 ?_
        refine J_iload_n 3 dX3_store_64 rfl ?_
        refine J_bipush 60 dX3_store_65 ⟨by decide, by decide⟩ (by decide) ?_
        refine J_imul dX3_store_67 ⟨by omega, by omega⟩ ?_
        refine J_iload 4 dX3_store_68 rfl ?_
        refine J_iadd dX3_store_70 ⟨by omega, by omega⟩ ?_
        refine J_aload_n 0 dX3_store_71 rfl ?_
        refine J_getR lkF_X3_29 rfl dX3_store_72 ?_
        refine J_iload 4 dX3_store_75 rfl ?_
        refine JM_V1 lkM_X3_72 rcv_4 dX3_store_77 (by decide) (Nat.le_of_ble_eq_true rfl) ?_
        refine kX4_eventAt ?_
        rw [if_pos (by omega)]
        refine J_iastore _ rfl (by omega) dX3_store_80 ?_
        refine J_iinc_4 dX3_store_81 (by decide) ⟨by omega, by omega⟩ rfl ?_
        refine J_goto 41 dX3_store_84 (by decide) ?_
        refine ih (i + 1) _ (by omega) (by omega) (by omega) (hF.up (by decide)) (fun j a b => ?_) (fun q hq => ?_) hQ
        · by_cases e : j = i
          · subst e; rw [up_s, hF 19 (by decide)]
          · rw [up_i (by omega)]; exact hc j a (by omega)
        · rw [up_i (by omega)]; exact ho q hq

set_option maxRecDepth 100000 in
set_option maxHeartbeats 4000000 in
theorem kX3_store {X : Cx} {d : Nat} {ω : Om} {Q : Option MV → Om → Prop} {t m : Int} {τ : Om} {o : Option TS} (ht : 0 ≤ t ∧ t < 8) (hm : 0 ≤ m ∧ m < 6) (hR : RunP τ ω o) (hQ : ∀ ω', RowIs ω' (t * 6 + m) o → (∀ r, 0 ≤ r → r < 48 → r ≠ t * 6 + m → RowEq ω ω' r) → Fr [23, 24, 25] ω ω' → Q none ω') : Mc X mX3_store (d + 1) [vR 5, vI t, vI m] ω Q := by
  have hsz : ω 4 7 ≤ 60 := by
    cases o with
    | none => rw [hR.2.1]; decide
    | some s => have := hR.2.2.2.2.2; rw [hR.1.2.1]; omega
  refine Mc_of [some (vR 5), some (vI t), some (vI m), none, none] (by decide +kernel) rfl (Nat.le_of_ble_eq_true rfl) ?_
  refine J_iload_n 1 dX3_store_0 rfl ?_
  refine J_iload_n 2 dX3_store_1 rfl ?_
  refine JM_S2 lkM_X3_62 dX3_store_2 (by decide) (Nat.le_of_ble_eq_true rfl) ?_
  refine kX3_rowOf ?_
  rw [if_pos (by omega)]
  refine J_istore_3 dX3_store_5 (by decide) rfl ?_
  refine J_iload_n 3 dX3_store_6 rfl ?_
  refine J_iconst (-1) dX3_store_7 ⟨by decide, by decide⟩ ?_
  refine J_icmp_ne 12 dX3_store_8 (by decide) (fun h8 => ?_) (fun h8 => ?_)
  · skip
    refine J_aload_n 0 dX3_store_12 rfl ?_
    refine J_getR lkF_X3_15 rfl dX3_store_13 ?_
    refine J_iload_n 3 dX3_store_16 rfl ?_
    refine J_aload_n 0 dX3_store_17 rfl ?_
    refine J_getR lkF_X3_29 rfl dX3_store_18 ?_
    refine J_getI 7 lkF_X3_66 rfl rfl rfl dX3_store_21 ?_
    refine J_iastore _ rfl (by omega) dX3_store_24 ?_
    refine J_aload_n 0 dX3_store_25 rfl ?_
    refine J_getR lkF_X3_18 rfl dX3_store_26 ?_
    refine J_iload_n 3 dX3_store_29 rfl ?_
    refine J_aload_n 0 dX3_store_30 rfl ?_
    refine J_getR lkF_X3_29 rfl dX3_store_31 ?_
    refine J_getI 8 lkF_X3_69 rfl rfl rfl dX3_store_34 ?_
    try simp (config := {decide := true}) only [up_s, up_k, up_i]
    refine J_iastore _ rfl (by omega) dX3_store_37 ?_
    refine J_iconst 0 dX3_store_38 ⟨by decide, by decide⟩ ?_
    refine J_istore_4 dX3_store_39 (by decide) rfl ?_
    refine l_store (ω1 := up (up ω 24 (t * 6 + m) (ω 4 7)) 25 (t * 6 + m) (ω 4 8)) ht hm (by rw [up_k (by decide), up_k (by decide)]; exact hsz) 61 0 _ (Int.le_refl _) (Or.inr rfl) (by rw [up_k (by decide), up_k (by decide)]; omega) Fr.rf (fun j a b => by omega) (fun q hq => rfl) (fun ω2 hF hc ho => ?_)
    rw [up_k (by decide), up_k (by decide)] at hc
    have e24 : ∀ r, ω2 24 r = if r = t * 6 + m then ω 4 7 else ω 24 r := fun r => by
      rw [hF 24 (by decide), up_k (by decide)]; unfold up; simp
    have e25 : ∀ r, ω2 25 r = if r = t * 6 + m then ω 4 8 else ω 25 r := fun r => by
      rw [hF 25 (by decide)]; unfold up; simp
    refine hQ ω2 ?_ (fun r r0 r1 r2 => ⟨by rw [e24, if_neg r2], by rw [e25, if_neg r2], fun i i0 i1 => ?_⟩) (fun k hk => ?_)
    · cases o with
      | none => exact ⟨by rw [e24, if_pos rfl]; exact hR.2.1, by rw [e25, if_pos rfl]; exact hR.2.2⟩
      | some s =>
        have hl : ω 4 7 = s.1.length := hR.1.2.1
        refine ⟨by rw [e24, if_pos rfl]; exact hl, by rw [e25, if_pos rfl]; exact hR.1.2.2.2.2.2.2.2.1, Arr_cg (fun i hi => ?_) hR.1.2.2.1⟩
        rw [hc i (by omega) (by omega), up_k (by decide), up_k (by decide)]
    · rw [ho _ (by omega), up_k (by decide), up_k (by decide)]
    · rw [hF k (by intro q; apply hk; simp at q; simp [q]), up_f (by intro q; apply hk; simp [q]), up_f (by intro q; apply hk; simp [q])]
  · skip
    exfalso; omega

def AUP (ω0 ω : Om) (l : List Int) : Prop := Fr [5] ω0 ω ∧ (∀ i, i ≠ 5 → i ≠ 6 → ω 5 i = ω0 5 i) ∧ (∀ c : Nat, c < 64 → tbL (ω 5 5) c = (tbL (ω0 5 5) c || l.contains (4 * (c : Int) + 0))) ∧ ω 5 6 = ω0 5 6 + missC l
theorem AUP_0 (ω : Om) : AUP ω ω [] := ⟨Fr.rf, fun _ _ _ => rfl, fun c _ => by simp, by simp [missC]⟩
theorem AUP_run {ω0 ω : Om} {l : List Int} {e : Int} (h : AUP ω0 ω l) (he : EvOk e) (h0 : e % 4 = 0) : AUP ω0 (up ω 5 5 (lOr (ω 5 5) (lShl 1 (e / 4)))) (e :: l) := by
  obtain ⟨a, b, c, d⟩ := h
  obtain ⟨e1, e2, e3⟩ := he
  refine ⟨a.up (by decide), fun i i5 i6 => by rw [up_i i5]; exact b i i5 i6, fun q hq => ?_, ?_⟩
  · have hn : e / 4 = (((e / 4).toNat : Nat) : Int) := by omega
    rw [up_s, hn, bit_or _ (by omega) hq, c q hq, List.contains_cons, Bool.or_assoc]
    congr 1
    rw [Bool.or_comm]
    congr 1
    rw [Bool.eq_iff_iff]; simp only [decide_eq_true_eq, beq_iff_eq]; omega
  · rw [up_i (by decide), d]; simp only [missC]; rw [if_neg (by omega)]; omega
theorem AUP_miss {ω0 ω : Om} {l : List Int} {e : Int} (h : AUP ω0 ω l) (h0 : e % 4 = 3) : AUP ω0 (up ω 5 6 (ω 5 6 + 1)) (e :: l) := by
  obtain ⟨a, b, c, d⟩ := h
  refine ⟨a.up (by decide), fun i i5 i6 => by rw [up_i i6]; exact b i i5 i6, fun q hq => ?_, ?_⟩
  · rw [up_i (by decide), c q hq, List.contains_cons]
    have : (4 * (q : Int) + 0 == e) = false := by simp only [beq_eq_false_iff_ne, ne_eq]; omega
    rw [this, Bool.false_or]
  · rw [up_s, d]; simp only [missC]; rw [if_pos h0]; omega
theorem AUP_other {ω0 ω : Om} {l : List Int} {e : Int} (h : AUP ω0 ω l) (h0 : ¬ e % 4 = 0) (h3 : ¬ e % 4 = 3) : AUP ω0 ω (e :: l) := by
  obtain ⟨a, b, c, d⟩ := h
  refine ⟨a, b, fun q hq => ?_, ?_⟩
  · rw [c q hq, List.contains_cons]
    have : (4 * (q : Int) + 0 == e) = false := by simp only [beq_eq_false_iff_ne, ne_eq]; omega
    rw [this, Bool.false_or]
  · rw [d]; simp only [missC]; rw [if_neg h3]; omega
set_option maxRecDepth 100000 in
set_option maxHeartbeats 4000000 in
theorem l_addUp {X : Cx} {d : Nat} {Q : Option MV → Om → Prop} {ω0 : Om} {l : List Int} (hsz : ω0 4 7 = l.length ∨ (ω0 4 7 = -1 ∧ l = [])) (hA : Arr (ω0 19) l) (hE : ∀ e ∈ l, EvOk e) (hl : l.length ≤ 60) (hm : 0 ≤ ω0 5 6 ∧ ω0 5 6 ≤ 3000) : ∀ (n i : Nat) (ω : Om) (x : Option MV), i + n = l.length → AUP ω0 ω (l.drop (l.length - i)) → (∀ ω', AUP ω0 ω' l → Q none ω') → JM X mX3_addUp (d + 1) Q 2 [some (vR 5), some (vI i), x] [] ω := by
  intro n
  induction n with
  | zero =>
    intro i ω x hi hU hQ
    have e4 : ω 4 7 = ω0 4 7 := by rw [hU.1 4 (by decide)]
    rw [show l.length - i = 0 from by omega, List.drop_zero] at hU
    refine J_iload_n 1 dX3_addUp_2 rfl ?_
    refine J_aload_n 0 dX3_addUp_3 rfl ?_
    refine J_getR lkF_X3_29 rfl dX3_addUp_4 ?_
    refine J_getI 7 lkF_X3_66 rfl rfl rfl dX3_addUp_7 ?_
    refine J_icmp_ge 68 dX3_addUp_10 (by decide) (fun h10 => ?_) (fun h10 => ?_)
    · skip
      refine JM_vret rfl dX3_addUp_68 ?_
      exact hQ _ hU
    · skip
      exfalso; omega
  | succ n ih =>
    intro i ω x hi hU hQ
    have e4 : ω 4 7 = ω0 4 7 := by rw [hU.1 4 (by decide)]
    have hne : ω0 4 7 = l.length := by
      rcases hsz with h | ⟨_, h⟩
      · exact h
      · rw [h] at hi; simp at hi
    have hms := missC_R (l.drop (l.length - i))
    have hdl : (l.drop (l.length - i)).length ≤ 60 := by simp; omega
    have h56 := hU.2.2.2
    have hat := Arr_at hA (i := i) (by omega)
    have hdrop := List.drop_eq_getElem_cons (l := l) (i := l.length - 1 - i) (by omega)
    rw [show l.length - 1 - i + 1 = l.length - i from by omega, ← hat] at hdrop
    have hev : EvOk (ω0 19 i) := hE _ (by rw [hat]; exact List.getElem_mem _)
    have e19 : ω 19 = ω0 19 := hU.1 19 (by decide)
    refine J_iload_n 1 dX3_addUp_2 rfl ?_
    refine J_aload_n 0 dX3_addUp_3 rfl ?_
    refine J_getR lkF_X3_29 rfl dX3_addUp_4 ?_
    refine J_getI 7 lkF_X3_66 rfl rfl rfl dX3_addUp_7 ?_
    refine J_icmp_ge 68 dX3_addUp_10 (by decide) (fun h10 => ?_) (fun h10 => ?_)
    · skip
      exfalso; omega
    · skip
      refine J_aload_n 0 dX3_addUp_13 rfl ?_
      refine J_getR lkF_X3_29 rfl dX3_addUp_14 ?_
      refine J_iload_n 1 dX3_addUp_17 rfl ?_
      refine JM_V1 lkM_X3_72 rcv_4 dX3_addUp_18 (by decide) (Nat.le_of_ble_eq_true rfl) ?_
      refine kX4_eventAt ?_
      rw [if_pos (by omega), e19]
      obtain ⟨v1, v2, v3⟩ := id hev
      generalize ω0 19 (i : Int) = ev at hdrop hev v1 v2 v3 ⊢
      refine J_istore_2 dX3_addUp_21 (by decide) rfl ?_
      refine J_iload_n 2 dX3_addUp_22 rfl ?_
      refine J_iconst 4 dX3_addUp_23 ⟨by decide, by decide⟩ ?_
      refine J_irem dX3_addUp_24 (by omega) (by omega) ?_
      refine J_if_ne 45 dX3_addUp_25 (by decide) (fun h25 => ?_) (fun h25 => ?_)
      · skip
        refine J_iload_n 2 dX3_addUp_45 rfl ?_
        refine J_iconst 4 dX3_addUp_46 ⟨by decide, by decide⟩ ?_
        refine J_irem dX3_addUp_47 (by omega) (by omega) ?_
        refine J_iconst 3 dX3_addUp_48 ⟨by decide, by decide⟩ ?_
        refine J_icmp_ne 62 dX3_addUp_49 (by decide) (fun h49 => ?_) (fun h49 => ?_)
        · skip
          refine J_iinc_1 dX3_addUp_62 (by decide) ⟨by omega, by omega⟩ rfl ?_
          refine J_goto 2 dX3_addUp_65 (by decide) ?_
          refine ih (i + 1) _ _ (by omega) ?_ hQ
          rw [show l.length - (i + 1) = l.length - 1 - i from by omega, hdrop]
          first | exact AUP_run hU hev h25 | exact AUP_miss hU h49 | exact AUP_other hU h25 h49
        · skip
          refine J_aload_n 0 dX3_addUp_52 rfl ?_
          first | refine J_dupR dX3_addUp_53 ?_ | refine J_dupI dX3_addUp_53 ?_
          refine J_getI 6 lkF_X3_40 rfl rfl rfl dX3_addUp_54 ?_
          refine J_iconst 1 dX3_addUp_57 ⟨by decide, by decide⟩ ?_
          refine J_iadd dX3_addUp_58 ⟨by omega, by omega⟩ ?_
          refine J_putI 6 lkF_X3_40 rfl fp_3_6 rfl dX3_addUp_59 ?_
          refine J_iinc_1 dX3_addUp_62 (by decide) ⟨by omega, by omega⟩ rfl ?_
          refine J_goto 2 dX3_addUp_65 (by decide) ?_
          refine ih (i + 1) _ _ (by omega) ?_ hQ
          rw [show l.length - (i + 1) = l.length - 1 - i from by omega, hdrop]
          first | exact AUP_run hU hev h25 | exact AUP_miss hU h49 | exact AUP_other hU h25 h49
      · skip
        refine J_aload_n 0 dX3_addUp_28 rfl ?_
        first | refine J_dupR dX3_addUp_29 ?_ | refine J_dupI dX3_addUp_29 ?_
        refine J_getL 5 lkF_X3_36 rfl rfl dX3_addUp_30 ?_
        refine J_lconst1 dX3_addUp_33 ?_
        refine J_iload_n 2 dX3_addUp_34 rfl ?_
        refine J_iconst 4 dX3_addUp_35 ⟨by decide, by decide⟩ ?_
        refine J_idiv dX3_addUp_36 (by omega) (by omega) ?_
        refine J_lshl dX3_addUp_37 ?_
        refine J_lor dX3_addUp_38 ?_
        refine J_putL 5 lkF_X3_36 rfl fp_3_5 rfl rfl dX3_addUp_39 ?_
        refine J_goto 62 dX3_addUp_42 (by decide) ?_
        refine J_iinc_1 dX3_addUp_62 (by decide) ⟨by omega, by omega⟩ rfl ?_
        refine J_goto 2 dX3_addUp_65 (by decide) ?_
        refine ih (i + 1) _ _ (by omega) ?_ hQ
        rw [show l.length - (i + 1) = l.length - 1 - i from by omega, hdrop]
        first | exact AUP_run hU hev h25 | exact AUP_miss hU h49 | exact AUP_other hU h25 h49

set_option maxRecDepth 100000 in
set_option maxHeartbeats 4000000 in
theorem kX3_addUp {X : Cx} {d : Nat} {ω : Om} {Q : Option MV → Om → Prop} {l : List Int} (hsz : ω 4 7 = l.length ∨ (ω 4 7 = -1 ∧ l = [])) (hA : Arr (ω 19) l) (hE : ∀ e ∈ l, EvOk e) (hl : l.length ≤ 60) (hm : 0 ≤ ω 5 6 ∧ ω 5 6 ≤ 3000) (hQ : ∀ ω', AUP ω ω' l → Q none ω') : Mc X mX3_addUp (d + 1) [vR 5] ω Q := by
  refine Mc_of [some (vR 5), none, none] (by decide +kernel) rfl (Nat.le_of_ble_eq_true rfl) ?_
  refine J_iconst 0 dX3_addUp_0 ⟨by decide, by decide⟩ ?_
  refine J_istore_1 dX3_addUp_1 (by decide) rfl ?_
  exact l_addUp hsz hA hE hl hm l.length 0 ω none (by omega) (by rw [Nat.sub_zero, List.drop_length]; exact AUP_0 ω) hQ

def SVk (τ ω : Om) (k : Nat) : Prop := (∀ r : Nat, r < k → RowIs ω (r : Int) (trT τ ((r / 6 : Nat) : Int) ((r % 6 : Nat) : Int))) ∧ (∀ c : Nat, c < 64 → tbL (ω 5 5) c = reachT τ c k) ∧ ω 5 6 = missT τ k
theorem SVk_v {τ ω : Om} (h : SVk τ ω (6 * (τ 3 7).toNat)) : SVv τ ω := by
  refine ⟨fun t m t0 t1 m0 m1 => ?_, h.2⟩
  have := h.1 (6 * t.toNat + m.toNat) (by omega)
  rw [show (6 * t.toNat + m.toNat) / 6 = t.toNat from by omega, show (6 * t.toNat + m.toNat) % 6 = m.toNat from by omega] at this
  rw [show t * 6 + m = ((6 * t.toNat + m.toNat : Nat) : Int) from by omega]
  rw [show ((t.toNat : Nat) : Int) = t from by omega, show ((m.toNat : Nat) : Int) = m from by omega] at this
  exact this
/-- one more trace is stored and counted -/
theorem SVk_step {τ ω ω1 ω2 ω3 : Om} {t m : Nat} (hW : WfT τ) (ht : t < 8) (hm : m < 6) (h : SVk τ ω (6 * t + m)) (h1 : Fr [4, 19, 20, 21, 22] ω ω1) (h15 : ∀ i, ω1 5 i = ω 5 i)
    (h2 : RowIs ω2 ((t : Int) * 6 + m) (trT τ t m)) (h2r : ∀ r, 0 ≤ r → r < 48 → r ≠ (t : Int) * 6 + m → RowEq ω1 ω2 r) (h2f : Fr [23, 24, 25] ω1 ω2)
    (h3 : (hol τ t = 0 → AUP ω2 ω3 (evs τ t m)) ∧ (¬ hol τ t = 0 → ω3 = ω2)) : SVk τ ω3 (6 * t + m + 1) := by
  have e3 : ∀ k, k = 23 ∨ k = 24 ∨ k = 25 → ω3 k = ω2 k := by
    intro k hk
    by_cases hh : hol τ t = 0
    · exact (h3.1 hh).1 k (by rcases hk with rfl | rfl | rfl <;> decide)
    · rw [h3.2 hh]
  have hk6 : (6 * t + m) / 6 = t := by omega
  have hm6 : (6 * t + m) % 6 = m := by omega
  have hlen : ∀ (a b : Nat), b < 6 → ∀ s, trT τ a b = some s → s.1.length ≤ 60 := fun a b hb s hs => (tr_ok hW (by omega) hs).1.2.2.2.2
  refine ⟨fun r hr => ?_, fun c hc => ?_, ?_⟩
  · by_cases e : r = 6 * t + m
    · subst e
      rw [hk6, hm6]
      have h2' : RowIs ω2 ((6 * t + m : Nat) : Int) (trT τ t m) := by
        rw [show ((6 * t + m : Nat) : Int) = (t : Int) * 6 + m from by omega]; exact h2
      exact h2'.eq (fun s hs => hlen t m hm s hs) ⟨by rw [e3 24 (by simp)], by rw [e3 25 (by simp)], fun i _ _ => by rw [e3 23 (by simp)]⟩
    · have q1 := h.1 r (by omega)
      have q2 : RowEq ω ω1 r := ⟨by rw [h1 24 (by decide)], by rw [h1 25 (by decide)], fun i _ _ => by rw [h1 23 (by decide)]⟩
      have q3 := h2r r (by omega) (by omega) (by omega)
      have ll : ∀ s, trT τ ((r / 6 : Nat) : Int) ((r % 6 : Nat) : Int) = some s → s.1.length ≤ 60 := fun s hs => hlen _ _ (by omega) s hs
      exact (((q1.eq ll q2).eq ll q3)).eq ll ⟨by rw [e3 24 (by simp)], by rw [e3 25 (by simp)], fun i _ _ => by rw [e3 23 (by simp)]⟩
  · simp only [reachT]
    rw [hk6, hm6]
    have e5 : tbL (ω2 5 5) c = reachT τ c (6 * t + m) := by rw [h2f 5 (by decide), h15]; exact h.2.1 c hc
    by_cases hh : hol τ t = 0
    · rw [(h3.1 hh).2.2.1 c hc, e5]; simp [hh]
    · rw [h3.2 hh, e5]; simp [hh]
  · simp only [missT]
    rw [hk6, hm6]
    have e5 : ω2 5 6 = missT τ (6 * t + m) := by rw [h2f 5 (by decide), h15]; exact h.2.2
    by_cases hh : hol τ t = 0
    · rw [(h3.1 hh).2.2.2, e5, if_pos hh]
    · rw [h3.2 hh, e5, if_neg hh]; omega
set_option maxRecDepth 100000 in
set_option maxHeartbeats 4000000 in
theorem l_ref1 {X : Cx} {d : Nat} {Q : Option MV → Om → Prop} {τ ω0 : Om} {t : Nat} {ver : Int} (hW : WfT τ) (ht : t < 8) (htn : (t : Int) < τ 3 7) : ∀ (n m : Nat) (ω : Om), m + n = 6 → SVk τ ω (6 * t + m) → TE τ ω → Fr [4, 5, 19, 20, 21, 22, 23, 24, 25] ω0 ω → ω 5 7 = ver → (∀ ω', SVk τ ω' (6 * t + 6) → TE τ ω' → Fr [4, 5, 19, 20, 21, 22, 23, 24, 25] ω0 ω' → ω' 5 7 = ver → JM X mX3_refresh (d + 3) Q 93 [some (vR 5), some (vI t), some (vI 6)] [] ω') → JM X mX3_refresh (d + 3) Q 51 [some (vR 5), some (vI t), some (vI m)] [] ω := by
  intro n
  induction n with
  | zero =>
    intro m ω hm hV hE hF hv hK
    have e6 : m = 6 := by omega
    subst e6
    refine J_iload_n 2 dX3_refresh_51 rfl ?_
    refine J_bipush 6 dX3_refresh_52 ⟨by decide, by decide⟩ (by decide) ?_
    refine J_icmp_ge 93 dX3_refresh_54 (by decide) (fun h54 => ?_) (fun h54 => ?_)
    · skip
      exact hK ω hV hE hF hv
    · skip
      exfalso; omega
  | succ n ih =>
    intro m ω hm hV hE hF hv hK
    refine J_iload_n 2 dX3_refresh_51 rfl ?_
    refine J_bipush 6 dX3_refresh_52 ⟨by decide, by decide⟩ (by decide) ?_
    refine J_icmp_ge 93 dX3_refresh_54 (by decide) (fun h54 => ?_) (fun h54 => ?_)
    · skip
      exfalso; omega
    · skip
      refine J_aload_n 0 dX3_refresh_57 rfl ?_
      refine J_getR lkF_X3_29 rfl dX3_refresh_58 ?_
      refine J_iload_n 1 dX3_refresh_61 rfl ?_
      refine J_iload_n 2 dX3_refresh_62 rfl ?_
      refine JM_V2 lkM_X3_46 rcv_4 dX3_refresh_63 (by decide) (Nat.le_of_ble_eq_true rfl) ?_
      refine kX4_run hW hE (by omega) (fun ω1 r1 f1 => ?_)
      have e15 : ∀ i, ω1 5 i = ω 5 i := fun i => by rw [f1 5 (by decide)]
      have hE1 : TE τ ω1 := hE.fr f1 rfl
      refine J_aload_n 0 dX3_refresh_66 rfl ?_
      refine J_iload_n 1 dX3_refresh_67 rfl ?_
      refine J_iload_n 2 dX3_refresh_68 rfl ?_
      refine JM_V2 lkM_X3_52 rcv_5 dX3_refresh_69 (by decide) (Nat.le_of_ble_eq_true rfl) ?_
      refine kX3_store (by omega) (by omega) r1 (fun ω2 r2 q2 f2 => ?_)
      have hE2 : TE τ ω2 := hE1.fr f2 rfl
      refine J_aload_n 0 dX3_refresh_72 rfl ?_
      refine J_getR lkF_X3_25 rfl dX3_refresh_73 ?_
      refine J_iload_n 1 dX3_refresh_76 rfl ?_
      refine JM_V1 lkM_X3_55 rcv_3 dX3_refresh_77 (by decide) (Nat.le_of_ble_eq_true rfl) ?_
      refine kX5_isHollow ?_
      rw [hol_TE hE2]
      refine J_if_ne 87 dX3_refresh_80 (by decide) (fun h80 => ?_) (fun h80 => ?_)
      · skip
        refine J_iinc_2 dX3_refresh_87 (by decide) ⟨by omega, by omega⟩ rfl ?_
        refine J_goto 51 dX3_refresh_90 (by decide) ?_
        first
          | (refine ih (m + 1) ω3 (by omega) (SVk_step hW ht (by omega) hV f1 e15 r2 q2 f2 ⟨fun _ => r3, fun q => absurd h80 q⟩) (hE2.fr r3.1 rfl) (hF.tr ((f1.mono (by decide)).tr ((f2.mono (by decide)).tr (r3.1.mono (by decide))))) (by rw [r3.2.1 7 (by decide) (by decide), f2 5 (by decide), e15]; exact hv) hK)
          | (refine ih (m + 1) ω2 (by omega) (SVk_step hW ht (by omega) hV f1 e15 r2 q2 f2 ⟨fun q => absurd q h80, fun _ => rfl⟩) hE2 (hF.tr ((f1.mono (by decide)).tr (f2.mono (by decide)))) (by rw [f2 5 (by decide), e15]; exact hv) hK)
      · skip
        refine J_aload_n 0 dX3_refresh_83 rfl ?_
        refine JM_V0 lkM_X3_59 rcv_5 dX3_refresh_84 (by decide) (Nat.le_of_ble_eq_true rfl) ?_
        have hevl := evs_len hW (t : Int) (m := (m : Int)) (by omega)
        have hms := missT_R hW (6 * t + m)
        have e56 : ω2 5 6 = missT τ (6 * t + m) := by rw [f2 5 (by decide), e15]; exact hV.2.2
        have hcells : (ω2 4 7 = (evs τ t m).length ∨ (ω2 4 7 = -1 ∧ evs τ t m = [])) ∧ Arr (ω2 19) (evs τ t m) ∧ ∀ e ∈ evs τ t m, EvOk e := by
          rw [f2 4 (by decide), f2 19 (by decide)]
          unfold evs
          cases hto : trT τ t m with
          | none => rw [hto] at r1; exact ⟨Or.inr ⟨r1.2.1, rfl⟩, trivial, fun _ h => absurd h List.not_mem_nil⟩
          | some s => rw [hto] at r1; exact ⟨Or.inl r1.1.2.1, r1.1.2.2.1, (tr_ok hW (by omega) hto).2.1⟩
        refine kX3_addUp hcells.1 hcells.2.1 hcells.2.2 hevl (by omega) (fun ω3 r3 => ?_)
        refine J_iinc_2 dX3_refresh_87 (by decide) ⟨by omega, by omega⟩ rfl ?_
        refine J_goto 51 dX3_refresh_90 (by decide) ?_
        first
          | (refine ih (m + 1) ω3 (by omega) (SVk_step hW ht (by omega) hV f1 e15 r2 q2 f2 ⟨fun _ => r3, fun q => absurd h80 q⟩) (hE2.fr r3.1 rfl) (hF.tr ((f1.mono (by decide)).tr ((f2.mono (by decide)).tr (r3.1.mono (by decide))))) (by rw [r3.2.1 7 (by decide) (by decide), f2 5 (by decide), e15]; exact hv) hK)
          | (refine ih (m + 1) ω2 (by omega) (SVk_step hW ht (by omega) hV f1 e15 r2 q2 f2 ⟨fun q => absurd q h80, fun _ => rfl⟩) hE2 (hF.tr ((f1.mono (by decide)).tr (f2.mono (by decide)))) (by rw [f2 5 (by decide), e15]; exact hv) hK)

set_option maxRecDepth 100000 in
set_option maxHeartbeats 4000000 in
theorem l_ref2 {X : Cx} {d : Nat} {Q : Option MV → Om → Prop} {τ ω0 : Om} {ver : Int} (hW : WfT τ) : ∀ (n t : Nat) (ω : Om) (x : Option MV), t + n = (τ 3 7).toNat → SVk τ ω (6 * t) → TE τ ω → Fr [4, 5, 19, 20, 21, 22, 23, 24, 25] ω0 ω → ω 5 7 = ver → (∀ ω', SVv τ ω' → TE τ ω' → Fr [4, 5, 19, 20, 21, 22, 23, 24, 25] ω0 ω' → ω' 5 7 = ver → Q none ω') → JM X mX3_refresh (d + 3) Q 38 [some (vR 5), some (vI t), x] [] ω := by
  intro n
  induction n with
  | zero =>
    intro t ω x ht hV hE hF hv hQ
    have hn := hW.1
    have e3 : ω 3 7 = τ 3 7 := by rw [hE.1]
    refine J_iload_n 1 dX3_refresh_38 rfl ?_
    refine J_aload_n 0 dX3_refresh_39 rfl ?_
    refine J_getR lkF_X3_25 rfl dX3_refresh_40 ?_
    refine J_getI 7 lkF_X3_43 rfl rfl rfl dX3_refresh_43 ?_
    refine J_icmp_ge 99 dX3_refresh_46 (by decide) (fun h46 => ?_) (fun h46 => ?_)
    · skip
      refine JM_vret rfl dX3_refresh_99 ?_
      exact hQ ω (SVk_v (by rw [show (τ 3 7).toNat = t from by omega]; exact hV)) hE hF hv
    · skip
      exfalso; omega
  | succ n ih =>
    intro t ω x ht hV hE hF hv hQ
    have hn := hW.1
    have e3 : ω 3 7 = τ 3 7 := by rw [hE.1]
    refine J_iload_n 1 dX3_refresh_38 rfl ?_
    refine J_aload_n 0 dX3_refresh_39 rfl ?_
    refine J_getR lkF_X3_25 rfl dX3_refresh_40 ?_
    refine J_getI 7 lkF_X3_43 rfl rfl rfl dX3_refresh_43 ?_
    refine J_icmp_ge 99 dX3_refresh_46 (by decide) (fun h46 => ?_) (fun h46 => ?_)
    · skip
      exfalso; omega
    · skip
      refine J_iconst 0 dX3_refresh_49 ⟨by decide, by decide⟩ ?_
      refine J_istore_2 dX3_refresh_50 (by decide) rfl ?_
      refine l_ref1 hW (by omega) (by omega) 6 0 ω rfl hV hE hF hv (fun ω1 a1 a2 a3 a4 => ?_)
      refine J_iinc_1 dX3_refresh_93 (by decide) ⟨by omega, by omega⟩ rfl ?_
      refine J_goto 38 dX3_refresh_96 (by decide) ?_
      exact ih (t + 1) ω1 _ (by omega) (by rw [show 6 * (t + 1) = 6 * t + 6 from by omega]; exact a1) a2 a3 a4 hQ

set_option maxRecDepth 100000 in
set_option maxHeartbeats 4000000 in
theorem kX3_refresh {X : Cx} {d : Nat} {ω : Om} {Q : Option MV → Om → Prop} {τ : Om} (hW : WfT τ) (hE : TE τ ω) (hC : ω 5 7 = ω 3 9 → SVv τ ω) (hQ : ∀ ω', SVv τ ω' → TE τ ω' → Fr [4, 5, 19, 20, 21, 22, 23, 24, 25] ω ω' → ω' 5 7 = ω 3 9 → Q none ω') : Mc X mX3_refresh (d + 3) [vR 5] ω Q := by
  refine Mc_of [some (vR 5), none, none] (by decide +kernel) rfl (Nat.le_of_ble_eq_true rfl) ?_
  refine J_aload_n 0 dX3_refresh_0 rfl ?_
  refine J_getI 7 lkF_X3_21 rfl rfl rfl dX3_refresh_1 ?_
  refine J_aload_n 0 dX3_refresh_4 rfl ?_
  refine J_getR lkF_X3_25 rfl dX3_refresh_5 ?_
  refine J_getI 9 lkF_X3_33 rfl rfl rfl dX3_refresh_8 ?_
  refine J_icmp_ne 15 dX3_refresh_11 (by decide) (fun h11 => ?_) (fun h11 => ?_)
  · skip
    refine J_aload_n 0 dX3_refresh_15 rfl ?_
    refine J_aload_n 0 dX3_refresh_16 rfl ?_
    refine J_getR lkF_X3_25 rfl dX3_refresh_17 ?_
    refine J_getI 9 lkF_X3_33 rfl rfl rfl dX3_refresh_20 ?_
    refine J_putI 7 lkF_X3_21 rfl fp_3_7 rfl dX3_refresh_23 ?_
    refine J_aload_n 0 dX3_refresh_26 rfl ?_
    refine J_lconst0 dX3_refresh_27 ?_
    refine J_putL 5 lkF_X3_36 rfl fp_3_5 rfl rfl dX3_refresh_28 ?_
    refine J_aload_n 0 dX3_refresh_31 rfl ?_
    refine J_iconst 0 dX3_refresh_32 ⟨by decide, by decide⟩ ?_
    refine J_putI 6 lkF_X3_40 rfl fp_3_6 rfl dX3_refresh_33 ?_
    refine J_iconst 0 dX3_refresh_36 ⟨by decide, by decide⟩ ?_
    refine J_istore_1 dX3_refresh_37 (by decide) rfl ?_
    refine l_ref2 (ω0 := ω) hW (τ 3 7).toNat 0 _ _ (by omega) ⟨fun r hr => absurd hr (by omega), fun c hc => ?_, ?_⟩ (hE.fr (K := [5]) (Fr.up (Fr.up (Fr.up Fr.rf (by decide)) (by decide)) (by decide)) rfl) (Fr.up (Fr.up (Fr.up Fr.rf (by decide)) (by decide)) (by decide)) (by rw [up_i (by decide), up_i (by decide), up_s]) hQ
    · rw [up_i (by decide), up_s, bit_zero]; rfl
    · rw [up_s]; rfl
  · skip
    refine JM_vret rfl dX3_refresh_14 ?_
    exact hQ ω (hC (by omega)) hE Fr.rf (by omega)

def evO (o : Option TS) : Option (List Int) := o.map (·.1)
set_option maxRecDepth 100000 in
set_option maxHeartbeats 4000000 in
theorem l_ias {X : Cx} {d : Nat} {Q : Option MV → Om → Prop} {ω : Om} {t m : Int} {l l' : List Int} (ht : 0 ≤ t ∧ t < 8) (hm : 0 ≤ m ∧ m < 6) (hs : ω 4 7 = l.length) (hA : Arr (ω 19) l) (hA' : Arr (fun i => ω 23 ((t * 6 + m) * 60 + i)) l') (hll : l.length = l'.length) (hl : l.length ≤ 60) : ∀ (n i : Nat), i + n = l.length → (∀ j : Nat, j < i → ω 19 j = ω 23 ((t * 6 + m) * 60 + j)) → Q (some (vI (if l = l' then 1 else 0))) ω → JM X mX3_isAsTraced (d + 2) Q 20 [some (vR 5), some (vI t), some (vI m), some (vI i)] [] ω := by
  intro n
  induction n with
  | zero =>
    intro i hi hj hQ
    refine J_iload_n 3 dX3_isAsTraced_20 rfl ?_
    refine J_aload_n 0 dX3_isAsTraced_21 rfl ?_
    refine J_getR lkF_X3_29 rfl dX3_isAsTraced_22 ?_
    refine J_getI 7 lkF_X3_66 rfl rfl rfl dX3_isAsTraced_25 ?_
    refine J_icmp_ge 57 dX3_isAsTraced_28 (by decide) (fun h28 => ?_) (fun h28 => ?_)
    · skip
      refine J_iconst 1 dX3_isAsTraced_57 ⟨by decide, by decide⟩ ?_
      refine JM_zret rfl (by omega) dX3_isAsTraced_58 ?_
      rw [if_pos ((Arr_ext hA hA' hll).mp (fun j hj' => hj j (by omega)))] at hQ; exact hQ
    · skip
      exfalso; omega
  | succ n ih =>
    intro i hi hj hQ
    refine J_iload_n 3 dX3_isAsTraced_20 rfl ?_
    refine J_aload_n 0 dX3_isAsTraced_21 rfl ?_
    refine J_getR lkF_X3_29 rfl dX3_isAsTraced_22 ?_
    refine J_getI 7 lkF_X3_66 rfl rfl rfl dX3_isAsTraced_25 ?_
    refine J_icmp_ge 57 dX3_isAsTraced_28 (by decide) (fun h28 => ?_) (fun h28 => ?_)
    · skip
      exfalso; omega
    · skip
      refine J_aload_n 0 dX3_isAsTraced_31 rfl ?_
      refine J_getR lkF_X3_29 rfl dX3_isAsTraced_32 ?_
      refine J_iload_n 3 dX3_isAsTraced_35 rfl ?_
      refine JM_V1 lkM_X3_72 rcv_4 dX3_isAsTraced_36 (by decide) (Nat.le_of_ble_eq_true rfl) ?_
      refine kX4_eventAt ?_
      rw [if_pos (by omega)]
      refine J_aload_n 0 dX3_isAsTraced_39 rfl ?_
      refine J_iload_n 1 dX3_isAsTraced_40 rfl ?_
      refine J_iload_n 2 dX3_isAsTraced_41 rfl ?_
      refine J_iload_n 3 dX3_isAsTraced_42 rfl ?_
      refine JM_V3 lkM_X3_85 rcv_5 dX3_isAsTraced_43 (by decide) (Nat.le_of_ble_eq_true rfl) ?_
      refine kX3_eventAt (by omega) (by omega) (by omega) ?_
      refine J_icmp_eq 51 dX3_isAsTraced_46 (by decide) (fun h46 => ?_) (fun h46 => ?_)
      · skip
        refine J_iinc_3 dX3_isAsTraced_51 (by decide) ⟨by omega, by omega⟩ rfl ?_
        refine J_goto 20 dX3_isAsTraced_54 (by decide) ?_
        exact ih (i + 1) (by omega) (fun j hj' => by
          by_cases e : j = i
          · subst e; exact h46
          · exact hj j (by omega)) hQ
      · skip
        refine J_iconst 0 dX3_isAsTraced_49 ⟨by decide, by decide⟩ ?_
        refine JM_zret rfl (by omega) dX3_isAsTraced_50 ?_
        rw [if_neg (fun e => h46 ((Arr_ext hA hA' hll).mpr e i (by omega)))] at hQ; exact hQ

set_option maxRecDepth 100000 in
set_option maxHeartbeats 4000000 in
theorem kX3_isAsTraced {X : Cx} {d : Nat} {ω : Om} {Q : Option MV → Om → Prop} {t m : Int} {τ : Om} {o o' : Option TS} (ht : 0 ≤ t ∧ t < 8) (hm : 0 ≤ m ∧ m < 6) (hR : RunP τ ω o) (hW' : RowIs ω (t * 6 + m) o') (hl : ∀ s, o' = some s → s.1.length ≤ 60) (hQ : Q (some (vI (if evO o = evO o' then 1 else 0))) ω) : Mc X mX3_isAsTraced (d + 2) [vR 5, vI t, vI m] ω Q := by
  refine Mc_of [some (vR 5), some (vI t), some (vI m), none] (by decide +kernel) rfl (Nat.le_of_ble_eq_true rfl) ?_
  refine J_aload_n 0 dX3_isAsTraced_0 rfl ?_
  refine J_getR lkF_X3_29 rfl dX3_isAsTraced_1 ?_
  refine J_getI 7 lkF_X3_66 rfl rfl rfl dX3_isAsTraced_4 ?_
  refine J_aload_n 0 dX3_isAsTraced_7 rfl ?_
  refine J_iload_n 1 dX3_isAsTraced_8 rfl ?_
  refine J_iload_n 2 dX3_isAsTraced_9 rfl ?_
  refine JM_V2 lkM_X3_82 rcv_5 dX3_isAsTraced_10 (by decide) (Nat.le_of_ble_eq_true rfl) ?_
  refine kX3_sizeOf (by omega) (by omega) ?_
  refine J_icmp_eq 18 dX3_isAsTraced_13 (by decide) (fun h13 => ?_) (fun h13 => ?_)
  · skip
    refine J_iconst 0 dX3_isAsTraced_18 ⟨by decide, by decide⟩ ?_
    refine J_istore_3 dX3_isAsTraced_19 (by decide) rfl ?_
    cases o with
    | none => cases o' with
      | none =>
        have hs := hR.2.1
        refine J_iload_n 3 dX3_isAsTraced_20 rfl ?_
        refine J_aload_n 0 dX3_isAsTraced_21 rfl ?_
        refine J_getR lkF_X3_29 rfl dX3_isAsTraced_22 ?_
        refine J_getI 7 lkF_X3_66 rfl rfl rfl dX3_isAsTraced_25 ?_
        refine J_icmp_ge 57 dX3_isAsTraced_28 (by decide) (fun h28 => ?_) (fun h28 => ?_)
        · skip
          refine J_iconst 1 dX3_isAsTraced_57 ⟨by decide, by decide⟩ ?_
          refine JM_zret rfl (by omega) dX3_isAsTraced_58 ?_
          rw [if_pos rfl] at hQ; exact hQ
        · skip
          exfalso; omega
      | some s' => exfalso; have a := hR.2.1; have b := hW'.1; omega
    | some s => cases o' with
      | none => exfalso; have a := hR.1.2.1; have b := hW'.1; omega
      | some s' =>
        have a := hR.1.2.1
        have b := hW'.1
        have ee : (evO (some s) = evO (some s')) = (s.1 = s'.1) := by simp [evO]
        simp only [ee] at hQ
        exact l_ias ht hm a hR.1.2.2.1 hW'.2.2 (by omega) (by have := hl s' rfl; omega) s.1.length 0 (by omega) (fun j hj => absurd hj (by omega)) hQ
  · skip
    refine J_iconst 0 dX3_isAsTraced_16 ⟨by decide, by decide⟩ ?_
    refine JM_zret rfl (by omega) dX3_isAsTraced_17 ?_
    rw [if_neg] at hQ
    · exact hQ
    · intro e
      apply h13
      cases o with
      | none => cases o' with
        | none => rw [hR.2.1, hW'.1]
        | some s' => cases e
      | some s => cases o' with
        | none => cases e
        | some s' => rw [hR.1.2.1, hW'.1, (Option.some.inj e : s.1 = s'.1)]
