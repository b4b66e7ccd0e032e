/-! each call, once on the class, then on the model -/
theorem rdF_cg {f g : Int → Int} {n : Int} : ∀ (k i : Nat) (s : RS), (∀ j : Nat, i ≤ j → j < i + k → f j = g j) → rdF f n k i s = rdF g n k i s := by
  intro k
  induction k with
  | zero => intro i s _; rfl
  | succ k ih =>
    intro i s h
    simp only [rdF]
    rw [h i (by omega) (by omega)]
    cases rdS n (g i) s with
    | none => rfl
    | some s' => exact ih (i + 1) s' (fun j a b => h j (by omega) (by omega))
/-- what none of both trees, counts and rows reads -/
theorem RR_x {c : Nat} {ω ω' : Om} (h : RR c ω) (hk : Fr [0, 1, 2, 4, 7, 8, 9, 10, 11, 19, 20, 21, 22, 29, 30, 40, 41, 42, 43] ω ω') (h9 : ∀ i, i < 19 → i ≠ 0 → i ≠ 15 → ω' 29 i = ω 29 i) (r2 : R2 ω') (r3 : R3 ω') : RR c ω' := by
  obtain ⟨⟨hC, hT, h7⟩, _, _, h4, h5, h6⟩ := h
  have e2 : ω' 29 2 = ω 29 2 := h9 2 (by decide) (by decide) (by decide)
  have e8 : ω' 29 8 = ω 29 8 := h9 8 (by decide) (by decide) (by decide)
  have e12 : ω' 29 12 = ω 29 12 := h9 12 (by decide) (by decide) (by decide)
  have ev : vw 0 ω' = vw 0 ω := vw_eq e2 e8 (hk 31 (by decide)) (hk 32 (by decide)) (hk 33 (by decide)) (hk 34 (by decide)) (hk 36 (by decide)) (hk 37 (by decide))
  have hTT : TQ ω ω' := (TE.q ⟨hk 3 (by decide), hk 12 (by decide), hk 13 (by decide), hk 14 (by decide), hk 15 (by decide), hk 16 (by decide), hk 17 (by decide), hk 18 (by decide)⟩)
  have hrM : ∀ r i, rwM ω' r i = rwM ω r i := fun r i => by unfold rwM; rw [e12, hk 38 (by decide), hk 33 (by decide)]
  have hrH : ∀ r i, rwH ω' r i = rwH ω r i := fun r i => by unfold rwH; rw [e12, hk 39 (by decide), hk 34 (by decide)]
  have hFB : ∀ r, FB ω r → FB ω' r := fun r hf t n t0 t1 n0 n1 => by
    rw [e2] at t1 ⊢
    rw [hrM]
    exact hf t n t0 t1 n0 n1
  have hvr : ∀ r, vr ω' r = vr ω r := fun r => by
    funext k i
    unfold vr
    rw [hrM, hrH, ev]
  have hC' : CS ω' := by
    refine ⟨WfT_TQ hTT hC.1, ⟨?_, fun q => ?_⟩, ?_, fun t t0 t1 => ?_⟩
    · rw [hk 5 (by decide), hk 3 (by decide)]; exact hC.2.1.1
    · rw [hk 5 (by decide), hk 3 (by decide)] at q
      exact SVv_fr (SVv_TQ hTT (hC.2.1.2 q)) (hk 23 (by decide)) (hk 24 (by decide)) (hk 25 (by decide)) (hk 5 (by decide))
    · exact MC_TQ hTT (fun i _ => by rw [hk 6 (by decide)]) (by rw [hk 3 (by decide)]) hC.2.2.1
    · rw [hk 15 (by decide)]; exact hC.2.2.2 t t0 t1
  refine ⟨⟨hC', by rw [ev]; exact hTT.sy.tr hT, by rw [h9 7 (by decide) (by decide) (by decide)]; exact h7⟩, r2, r3, ?_, ⟨?_, ?_, ?_⟩, ?_⟩
  · unfold R4; rw [e12, h9 17 (by decide) (by decide) (by decide), h9 18 (by decide) (by decide) (by decide), hk 6 (by decide), hk 3 (by decide)]; exact h4
  · rw [e2, e8, hk 16 (by decide)]; exact h5.1
  · rw [e2, e8, hk 16 (by decide), hk 35 (by decide)]; exact h5.2.1
  · rw [e12]; exact hFB _ h5.2.2
  · intro r r0 r1
    rw [e12] at r1
    obtain ⟨a1, ⟨a2, a3⟩, a4, a5⟩ := h6 r r0 r1
    rw [hk 28 (by decide), hk 27 (by decide), hk 26 (by decide), hvr]
    refine ⟨a1, ⟨a2, hFB r a3⟩, a4, fun t t0 t1 => ?_⟩
    rw [e2] at t1
    rw [hrM, hrH]
    obtain ⟨b1, b2, b3⟩ := a5 t t0 t1
    refine ⟨b1, b2, fun n n0 n1 nn => ?_⟩
    rw [hrM, hrH, hrM]
    exact b3 n n0 n1 nn
theorem st_of {X : Cx} {d c : Nat} {ω : Om} {Q1 : Option MV → Om → Prop} {t w : Int} (h : RR c ω) (hc : c < 900000)  (k : ∀ (z : Int) (ω1 : Om), (∀ Q2 : Option MV → Om → Prop, (∀ ω2, RR (c + 1) ω2 → Q2 (some (vI z)) ω2) → Mc X mX7_of (d + 10) [vR 29, vI t, vI w] ω1 Q2) → Q1 (some (vI z)) ω1) : Mc X mX6_of (d + 10) [vR 0, vI t, vI w] ω Q1 := by
  refine kX6_of h.1.1 (k _ ω (fun Q2 hQ2 => kX7_of h.mw ?_))
  rw [aOf_TQ h.1.2.1]
  exact hQ2 ω (h.mono (Nat.le_succ c))
theorem st_has {X : Cx} {d c : Nat} {ω : Om} {Q1 : Option MV → Om → Prop} {t m : Int} (h : RR c ω) (hc : c < 900000)  (k : ∀ (z : Int) (ω1 : Om), (∀ Q2 : Option MV → Om → Prop, (∀ ω2, RR (c + 1) ω2 → Q2 (some (vI z)) ω2) → Mc X mX7_has (d + 10) [vR 29, vI t, vI m] ω1 Q2) → Q1 (some (vI z)) ω1) : Mc X mX6_has (d + 10) [vR 0, vI t, vI m] ω Q1 := by
  refine kX6_has h.1.1 (k _ ω (fun Q2 hQ2 => kX7_has h.mw ?_))
  rw [aHas_TQ h.1.2.1]
  exact hQ2 ω (h.mono (Nat.le_succ c))
theorem st_answer {X : Cx} {d c : Nat} {ω : Om} {Q1 : Option MV → Om → Prop} {t m w : Int} (h : RR c ω) (hc : c < 900000)  (k : ∀ (z : Int) (ω1 : Om), (∀ Q2 : Option MV → Om → Prop, (∀ ω2, RR (c + 1) ω2 → Q2 (some (vI z)) ω2) → Mc X mX7_answer (d + 10) [vR 29, vI t, vI m, vI w] ω1 Q2) → Q1 (some (vI z)) ω1) : Mc X mX6_answer (d + 10) [vR 0, vI t, vI m, vI w] ω Q1 := by
  refine kX6_answer h.1.1 (k _ ω (fun Q2 hQ2 => kX7_answer h.mw ?_))
  rw [aAns_TQ h.1.2.1]
  exact hQ2 ω (h.mono (Nat.le_succ c))
theorem st_body {X : Cx} {d c : Nat} {ω : Om} {Q1 : Option MV → Om → Prop} {b w : Int} (h : RR c ω) (hc : c < 900000)  (k : ∀ (z : Int) (ω1 : Om), (∀ Q2 : Option MV → Om → Prop, (∀ ω2, RR (c + 1) ω2 → Q2 (some (vI z)) ω2) → Mc X mX7_body (d + 10) [vR 29, vI b, vI w] ω1 Q2) → Q1 (some (vI z)) ω1) : Mc X mX6_body (d + 10) [vR 0, vI b, vI w] ω Q1 := by
  refine kX6_body h.1.1 (k _ ω (fun Q2 hQ2 => kX7_body h.mw ?_))
  rw [aBody_TQ h.1.2.1]
  exact hQ2 ω (h.mono (Nat.le_succ c))
theorem st_fit {X : Cx} {d c : Nat} {ω : Om} {Q1 : Option MV → Om → Prop} {t w : Int} (h : RR c ω) (hc : c < 900000)  (k : ∀ (z : Int) (ω1 : Om), (∀ Q2 : Option MV → Om → Prop, (∀ ω2, RR (c + 1) ω2 → Q2 (some (vI z)) ω2) → Mc X mX7_fit (d + 10) [vR 29, vI t, vI w] ω1 Q2) → Q1 (some (vI z)) ω1) : Mc X mX6_fit (d + 10) [vR 0, vI t, vI w] ω Q1 := by
  refine kX6_fit h.1.1 h.2.2.1.1 (k _ ω (fun Q2 hQ2 => kX7_fit h.mw h.km ?_))
  rw [aFit_TQ h.1.2.1, h.2.2.1.2.1, show aFit ω (ω 0 6) (ω 40) t w = aFit ω (ω 0 6) (ω 7) t w from by
    unfold aFit
    by_cases q : 0 ≤ t ∧ t < ω 0 6
    · rw [if_pos q, if_pos q, h.2.2.1.2.2 t q.1 q.2]
    · rw [if_neg q, if_neg q]]
  exact hQ2 ω (h.mono (Nat.le_succ c))
theorem st_common {X : Cx} {d c : Nat} {ω : Om} {Q1 : Option MV → Om → Prop} {t : Int} (h : RR c ω) (hc : c < 900000)  (k : ∀ (z : Int) (ω1 : Om), (∀ Q2 : Option MV → Om → Prop, (∀ ω2, RR (c + 1) ω2 → Q2 (some (vI z)) ω2) → Mc X mX7_common (d + 10) [vR 29, vI t] ω1 Q2) → Q1 (some (vI z)) ω1) : Mc X mX6_common (d + 10) [vR 0, vI t] ω Q1 := by
  refine kX6_common h.1.1 (k _ ω (fun Q2 hQ2 => kX7_common h.mw ?_))
  rw [aCom_TQ h.1.2.1]
  exact hQ2 ω (h.mono (Nat.le_succ c))
theorem st_trace {X : Cx} {d c : Nat} {ω : Om} {Q1 : Option MV → Om → Prop} {t m w : Int} (h : RR c ω) (hc : c < 900000)  (k : ∀ (z : Int) (ω1 : Om), (∀ Q2 : Option MV → Om → Prop, (∀ ω2, RR (c + 1) ω2 → Q2 (some (vI z)) ω2) → Mc X mX7_trace (d + 10) [vR 29, vI t, vI m, vI w] ω1 Q2) → Q1 (some (vI z)) ω1) : Mc X mX6_trace (d + 10) [vR 0, vI t, vI m, vI w] ω Q1 := by
  refine kX6_trace h.1.1 (fun ω1 p => k _ ω1 (fun Q2 hQ2 => ?_))
  have h1 := RR_c h p
  refine kX7_trace h1.mw (fun ω2 f2 => ?_)
  rw [aTr_TQ h1.1.2.1, aTr_TQ p.1.2.2.2.2]
  exact hQ2 ω2 ((RR_m h1 (f2.x.mono (by decide)).g).mono (Nat.le_succ c))
theorem st_event {X : Cx} {d c : Nat} {ω : Om} {Q1 : Option MV → Om → Prop} {t m i w : Int} (h : RR c ω) (hc : c < 900000)  (k : ∀ (z : Int) (ω1 : Om), (∀ Q2 : Option MV → Om → Prop, (∀ ω2, RR (c + 1) ω2 → Q2 (some (vI z)) ω2) → Mc X mX7_event (d + 10) [vR 29, vI t, vI m, vI i, vI w] ω1 Q2) → Q1 (some (vI z)) ω1) : Mc X mX6_event (d + 10) [vR 0, vI t, vI m, vI i, vI w] ω Q1 := by
  refine kX6_event h.1.1 (fun ω1 p => k _ ω1 (fun Q2 hQ2 => ?_))
  have h1 := RR_c h p
  refine kX7_event h1.mw (fun ω2 f2 => ?_)
  rw [aEv_TQ h1.1.2.1, aEv_TQ p.1.2.2.2.2]
  exact hQ2 ω2 ((RR_m h1 (f2.x.mono (by decide)).g).mono (Nat.le_succ c))
theorem st_why {X : Cx} {d c : Nat} {ω : Om} {Q1 : Option MV → Om → Prop} {t m u : Int} (h : RR c ω) (hc : c < 900000)  (k : ∀ (z : Int) (ω1 : Om), (∀ Q2 : Option MV → Om → Prop, (∀ ω2, RR (c + 1) ω2 → Q2 (some (vI z)) ω2) → Mc X mX7_why (d + 10) [vR 29, vI t, vI m, vI u] ω1 Q2) → Q1 (some (vI z)) ω1) : Mc X mX6_why (d + 10) [vR 0, vI t, vI m, vI u] ω Q1 := by
  refine kX6_why h.1.1 (fun ω1 p => k _ ω1 (fun Q2 hQ2 => ?_))
  have h1 := RR_c h p
  refine kX7_why h1.mw (fun ω2 f2 => ?_)
  rw [aWhy_TQ h1.1.2.1, aWhy_TQ p.1.2.2.2.2]
  exact hQ2 ω2 ((RR_m h1 (f2.x.mono (by decide)).g).mono (Nat.le_succ c))
theorem st_where {X : Cx} {d c : Nat} {ω : Om} {Q1 : Option MV → Om → Prop} {t m u : Int} (h : RR c ω) (hc : c < 900000)  (k : ∀ (z : Int) (ω1 : Om), (∀ Q2 : Option MV → Om → Prop, (∀ ω2, RR (c + 1) ω2 → Q2 (some (vI z)) ω2) → Mc X mX7_where (d + 10) [vR 29, vI t, vI m, vI u] ω1 Q2) → Q1 (some (vI z)) ω1) : Mc X mX6_where (d + 10) [vR 0, vI t, vI m, vI u] ω Q1 := by
  refine kX6_where h.1.1 (fun ω1 p => k _ ω1 (fun Q2 hQ2 => ?_))
  have h1 := RR_c h p
  refine kX7_where h1.mw (fun ω2 f2 => ?_)
  rw [aWhere_TQ h1.1.2.1, aWhere_TQ p.1.2.2.2.2]
  exact hQ2 ω2 ((RR_m h1 (f2.x.mono (by decide)).g).mono (Nat.le_succ c))
theorem st_moves {X : Cx} {d c : Nat} {ω : Om} {Q1 : Option MV → Om → Prop} {w : Int} (h : RR c ω) (hc : c < 900000)  (k : ∀ (z : Int) (ω1 : Om), (∀ Q2 : Option MV → Om → Prop, (∀ ω2, RR (c + 1) ω2 → Q2 (some (vI z)) ω2) → Mc X mX7_moves (d + 10) [vR 29, vI w] ω1 Q2) → Q1 (some (vI z)) ω1) : Mc X mX6_moves (d + 10) [vR 0, vI w] ω Q1 := by
  refine kX6_moves h.1.1 (fun ω1 p => k _ ω1 (fun Q2 hQ2 => ?_))
  have h1 := RR_c h p
  refine kX7_moves h1.mw (fun ω2 f2 => ?_)
  rw [aMoves_TQ h1.1.2.1, aMoves_TQ p.1.2.2.2.2]
  exact hQ2 ω2 ((RR_m h1 f2.g).mono (Nat.le_succ c))
theorem st_dead {X : Cx} {d c : Nat} {ω : Om} {Q1 : Option MV → Om → Prop} {b : Int} (h : RR c ω) (hc : c < 900000)  (k : ∀ (z : Int) (ω1 : Om), (∀ Q2 : Option MV → Om → Prop, (∀ ω2, RR (c + 1) ω2 → Q2 (some (vI z)) ω2) → Mc X mX7_dead (d + 10) [vR 29, vI b] ω1 Q2) → Q1 (some (vI z)) ω1) : Mc X mX6_dead (d + 10) [vR 0, vI b] ω Q1 := by
  refine kX6_dead h.1.1 (fun ω1 p => k _ ω1 (fun Q2 hQ2 => ?_))
  have h1 := RR_c h p
  refine kX7_dead h1.mw (fun ω2 f2 => ?_)
  rw [aDead_TQ h1.1.2.1, aDead_TQ p.1.2.2.2.2]
  exact hQ2 ω2 ((RR_m h1 f2.g).mono (Nat.le_succ c))
theorem st_count {X : Cx} {d c : Nat} {ω : Om} {Q1 : Option MV → Om → Prop} {w : Int} (h : RR c ω) (hc : c < 900000)  (k : ∀ (z : Int) (ω1 : Om), (∀ Q2 : Option MV → Om → Prop, (∀ ω2, RR (c + 1) ω2 → Q2 (some (vI z)) ω2) → Mc X mX7_count (d + 10) [vR 29, vI w] ω1 Q2) → Q1 (some (vI z)) ω1) : Mc X mX6_count (d + 10) [vR 0, vI w] ω Q1 := by
  refine kX6_count h.1.1 (fun ω1 p => k _ ω1 (fun Q2 hQ2 => ?_))
  have h1 := RR_c h p
  refine kX7_count h1.mw (fun ω2 f2 => ?_)
  rw [cntN_TQ h1.1.2.1, cntN_TQ p.1.2.2.2.2, h1.2.1.2.1, h1.2.2.1.2.1, h1.2.2.2.1.1.2, h1.2.2.2.1.2.1.2, h1.2.2.2.1.2.2.1.2, p.1.1 1 (by decide), p.1.1 0 (by decide), p.1.2.1 6 (by decide), p.1.2.1 7 (by decide), p.1.2.1 8 (by decide)]
  exact hQ2 ω2 ((RR_m h1 f2.g).mono (Nat.le_succ c))
theorem st_digest {X : Cx} {d c : Nat} {ω : Om} {Q1 : Option MV → Om → Prop}  (h : RR c ω) (hc : c < 900000)  (k : ∀ (z : Int) (ω1 : Om), (∀ Q2 : Option MV → Om → Prop, (∀ ω2, RR (c + 1) ω2 → Q2 (some (vL z)) ω2) → Mc X mX7_digest (d + 10) [vR 29] ω1 Q2) → Q1 (some (vL z)) ω1) : Mc X mX6_digest (d + 10) [vR 0] ω Q1 := by
  refine kX6_digest h.1.1 h.2.2.1.1 h.2.1.1 (fun ω1 p => k _ ω1 (fun Q2 hQ2 => ?_))
  have h1 := RR_c h p
  refine kX7_digest h1.mw h1.km h1.pm.1 (fun ω2 f2 => ?_)
  rw [h1.2.1.2.1, h1.2.2.1.2.1, h1.2.2.2.1.1.2, h1.2.2.2.1.2.1.2, h1.2.2.2.1.2.2.1.2, dgA_TQ h1.1.2.1 (ω1 1 1) (pg := ω1 8) (fun i i0 i1 => h1.2.1.2.2 i i0 i1) (cn := ω1 0 6) (cf := ω1 7) (fun i i0 i1 => h1.2.2.1.2.2 i i0 i1), dgA_TQ p.1.2.2.2.2 (ω1 1 1) (pg := ω 8) (fun i _ _ => by rw [p.1.1 8 (by decide)]) (cn := ω1 0 6) (cf := ω 7) (fun i _ _ => by rw [p.1.1 7 (by decide)]), p.1.1 1 (by decide), p.1.1 0 (by decide), p.1.2.1 6 (by decide), p.1.2.1 7 (by decide), p.1.2.1 8 (by decide)]
  exact hQ2 ω2 ((RR_m h1 f2.g).mono (Nat.le_succ c))
theorem st_letter {X : Cx} {d c : Nat} {ω : Om} {Q1 : Option MV → Om → Prop} {a : Int} (h : RR c ω) (hc : c < 900000)  (k : ∀ (z : Int) (ω1 : Om), (∀ Q2 : Option MV → Om → Prop, (∀ ω2, RR (c + 1) ω2 → Q2 (some (vI z)) ω2) → Mc X mX7_letter (d + 10) [vR 29, vI a] ω1 Q2) → Q1 (some (vI z)) ω1) : Mc X mX6_letter (d + 10) [vR 0, vI a] ω Q1 := by
  obtain ⟨hp, hp0, hp1⟩ := id h.2.1
  refine kX6_letter hp ?_
  have p40 := hp.1
  by_cases q : 32 ≤ a ∧ a ≤ 126
  · rw [if_pos q]
    by_cases q2 : ω 1 1 < 40
    · rw [if_pos q2]
      refine k _ _ (fun Q2 hQ2 => ?_)
      obtain ⟨ω1, hω1⟩ : ∃ w, w = up (up ω 8 (ω 1 1) a) 1 1 (ω 1 1 + 1) := ⟨_, rfl⟩
      rw [← hω1]
      have e0 : ω1 29 0 = ω 1 1 := by rw [hω1, up_k (by decide), up_k (by decide)]; exact hp0
      refine kX7_letter (by omega) ?_
      rw [if_pos q, if_pos (by omega), e0]
      have f1 : Fr [1, 8] ω ω1 := by rw [hω1]; exact (Fr.rf.up (by decide)).up (by decide)
      refine hQ2 _ (RR_x (h.mono (Nat.le_succ c)) (((f1.mono (by decide)).up (by decide)).up (by decide)) (fun i i1 i0 i15 => by rw [up_i i0, up_k (by decide), f1 29 (by decide)]) ⟨⟨?_, ?_⟩, ?_, ?_⟩ ?_)
      · rw [up_k (by decide), up_k (by decide), hω1, up_s]; omega
      · rw [up_k (by decide), up_k (by decide), hω1, up_s]
        intro i i0 i1
        rw [up_k (by decide), up_k (by decide), up_k (by decide)]
        by_cases e : i = ω 1 1
        · rw [e, up_s]; exact q
        · rw [up_i e]; exact hp.2 i i0 (by omega)
      · rw [up_s, up_k (by decide), up_k (by decide), hω1, up_s]
      · rw [up_k (by decide), up_k (by decide), hω1, up_s]
        intro i i0 i1
        by_cases e : i = ω 1 1
        · rw [e]; simp (config := {decide := true}) only [up_s, up_k]
        · simp (config := {decide := true}) only [up_k, up_i e]
          exact hp1 i i0 (by omega)
      · have r3 := h.2.2.1
        unfold R3 KC at r3 ⊢
        rw [up_k (by decide), up_k (by decide), up_i (by decide), up_k (by decide), up_f (by decide), up_f (by decide), up_f (by decide), up_f (by decide), f1 0 (by decide), f1 7 (by decide), f1 29 (by decide), f1 40 (by decide)]
        exact r3
    · rw [if_neg q2]
      refine k _ _ (fun Q2 hQ2 => kX7_letter (by omega) ?_)
      rw [if_pos q, if_neg (by omega)]
      exact hQ2 ω (h.mono (Nat.le_succ c))
  · rw [if_neg q]
    refine k _ _ (fun Q2 hQ2 => kX7_letter (by omega) ?_)
    rw [if_neg q]
    exact hQ2 ω (h.mono (Nat.le_succ c))
theorem st_blank {X : Cx} {d c : Nat} {ω : Om} {Q1 : Option MV → Om → Prop}  (h : RR c ω) (hc : c < 900000)  (k : ∀ (z : Int) (ω1 : Om), (∀ Q2 : Option MV → Om → Prop, (∀ ω2, RR (c + 1) ω2 → Q2 (some (vI z)) ω2) → Mc X mX7_blank (d + 10) [vR 29] ω1 Q2) → Q1 (some (vI z)) ω1) : Mc X mX6_blank (d + 10) [vR 0] ω Q1 := by
  obtain ⟨hp, hp0, hp1⟩ := id h.2.1
  refine kX6_blank (k _ _ (fun Q2 hQ2 => kX7_blank ?_))
  rw [up_k (by decide), hp0]
  refine hQ2 _ (RR_x (h.mono (Nat.le_succ c)) ((Fr.rf.up (by decide)).up (by decide)) (fun i i1 i0 i15 => by rw [up_i i0, up_k (by decide)]) ⟨⟨?_, ?_⟩, ?_, ?_⟩ ?_)
  · rw [up_k (by decide), up_s]; decide
  · rw [up_k (by decide), up_s]; intro i i0 i1; omega
  · rw [up_s, up_k (by decide), up_s]
  · rw [up_k (by decide), up_s]; intro i i0 i1; omega
  · have r3 := h.2.2.1
    unfold R3 KC at r3 ⊢
    rw [up_k (by decide), up_k (by decide), up_i (by decide), up_k (by decide), up_f (by decide), up_f (by decide), up_f (by decide), up_f (by decide)]
    exact r3
theorem st_contract {X : Cx} {d c : Nat} {ω : Om} {Q1 : Option MV → Om → Prop} {a : Int} (h : RR c ω) (hc : c < 900000)  (k : ∀ (z : Int) (ω1 : Om), (∀ Q2 : Option MV → Om → Prop, (∀ ω2, RR (c + 1) ω2 → Q2 (some (vI z)) ω2) → Mc X mX7_contract (d + 10) [vR 29, vI a] ω1 Q2) → Q1 (some (vI z)) ω1) : Mc X mX6_contract (d + 10) [vR 0, vI a] ω Q1 := by
  obtain ⟨hk, hk0, hk1⟩ := id h.2.2.1
  have k6 := hk.1
  refine kX6_contract hk ?_
  by_cases q : 1 ≤ a ∧ a ≤ 63
  · rw [if_pos q]
    by_cases q2 : ω 0 6 < 6
    · rw [if_pos q2]
      refine k _ _ (fun Q2 hQ2 => ?_)
      obtain ⟨ω1, hω1⟩ : ∃ w, w = up (up ω 7 (ω 0 6) a) 0 6 (ω 0 6 + 1) := ⟨_, rfl⟩
      rw [← hω1]
      have f1 : Fr [0, 7] ω ω1 := by rw [hω1]; exact (Fr.rf.up (by decide)).up (by decide)
      have e15 : ω1 29 15 = ω 0 6 := by rw [f1 29 (by decide)]; exact hk0
      have hkm := h.km
      refine kX7_contract (by unfold KM; rw [f1 29 (by decide), f1 40 (by decide)]; exact hkm) ?_
      rw [if_pos q, if_pos (by omega), e15]
      refine hQ2 _ (RR_x (h.mono (Nat.le_succ c)) (((f1.mono (by decide)).up (by decide)).up (by decide)) (fun i i1 i0 i15 => by rw [up_i i15, up_k (by decide), f1 29 (by decide)]) ?_ ⟨⟨?_, ?_⟩, ?_, ?_⟩)
      · have r2 := h.2.1
        unfold R2 PG at r2 ⊢
        rw [up_k (by decide), up_k (by decide), up_i (by decide), up_k (by decide), up_f (by decide), up_f (by decide), up_f (by decide), up_f (by decide), f1 1 (by decide), f1 8 (by decide), f1 29 (by decide), f1 30 (by decide)]
        exact r2
      · rw [up_k (by decide), up_k (by decide), hω1, up_s]; omega
      · rw [up_k (by decide), up_k (by decide), hω1, up_s]
        intro i i0 i1
        rw [up_k (by decide), up_k (by decide), up_k (by decide)]
        by_cases e : i = ω 0 6
        · rw [e, up_s]; exact q
        · rw [up_i e]; exact hk.2 i i0 (by omega)
      · rw [up_s, up_k (by decide), up_k (by decide), hω1, up_s]
      · rw [up_k (by decide), up_k (by decide), hω1, up_s]
        intro i i0 i1
        by_cases e : i = ω 0 6
        · rw [e]; simp (config := {decide := true}) only [up_s, up_k]
        · simp (config := {decide := true}) only [up_k, up_i e]
          exact hk1 i i0 (by omega)
    · rw [if_neg q2]
      refine k _ _ (fun Q2 hQ2 => kX7_contract h.km ?_)
      rw [if_pos q, if_neg (by omega)]
      exact hQ2 ω (h.mono (Nat.le_succ c))
  · rw [if_neg q]
    refine k _ _ (fun Q2 hQ2 => kX7_contract h.km ?_)
    rw [if_neg q]
    exact hQ2 ω (h.mono (Nat.le_succ c))
theorem RR_rd {c : Nat} {ω ω1 : Om} (h : RR c ω) (f1 : Fr [2, 9, 10, 11] ω ω1) : RR c ω1 := by
  refine RR_x h (f1.mono (by decide)) (fun i _ _ _ => by rw [f1 29 (by decide)]) ?_ ?_
  · have r2 := h.2.1
    unfold R2 PG at r2 ⊢
    rw [f1 1 (by decide), f1 8 (by decide), f1 29 (by decide), f1 30 (by decide)]
    exact r2
  · have r3 := h.2.2.1
    unfold R3 KC at r3 ⊢
    rw [f1 0 (by decide), f1 7 (by decide), f1 29 (by decide), f1 40 (by decide)]
    exact r3
theorem RR_pg {c : Nat} {ω ω1 : Om} (h : RR c ω) (f1 : Fr [2, 9, 10, 11] ω ω1) : (∀ s, rdF (ω1 30) (ω1 29 2) (ω1 29 0).toNat 0 s = rdF (ω 8) (ω 3 7) (ω 1 1).toNat 0 s) := by
  intro s
  have h2 := h.1.2.1.1
  rw [vw37] at h2
  rw [f1 29 (by decide), f1 30 (by decide), h.2.1.2.1, h2]
  exact rdF_cg _ 0 s (fun j _ hj => h.2.1.2.2 j (by omega) (by have := h.2.1.1.1; omega))
theorem st_fault {X : Cx} {d c : Nat} {ω : Om} {Q1 : Option MV → Om → Prop}  (h : RR c ω) (hc : c < 900000)  (k : ∀ (z : Int) (ω1 : Om), (∀ Q2 : Option MV → Om → Prop, (∀ ω2, RR (c + 1) ω2 → Q2 (some (vI z)) ω2) → Mc X mX7_fault (d + 10) [vR 29] ω1 Q2) → Q1 (some (vI z)) ω1) : Mc X mX6_fault (d + 10) [vR 0] ω Q1 := by
  refine kX6_fault h.1.1 h.2.1.1 (fun ω1 f1 => k _ ω1 (fun Q2 hQ2 => ?_))
  have h1 := RR_rd h f1
  refine kX7_fault h1.mw h1.pm (fun ω2 f2 => ?_)
  rw [RR_pg h f1]
  exact hQ2 ω2 ((RR_m h1 f2.g).mono (Nat.le_succ c))