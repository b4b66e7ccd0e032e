/-! calls that change the tree -/
theorem CS_bump {ω : Om} (hW : WfT ω) (hG : GW ω) (h5 : ω 5 7 < ω 3 9) (h6 : ω 6 13 < ω 3 9) : CS ω := ⟨hW, ⟨by omega, fun q => by omega⟩, ⟨by omega, fun q => by omega⟩, hG⟩
theorem RR_0 {c : Nat} {ω : Om} (hC : CS ω) (hT : TQ ω (vw 0 ω)) (h7 : ω 29 7 = 0) (r2 : R2 ω) (r3 : R3 ω) (k6 : ω 6 6 = 0) (k12 : ω 29 12 = 0) (d7 : (0 ≤ ω 6 7 ∧ ω 6 7 ≤ c) ∧ ω 29 17 = ω 6 7) (d8 : (0 ≤ ω 6 8 ∧ ω 6 8 ≤ c) ∧ ω 29 18 = ω 6 8) (hv : 0 ≤ ω 3 9 ∧ ω 3 9 ≤ c)
    (r51 : ∀ t, 0 ≤ t → t < ω 29 2 → 0 ≤ ω 16 t ∧ ω 16 t ≤ ω 29 8) (r52 : ∀ b, 0 ≤ b → b < ω 29 8 → (0 ≤ ω 35 b ∧ ω 35 b < ω 29 2) ∧ ∀ t, 0 ≤ t → t < ω 29 2 → (ω 16 t ≤ b ↔ t ≤ ω 35 b)) (fb : ∀ t n, 0 ≤ t → t < ω 29 2 → 6 ≤ n → n < 12 → ω 33 (t * 12 + n) < 12 * ω 29 2) : RR c ω := by
  refine ⟨⟨hC, hT, h7⟩, r2, r3, ⟨⟨by omega, by rw [k6, k12]⟩, d7, d8, hv⟩, ⟨r51, r52, fun t n t0 t1 n0 n1 => ?_⟩, fun r r0 r1 => by omega⟩
  unfold rwM
  rw [if_neg (by omega)]
  exact fb t n t0 t1 n0 n1
theorem FB_33 {ω : Om} (h : R5 ω) {t n : Int} (t0 : 0 ≤ t) (t1 : t < ω 29 2) (n0 : 6 ≤ n) (n1 : n < 12) : ω 33 (t * 12 + n) < 12 * ω 29 2 := by
  have := h.2.2 t n t0 t1 n0 n1
  unfold rwM at this
  rw [if_neg (by omega)] at this
  exact this
theorem st_hollow {X : Cx} {d c : Nat} {ω : Om} {Q1 : Option MV → Om → Prop} {t b : Int} (h : RR c ω) (hc : c < 900000) (hb : b = 0 ∨ b = 1) (k : ∀ (z : Int) (ω1 : Om), (∀ Q2 : Option MV → Om → Prop, (∀ ω2, RR (c + 1) ω2 → Q2 (some (vI z)) ω2) → Mc X mX7_hollow (d + 10) [vR 29, vI t, vI b] ω1 Q2) → Q1 (some (vI z)) ω1) : Mc X mX6_hollow (d + 10) [vR 0, vI t, vI b] ω Q1 := by
  have hM := h.mw
  obtain ⟨⟨hC, hT, h7⟩, r2, r3, r4, r5, r6⟩ := id h
  obtain ⟨⟨r41, r42⟩, ⟨⟨r43, r44⟩, r45⟩, ⟨⟨r46, r47⟩, r48⟩, r49, r4a⟩ := r4
  have n8 := hC.1.1
  have hn : ω 29 2 = ω 3 7 := hT.1
  refine kX6_hollow hC hb ⟨r49, by omega⟩ ?_
  by_cases q : 0 ≤ t ∧ t < ω 3 7
  · rw [if_pos q]
    refine k _ _ (fun Q2 hQ2 => ?_)
    obtain ⟨ω1, hω1⟩ : ∃ w, w = up (up (up ω 13 t b) 3 9 (ω 3 9 + 1)) 6 6 0 := ⟨_, rfl⟩
    rw [← hω1]
    have f1 : Fr [3, 6, 13] ω ω1 := by rw [hω1]; exact ((Fr.rf.up (by decide)).up (by decide)).up (by decide)
    have ev : vw 0 ω1 = vw 0 ω := vw_eq (by rw [f1 29 (by decide)]) (by rw [f1 29 (by decide)]) (f1 31 (by decide)) (f1 32 (by decide)) (f1 33 (by decide)) (f1 34 (by decide)) (f1 36 (by decide)) (f1 37 (by decide))
    have e29 : ω1 29 = ω 29 := f1 29 (by decide)
    refine kX7_hollow ⟨by rw [ev]; exact hM.1, by rw [e29]; exact h7⟩ hb ?_
    rw [if_pos (by rw [e29, hn]; exact q), ev, hol_TQ hT]
    obtain ⟨ω2, hω2⟩ : ∃ w, w = up (up ω1 32 t b) 29 12 0 := ⟨_, rfl⟩
    rw [← hω2]
    have f2 : Fr [29, 32] ω1 ω2 := by rw [hω2]; exact (Fr.rf.up (by decide)).up (by decide)
    have g9 : ∀ i, i ≠ 12 → ω2 29 i = ω 29 i := fun i hi => by rw [hω2, up_i hi, up_k (by decide), e29]
    have g12 : ω2 29 12 = 0 := by rw [hω2, up_s]
    have c3 : ∀ i, i ≠ 9 → ω2 3 i = ω 3 i := fun i hi => by rw [f2 3 (by decide), hω1, up_k (by decide), up_i hi, up_k (by decide)]
    have c39 : ω2 3 9 = ω 3 9 + 1 := by rw [f2 3 (by decide), hω1, up_k (by decide), up_s]
    have c6 : ∀ i, i ≠ 6 → ω2 6 i = ω 6 i := fun i hi => by rw [f2 6 (by decide), hω1, up_i hi, up_k (by decide), up_k (by decide)]
    have c66 : ω2 6 6 = 0 := by rw [f2 6 (by decide), hω1, up_s]
    have c13 : ∀ j, ω2 13 j = if j = t then b else ω 13 j := fun j => by
      rw [f2 13 (by decide), hω1, up_k (by decide), up_k (by decide)]
      by_cases e : j = t
      · rw [e, up_s, if_pos rfl]
      · rw [up_i e, if_neg e]
    have c32 : ∀ j, ω2 32 j = if j = t then b else ω 32 j := fun j => by
      rw [hω2, up_k (by decide)]
      by_cases e : j = t
      · rw [e, up_s, if_pos rfl]
      · rw [up_i e, if_neg e, f1 32 (by decide)]
    have cc : ∀ x, x ≠ 3 → x ≠ 6 → x ≠ 13 → x ≠ 29 → x ≠ 32 → ω2 x = ω x := fun x a1 a2 a3 a4 a5 => by rw [f2 x (by simp; omega), f1 x (by simp; omega)]
    have c12 := cc 12 (by decide) (by decide) (by decide) (by decide) (by decide)
    have c14 := cc 14 (by decide) (by decide) (by decide) (by decide) (by decide)
    have c15 := cc 15 (by decide) (by decide) (by decide) (by decide) (by decide)
    have c16 := cc 16 (by decide) (by decide) (by decide) (by decide) (by decide)
    have c17 := cc 17 (by decide) (by decide) (by decide) (by decide) (by decide)
    have c18 := cc 18 (by decide) (by decide) (by decide) (by decide) (by decide)
    refine hQ2 ω2 (RR_0 (CS_bump ?_ ?_ ?_ ?_) ?_ ?_ ?_ ?_ c66 g12 ?_ ?_ ?_ ?_ ?_ ?_)
    · obtain ⟨w1, w2, w3, w4, w5, w6, w7, w8, w9, w10⟩ := hC.1
      unfold WfT
      rw [c3 7 (by decide), c3 8 (by decide), c12, c14, c15, c17, c18]
      refine ⟨w1, w2, w3, w4, w5, w6, w7, w8, w9, fun j j0 j1 => ?_⟩
      rw [c13]
      split
      · exact hb
      · exact w10 j j0 j1
    · intro j j0 j1; rw [c15]; exact hC.2.2.2 j j0 j1
    · rw [cc 5 (by decide) (by decide) (by decide) (by decide) (by decide), c39]; have := hC.2.1.1; omega
    · rw [c6 13 (by decide), c39]; have := hC.2.2.1.1; omega
    · unfold TQ
      rw [vw37, vw38, g9 2 (by decide), g9 8 (by decide), c3 7 (by decide), c3 8 (by decide)]
      refine ⟨hT.1, hT.2.1, fun j j0 j1 => ?_, fun j n j0 j1 n0 n1 => ?_, fun x x0 x1 => ?_, fun x y x0 x1 y0 y1 => ?_⟩
      · have := hT.2.2.1 j j0 j1
        rw [vw12, vw13, vw15] at this ⊢
        rw [cc 31 (by decide) (by decide) (by decide) (by decide) (by decide), cc 34 (by decide) (by decide) (by decide) (by decide) (by decide), c12, c15, c13, c32]
        refine ⟨this.1, ?_, this.2.2⟩
        rw [this.2.1]
      · have := hT.2.2.2.1 j n j0 j1 n0 n1
        rw [vw14] at this ⊢
        rw [cc 33 (by decide) (by decide) (by decide) (by decide) (by decide), c14]; exact this
      · have := hT.2.2.2.2.1 x x0 x1
        rw [vw17] at this ⊢
        rw [cc 36 (by decide) (by decide) (by decide) (by decide) (by decide), c17]; exact this
      · rw [c17] at y1
        have := hT.2.2.2.2.2 x y x0 x1 y0 y1
        rw [vw18] at this ⊢
        rw [cc 37 (by decide) (by decide) (by decide) (by decide) (by decide), c18]; exact this
    · rw [g9 7 (by decide)]; exact h7
    · unfold R2 PG at r2 ⊢
      rw [g9 0 (by decide), cc 1 (by decide) (by decide) (by decide) (by decide) (by decide), cc 8 (by decide) (by decide) (by decide) (by decide) (by decide), cc 30 (by decide) (by decide) (by decide) (by decide) (by decide)]; exact r2
    · unfold R3 KC at r3 ⊢
      rw [g9 15 (by decide), cc 0 (by decide) (by decide) (by decide) (by decide) (by decide), cc 7 (by decide) (by decide) (by decide) (by decide) (by decide), cc 40 (by decide) (by decide) (by decide) (by decide) (by decide)]; exact r3
    · rw [g9 17 (by decide), c6 7 (by decide)]; exact ⟨⟨r43, by omega⟩, r45⟩
    · rw [g9 18 (by decide), c6 8 (by decide)]; exact ⟨⟨r46, by omega⟩, r48⟩
    · rw [c39]; omega
    · rw [g9 2 (by decide), g9 8 (by decide), c16]; exact r5.1
    · rw [g9 2 (by decide), g9 8 (by decide), c16, cc 35 (by decide) (by decide) (by decide) (by decide) (by decide)]; exact r5.2.1
    · rw [g9 2 (by decide), cc 33 (by decide) (by decide) (by decide) (by decide) (by decide)]
      exact fun a n a0 a1 n0 n1 => FB_33 r5 a0 a1 n0 n1
  · rw [if_neg q]
    refine k _ _ (fun Q2 hQ2 => kX7_hollow hM hb ?_)
    rw [if_neg (by rw [hn]; exact q)]
    exact hQ2 ω (h.mono (Nat.le_succ c))
theorem st_drop {X : Cx} {d c : Nat} {ω : Om} {Q1 : Option MV → Om → Prop}  (h : RR c ω) (hc : c < 900000)  (k : ∀ (z : Int) (ω1 : Om), (∀ Q2 : Option MV → Om → Prop, (∀ ω2, RR (c + 1) ω2 → Q2 (some (vI z)) ω2) → Mc X mX7_drop (d + 10) [vR 29] ω1 Q2) → Q1 (some (vI z)) ω1) : Mc X mX6_drop (d + 10) [vR 0] ω Q1 := by
  have hM := h.mw
  obtain ⟨⟨hC, hT, h7⟩, r2, r3, r4, r5, r6⟩ := id h
  obtain ⟨⟨r41, r42⟩, ⟨⟨r43, r44⟩, r45⟩, ⟨⟨r46, r47⟩, r48⟩, r49, r4a⟩ := r4
  have n8 := hC.1.1
  have b40 := hC.1.2.1
  have hn : ω 29 2 = ω 3 7 := hT.1
  have hB : ω 29 8 = ω 3 8 := hT.2.1
  obtain ⟨n, hnn⟩ : ∃ n, n = ω 3 7 := ⟨_, rfl⟩
  obtain ⟨F, hFF⟩ : ∃ F, F = ω 16 (ω 3 7 - 1) := ⟨_, rfl⟩
  have hF0 : 0 < n → 0 ≤ F ∧ F ≤ ω 3 8 := fun q => by have := r5.1 (ω 3 7 - 1) (by omega) (by omega); rw [← hFF] at this; omega
  have hF35 : 0 < n → ∀ b, 0 ≤ b → b < ω 3 8 → (F ≤ b ↔ ω 35 b = n - 1) := fun q b b0 b1 => by
    have w := r5.2.1 b b0 (by omega)
    have w2 := w.2 (ω 3 7 - 1) (by omega) (by omega)
    rw [← hFF] at w2
    rw [w2]
    omega
  -- what lies at k
  have hv : ∀ j : Nat, (j : Int) < 12 * (n - 1) → hb ω ((j : Int) / 12) ((j : Int) % 12) = ω 33 j := fun j hj => by
    have w := (rd_0 hM.1 (c := (j : Int) / 12) (m := (j : Int) % 12) (by omega) (by omega)).2.1
    rw [hb_TQ hT] at w
    rw [← w, show 12 * ((j : Int) / 12) + (j : Int) % 12 = j from by omega]
  have hpt : ∀ j : Nat, (j : Int) < 12 * (n - 1) → ((if (j : Int) % 12 < 6 then F else 12 * (n - 1)) ≤ ω 33 j ↔ frm ω j = n - 1) := fun j hj => by
    have hrg := mem_rg hM (k := (j : Int)) (by omega)
    unfold frm
    by_cases q : (j : Int) % 12 < 6
    · rw [if_pos q]
      by_cases q1 : ω 33 j = -1
      · rw [if_pos q1, q1]; have := hF0 (by omega); omega
      · rw [if_neg q1, if_pos q]
        have w := (hM.1.2.2.2.1 ((j : Int) / 12) ((j : Int) % 12) (by omega) (by rw [vw37]; omega) (by omega) q).2
        rw [vw14, vw38, show (96 : Int) * 0 + ((j : Int) / 12 * 12 + (j : Int) % 12) = j from by omega] at w
        exact hF35 (by omega) _ (by omega) (by omega)
    · rw [if_neg q]
      by_cases q1 : ω 33 j = -1
      · rw [if_pos q1, q1]; omega
      · rw [if_neg q1, if_neg q]
        have w := FB_33 r5 (t := (j : Int) / 12) (n := (j : Int) % 12) (by omega) (by omega) (by omega) (by omega)
        rw [show (j : Int) / 12 * 12 + (j : Int) % 12 = j from by omega] at w
        omega
  have hel : elT ω = true ↔ elM ω (ω 29 2 - 1) (12 * (ω 29 2 - 1).toNat) = 1 := by
    unfold elT
    rw [anyB_iff, elM_any, hn, ← hFF, ← hnn]
    constructor
    · intro ⟨j, hj, hp⟩
      simp only [decide_eq_true_eq] at hp
      rw [hv j (by omega)] at hp
      exact ⟨j, hj, (hpt j (by omega)).1 hp⟩
    · intro ⟨j, hj, hp⟩
      refine ⟨j, hj, ?_⟩
      simp only [decide_eq_true_eq]
      rw [hv j (by omega)]
      exact (hpt j (by omega)).2 hp
  refine kX6_drop hC ⟨r49, by omega⟩ ?_
  by_cases q : ω 3 7 = 0 ∨ elT ω = true
  · rw [if_pos q]
    refine k _ _ (fun Q2 hQ2 => ?_)
    refine kX7_drop (F := F) hM (fun w => by have := hF0 (by omega); omega) (fun b x y w => by rw [hn, ← hnn]; exact (hF35 (by omega) b (by have := hF0 (by omega); omega) (by omega)).1 x) (fun w x y => by rw [hn, ← hnn] at y; have := hF0 (by omega); have := (hF35 (by omega) (F - 1) (by omega) (by omega)).2 y; omega) ?_
    rw [if_pos (by rw [← hel, hn]; exact q)]
    exact hQ2 ω (h.mono (Nat.le_succ c))
  · rw [if_neg q]
    refine k _ _ (fun Q2 hQ2 => ?_)
    have hn0 : 0 < n := by
      have : ¬ ω 3 7 = 0 := fun w => q (Or.inl w)
      omega
    have hne : ∀ j : Nat, (j : Int) < 12 * (n - 1) → ¬ (if (j : Int) % 12 < 6 then F else 12 * (n - 1)) ≤ ω 33 j := fun j hj w => by
      refine q (Or.inr ?_)
      rw [hel, elM_any, hn, ← hnn]
      exact ⟨j, by omega, (hpt j hj).1 w⟩
    have hF00 := hF0 hn0
    obtain ⟨ω1, hω1⟩ : ∃ w, w = up (up (up (up ω 3 8 (ω 16 (ω 3 7 - 1))) 3 7 (ω 3 7 - 1)) 3 9 (ω 3 9 + 1)) 6 6 0 := ⟨_, rfl⟩
    rw [← hω1]
    have f1 : Fr [3, 6] ω ω1 := by rw [hω1]; exact (((Fr.rf.up (by decide)).up (by decide)).up (by decide)).up (by decide)
    have e29 : ω1 29 = ω 29 := f1 29 (by decide)
    have ev : vw 0 ω1 = vw 0 ω := vw_eq (by rw [e29]) (by rw [e29]) (f1 31 (by decide)) (f1 32 (by decide)) (f1 33 (by decide)) (f1 34 (by decide)) (f1 36 (by decide)) (f1 37 (by decide))
    have hfrm : ∀ i, frm ω1 i = frm ω i := fun i => by unfold frm; rw [f1 33 (by decide), f1 35 (by decide)]
    have helM : ∀ x, elM ω1 (ω 29 2 - 1) x = elM ω (ω 29 2 - 1) x := fun x => by
      induction x with
      | zero => rfl
      | succ x ih => rw [elM, elM, ih, hfrm]
    refine kX7_drop (F := F) (ω := ω1) ⟨by rw [ev]; exact hM.1, by rw [e29]; exact h7⟩ (fun w => by rw [e29]; omega) (fun b x y w => by rw [e29] at y ⊢; rw [f1 35 (by decide), hn, ← hnn]; exact (hF35 hn0 b (by omega) (by omega)).1 x) (fun w x y => by rw [f1 35 (by decide), e29, hn, ← hnn] at y; have := (hF35 hn0 (F - 1) (by omega) (by omega)).2 y; omega) ?_
    rw [if_neg (by rw [e29, helM, ← hel, hn]; exact q)]
    intro ω2 hD
    rw [e29, hn]
    obtain ⟨f2, d2, d8, d12, d9⟩ := hD
    rw [e29, hn] at d2
    have g9 : ∀ i, i ≠ 2 → i ≠ 8 → i ≠ 12 → ω2 29 i = ω 29 i := fun i a b x => by rw [d9 i a b x, e29]
    have c37 : ω2 3 7 = n - 1 := by rw [f2 3 (by decide), hω1, up_k (by decide), up_i (by decide), up_s, hnn]
    have c38 : ω2 3 8 = F := by rw [f2 3 (by decide), hω1, up_k (by decide), up_i (by decide), up_i (by decide), up_s, hFF]
    have c39 : ω2 3 9 = ω 3 9 + 1 := by rw [f2 3 (by decide), hω1, up_k (by decide), up_s]
    have c6 : ∀ i, i ≠ 6 → ω2 6 i = ω 6 i := fun i hi => by rw [f2 6 (by decide), hω1, up_i hi, up_k (by decide), up_k (by decide), up_k (by decide)]
    have c66 : ω2 6 6 = 0 := by rw [f2 6 (by decide), hω1, up_s]
    have cc : ∀ x, x ≠ 3 → x ≠ 6 → x ≠ 29 → ω2 x = ω x := fun x a1 a2 a4 => by rw [f2 x (by simp; omega), f1 x (by simp; omega)]
    have c12 := cc 12 (by decide) (by decide) (by decide)
    have c13 := cc 13 (by decide) (by decide) (by decide)
    have c14 := cc 14 (by decide) (by decide) (by decide)
    have c15 := cc 15 (by decide) (by decide) (by decide)
    have c16 := cc 16 (by decide) (by decide) (by decide)
    have c17 := cc 17 (by decide) (by decide) (by decide)
    have c18 := cc 18 (by decide) (by decide) (by decide)
    have hval : ∀ t m, 0 ≤ t → t < n - 1 → 0 ≤ m → m < 12 → ω 14 (t * 12 + m) = ω 33 (t * 12 + m) := fun t m t0 t1 m0 m1 => by
      have := hT.2.2.2.1 t m t0 (by omega) m0 m1
      rw [vw14, show (96 : Int) * 0 + (t * 12 + m) = t * 12 + m from by omega] at this
      exact this.symm
    have hlow : ∀ t m, 0 ≤ t → t < n - 1 → 0 ≤ m → m < 12 → ¬ (if m < 6 then F else 12 * (n - 1)) ≤ ω 33 (t * 12 + m) := fun t m t0 t1 m0 m1 => by
      have := hne (t * 12 + m).toNat (by omega)
      rw [show (((t * 12 + m).toNat : Nat) : Int) = t * 12 + m from by omega, show (t * 12 + m) % 12 = m from by omega] at this
      exact this
    refine hQ2 ω2 (RR_0 (CS_bump ?_ ?_ ?_ ?_) ?_ ?_ ?_ ?_ c66 d12 ?_ ?_ ?_ ?_ ?_ ?_)
    · obtain ⟨w1, w2, w3, w4, w5, w6, w7, w8, w9, w10⟩ := hC.1
      unfold WfT
      rw [c37, c38, c12, c13, c14, c15, c17, c18]
      refine ⟨by omega, by omega, fun t t0 t1 => w3 t t0 (by omega), fun t m t0 t1 m0 m1 => ?_, fun t m t0 t1 m0 m1 => w5 t m t0 (by omega) m0 m1, fun t t0 t1 => w6 t t0 (by omega), fun t m t0 t1 m0 m1 => w7 t m t0 (by omega) m0 m1, fun b b0 b1 => w8 b b0 (by omega), fun b x b0 b1 => w9 b x b0 (by omega), fun t t0 t1 => w10 t t0 (by omega)⟩
      refine ⟨(w4 t m t0 (by omega) m0 m1).1, ?_⟩
      have := hlow t m t0 t1 m0 (by omega)
      rw [if_pos m1] at this
      rw [hval t m t0 t1 m0 (by omega)]
      omega
    · intro j j0 j1; rw [c15]; exact hC.2.2.2 j j0 j1
    · rw [cc 5 (by decide) (by decide) (by decide), c39]; have := hC.2.1.1; omega
    · rw [c6 13 (by decide), c39]; have := hC.2.2.1.1; omega
    · unfold TQ
      rw [vw37, vw38, d2, d8, c37, c38]
      refine ⟨by rw [hnn], rfl, fun j j0 j1 => ?_, fun j m j0 j1 m0 m1 => ?_, fun x x0 x1 => ?_, fun x y x0 x1 y0 y1 => ?_⟩
      · have := hT.2.2.1 j j0 (by omega)
        rw [vw12, vw13, vw15] at this ⊢
        rw [cc 31 (by decide) (by decide) (by decide), cc 32 (by decide) (by decide) (by decide), cc 34 (by decide) (by decide) (by decide), c12, c15, c13]
        exact this
      · have := hT.2.2.2.1 j m j0 (by omega) m0 m1
        rw [vw14] at this ⊢
        rw [cc 33 (by decide) (by decide) (by decide), c14]; exact this
      · have := hT.2.2.2.2.1 x x0 (by omega)
        rw [vw17] at this ⊢
        rw [cc 36 (by decide) (by decide) (by decide), c17]; exact this
      · rw [c17] at y1
        have := hT.2.2.2.2.2 x y x0 (by omega) y0 y1
        rw [vw18] at this ⊢
        rw [cc 37 (by decide) (by decide) (by decide), c18]; exact this
    · rw [g9 7 (by decide) (by decide) (by decide)]; exact h7
    · unfold R2 PG at r2 ⊢
      rw [g9 0 (by decide) (by decide) (by decide), cc 1 (by decide) (by decide) (by decide), cc 8 (by decide) (by decide) (by decide), cc 30 (by decide) (by decide) (by decide)]; exact r2
    · unfold R3 KC at r3 ⊢
      rw [g9 15 (by decide) (by decide) (by decide), cc 0 (by decide) (by decide) (by decide), cc 7 (by decide) (by decide) (by decide), cc 40 (by decide) (by decide) (by decide)]; exact r3
    · rw [g9 17 (by decide) (by decide) (by decide), c6 7 (by decide)]; exact ⟨⟨r43, by omega⟩, r45⟩
    · rw [g9 18 (by decide) (by decide) (by decide), c6 8 (by decide)]; exact ⟨⟨r46, by omega⟩, r48⟩
    · rw [c39]; omega
    · rw [d2, d8, c16]
      intro t t0 t1
      have w := r5.1 t t0 (by omega)
      refine ⟨w.1, ?_⟩
      by_cases w2 : ω 16 t ≤ F
      · exact w2
      · exfalso
        have w3 := (r5.2.1 F hF00.1 (by omega)).2 t t0 (by omega)
        have w4 := (hF35 hn0 F hF00.1 (by omega)).1 (Int.le_refl _)
        exact w2 (w3.2 (by omega))
    · rw [d2, d8, c16, cc 35 (by decide) (by decide) (by decide)]
      intro b b0 b1
      have w := r5.2.1 b b0 (by omega)
      have w2 := hF35 hn0 b b0 (by omega)
      refine ⟨⟨w.1.1, ?_⟩, fun t t0 t1 => w.2 t t0 (by omega)⟩
      have : ¬ ω 35 b = n - 1 := fun e => by have := w2.2 e; omega
      omega
    · rw [d2, cc 33 (by decide) (by decide) (by decide)]
      intro a m a0 a1 m0 m1
      have := hlow a m a0 (by omega) (by omega) m1
      rw [if_neg (by omega)] at this
      omega