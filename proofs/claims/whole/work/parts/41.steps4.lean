/-! moves are kept, and taken back -/
theorem vr_top (ω : Om) : TQ (vw 0 ω) (vr ω (ω 29 12)) := by
  have e : ∀ (k : Nat) (i : Int), k ≠ 14 → k ≠ 15 → vr ω (ω 29 12) k i = vw 0 ω k i := fun k i a b => by unfold vr; rw [if_neg a, if_neg b]
  have eM : ∀ i, rwM ω (ω 29 12) i = ω 33 i := fun i => by unfold rwM; rw [if_neg (by omega)]
  have eH : ∀ i, rwH ω (ω 29 12) i = ω 34 i := fun i => by unfold rwH; rw [if_neg (by omega)]
  refine ⟨e 3 7 (by decide) (by decide), e 3 8 (by decide) (by decide), fun t _ _ => ⟨e 12 t (by decide) (by decide), e 13 t (by decide) (by decide), ?_⟩, fun t m _ _ _ _ => ?_, fun b _ _ => e 17 b (by decide) (by decide), fun b k _ _ _ _ => e 18 _ (by decide) (by decide)⟩
  · show rwH ω (ω 29 12) t = _
    rw [eH, vw15, show (8 : Int) * 0 + t = t from by omega]
  · show rwM ω (ω 29 12) (t * 12 + m) = _
    rw [eM, vw14, show (96 : Int) * 0 + (t * 12 + m) = t * 12 + m from by omega]
theorem RR_mv {c : Nat} {ω ω1 ω2 : Om} {t m u : Int} (h : RR c ω) (ht : 0 ≤ t ∧ t < ω 3 7) (hm : 0 ≤ m ∧ m < 12) (hv : ¬ hb ω t m = -1) (hk : ω 6 6 < 20) (K : KeepP ω ω1 t m u) (V : MvP ω1 ω2 t m u) : RR (c + 1) ω2 := by
  have hM := h.mw
  obtain ⟨⟨hC, hT, h7⟩, r2, r3, r4, r5, r6⟩ := id h
  obtain ⟨⟨r41, r42⟩, ⟨⟨r43, r44⟩, r45⟩, ⟨⟨r46, r47⟩, r48⟩, r49, r4a⟩ := r4
  have n8 := hC.1.1
  have hn : ω 29 2 = ω 3 7 := hT.1
  obtain ⟨⟨fK, gK⟩, tK, ⟨k3, k39⟩, ⟨k66, k67, k6⟩, k28, krow, k26, k27⟩ := K
  obtain ⟨fV, v9, ⟨v7, v12, v17⟩, tV, ⟨v38, v38'⟩, v39, v39'⟩ := V
  have m29 : ω1 29 = ω 29 := fK 29 (by decide)
  have m33 : ω1 33 = ω 33 := fK 33 (by decide)
  have m34 : ω1 34 = ω 34 := fK 34 (by decide)
  have m38 : ω1 38 = ω 38 := fK 38 (by decide)
  have m39 : ω1 39 = ω 39 := fK 39 (by decide)
  have ev : vw 0 ω1 = vw 0 ω := vw_eq (by rw [m29]) (by rw [m29]) (fK 31 (by decide)) (fK 32 (by decide)) m33 m34 (fK 36 (by decide)) (fK 37 (by decide))
  rw [ev] at tV
  rw [m29, r42] at v12 v38 v38' v39 v39'
  rw [m29] at v17
  rw [m33] at v38
  rw [m34] at v39
  rw [m38] at v38'
  rw [m39] at v39'
  have g9 : ∀ i, i < 19 → i ≠ 7 → i ≠ 12 → i ≠ 17 → ω2 29 i = ω 29 i := fun i a b x y => by rw [v9 i a b x y, m29]
  have e2 : ω2 29 2 = ω 29 2 := g9 2 (by decide) (by decide) (by decide) (by decide)
  have e8 : ω2 29 8 = ω 29 8 := g9 8 (by decide) (by decide) (by decide) (by decide)
  have cc : ∀ x, x < 29 → ω2 x = ω1 x := fun x hx => fV x (by simp; omega)
  have kk : ∀ x, x < 33 → x ≠ 29 → x ≠ 3 → x ≠ 6 → x ≠ 14 → x ≠ 15 → x ≠ 26 → x ≠ 27 → x ≠ 28 → ω2 x = ω x := fun x hx a1 a2 a3 a4 a5 a6 a7 a8 => by rw [fV x (by simp; omega), fK x (by simp; omega)]
  have k31 : ω2 31 = ω 31 := kk 31 (by decide) (by decide) (by decide) (by decide) (by decide) (by decide) (by decide) (by decide) (by decide)
  have k32 : ω2 32 = ω 32 := kk 32 (by decide) (by decide) (by decide) (by decide) (by decide) (by decide) (by decide) (by decide) (by decide)
  have k36 : ω2 36 = ω 36 := by rw [fV 36 (by decide), fK 36 (by decide)]
  have k37 : ω2 37 = ω 37 := by rw [fV 37 (by decide), fK 37 (by decide)]
  have hTE : TE ω1 ω2 := ⟨cc 3 (by decide), cc 12 (by decide), cc 13 (by decide), cc 14 (by decide), cc 15 (by decide), cc 16 (by decide), cc 17 (by decide), cc 18 (by decide)⟩
  have hTm : TQ (mvT ω t m u) ω2 := tK.tr hTE.q
  have hrM : ∀ r i, 0 ≤ r → r ≤ ω 6 6 → 0 ≤ i → i < 96 → rwM ω2 r i = rwM ω r i := fun r i r0 r1 i0 i1 => by
    unfold rwM
    rw [v12, r42, if_pos (by omega)]
    by_cases e : r = ω 6 6
    · rw [e, v38 i i0 i1, if_neg (by omega)]
    · rw [if_pos (by omega)]; exact v38' _ (by omega)
  have hrH : ∀ r i, 0 ≤ r → r ≤ ω 6 6 → 0 ≤ i → i < 8 → rwH ω2 r i = rwH ω r i := fun r i r0 r1 i0 i1 => by
    unfold rwH
    rw [v12, r42, if_pos (by omega)]
    by_cases e : r = ω 6 6
    · rw [e, v39 i i0 i1, if_neg (by omega)]
    · rw [if_pos (by omega)]; exact v39' _ (by omega)
  have hFB : ∀ r, 0 ≤ r → r ≤ ω 6 6 → FB ω r → FB ω2 r := fun r r0 r1 hf a n a0 a1 n0 n1 => by
    rw [e2] at a1 ⊢
    rw [hrM r _ r0 r1 (by omega) (by omega)]
    exact hf a n a0 a1 n0 n1
  have hvr : ∀ r, 0 ≤ r → r ≤ ω 6 6 → TQ (vr ω r) (vr ω2 r) := fun r r0 r1 => vr_q (by rw [hn]; exact n8) (Or.inr ⟨e2, e8, k31, k32, k36, k37⟩) (fun i i0 i1 => hrM r i r0 r1 i0 i1) (fun i i0 i1 => hrH r i r0 r1 i0 i1)
  have h33 : ∀ a n, 0 ≤ a → a < ω 3 7 → 0 ≤ n → n < 12 → ω2 33 (a * 12 + n) = mvH (vw 0 ω) t m u a n := fun a n a0 a1 n0 n1 => by
    have w := tV.2.2.2.1 a n a0 (by rw [mvT_k _ _ _ _ (by decide) (by decide), vw37, hn]; exact a1) n0 n1
    rw [mvT_14 _ _ _ _ ⟨n0, n1⟩, vw14, show (96 : Int) * 0 + (a * 12 + n) = a * 12 + n from by omega] at w
    exact w
  have h34 : ∀ a, 0 ≤ a → a < ω 3 7 → ω2 34 a = mvB (vw 0 ω) t m u a := fun a a0 a1 => by
    have w := (tV.2.2.1 a a0 (by rw [mvT_k _ _ _ _ (by decide) (by decide), vw37, hn]; exact a1)).2.2
    rw [mvT_15, vw15, show (8 : Int) * 0 + a = a from by omega] at w
    exact w
  have h14 : ∀ a n, 0 ≤ a → a < ω 3 7 → 0 ≤ n → n < 12 → vw 0 ω 14 (a * 12 + n) = ω 33 (a * 12 + n) := fun a n _ _ _ _ => by rw [vw14, show (96 : Int) * 0 + (a * 12 + n) = a * 12 + n from by omega]
  have h15 : ∀ a, vw 0 ω 15 a = ω 34 a := fun a => by rw [vw15, show (8 : Int) * 0 + a = a from by omega]
  have hrowk : ∀ i, 0 ≤ i → i < 96 → rwM ω2 (ω 6 6) i = ω 33 i := fun i i0 i1 => by
    rw [hrM _ i r41.1 (Int.le_refl _) i0 i1]; unfold rwM; rw [r42, if_neg (by omega)]
  have hrowh : ∀ i, 0 ≤ i → i < 8 → rwH ω2 (ω 6 6) i = ω 34 i := fun i i0 i1 => by
    rw [hrH _ i r41.1 (Int.le_refl _) i0 i1]; unfold rwH; rw [r42, if_neg (by omega)]
  have htopM : ∀ i, rwM ω2 (ω 6 6 + 1) i = ω2 33 i := fun i => by unfold rwM; rw [v12, if_neg (by omega)]
  have htopH : ∀ i, rwH ω2 (ω 6 6 + 1) i = ω2 34 i := fun i => by unfold rwH; rw [v12, if_neg (by omega)]
  refine ⟨⟨CS_bump (WfT_TQ hTm (mvT_wf hC.1 ht hm hv)) ?_ ?_ ?_, (hTm.sy.tr (mvT_TQ hT u hm)).tr tV, v7⟩, ?_, ?_, ⟨?_, ?_, ?_, ?_⟩, ⟨?_, ?_, ?_⟩, ?_⟩
  · intro j j0 j1; rw [cc 15 (by decide)]; exact gK hC.2.2.2 j j0 j1
  · rw [cc 5 (by decide), fK 5 (by decide), cc 3 (by decide), k39]; have := hC.2.1.1; omega
  · rw [cc 6 (by decide), k6 13 (by decide) (by decide), cc 3 (by decide), k39]; have := hC.2.2.1.1; omega
  · unfold R2 PG at r2 ⊢
    rw [g9 0 (by decide) (by decide) (by decide) (by decide), kk 1 (by decide) (by decide) (by decide) (by decide) (by decide) (by decide) (by decide) (by decide) (by decide), kk 8 (by decide) (by decide) (by decide) (by decide) (by decide) (by decide) (by decide) (by decide) (by decide), kk 30 (by decide) (by decide) (by decide) (by decide) (by decide) (by decide) (by decide) (by decide) (by decide)]
    exact r2
  · unfold R3 KC at r3 ⊢
    rw [g9 15 (by decide) (by decide) (by decide) (by decide), kk 0 (by decide) (by decide) (by decide) (by decide) (by decide) (by decide) (by decide) (by decide) (by decide), kk 7 (by decide) (by decide) (by decide) (by decide) (by decide) (by decide) (by decide) (by decide) (by decide), fV 40 (by decide), fK 40 (by decide)]
    exact r3
  · rw [cc 6 (by decide), k66, v12]; omega
  · rw [cc 6 (by decide), k67, v17, r45]; omega
  · rw [cc 6 (by decide), k6 8 (by decide) (by decide), g9 18 (by decide) (by decide) (by decide) (by decide)]; exact ⟨⟨r46, by omega⟩, r48⟩
  · rw [cc 3 (by decide), k39]; omega
  · rw [e2, e8, cc 16 (by decide), fK 16 (by decide)]; exact r5.1
  · rw [e2, e8, cc 16 (by decide), fK 16 (by decide), fV 35 (by decide), fK 35 (by decide)]; exact r5.2.1
  · rw [v12]
    intro a n a0 a1 n0 n1
    rw [e2] at a1 ⊢
    rw [htopM, h33 a n a0 (by omega) (by omega) n1]
    have hold := FB_33 r5 (t := a) (n := n) a0 a1 n0 n1
    have holdt : n = m → hb (vw 0 ω) t m < 12 * ω 29 2 := fun e => by
      have w := (rd_0 hM.1 (c := t) (m := m) (by omega) hm).2.1
      rw [← w, show 12 * t + m = t * 12 + m from by omega]
      exact FB_33 r5 (t := t) (n := m) ht.1 (by omega) (by omega) hm.2
    unfold mvH
    rw [h14 a n a0 (by omega) (by omega) n1]
    split
    · rename_i e
      have ho := holdt e
      rw [← e, h14 a n a0 (by omega) (by omega) n1]
      rw [← e] at ho
      repeat' split
      all_goals omega
    · exact hold
  · intro r r0 r1
    rw [v12] at r1
    by_cases e : r = ω 6 6
    · rw [e, cc 28 (by decide), cc 27 (by decide), cc 26 (by decide), k28]
      refine ⟨hm, ⟨?_, ?_⟩, fun j j0 j1 => ?_, fun a a0 a1 => ?_⟩
      · have := hvr (ω 6 6) r41.1 (Int.le_refl _)
        refine WfT_TQ this (WfT_TQ ?_ hM.1)
        rw [← r42]
        exact vr_top ω
      · refine hFB _ r41.1 (Int.le_refl _) ?_
        rw [← r42]; exact r5.2.2
      · rw [(krow j j0 j1).2]
        rcases hds01 ω j m with q | q
        · exact Or.inl q
        · exact Or.inr (hds_lo hC.1 hm q).1
      · rw [e2, hn] at a1
        have w := rd_0 hM.1 (c := a) (m := m) (by omega) hm
        rw [hb_TQ hT, hds_TQ hT] at w
        rw [(krow a a0 (by omega)).1, (krow a a0 (by omega)).2, hrowk _ (by omega) (by omega), hrowh _ a0 (by omega), show a * 12 + m = 12 * a + m from by omega]
        refine ⟨w.2.1.symm, w.2.2.symm, fun n n0 n1 nn => ?_⟩
        rw [htopM, htopH, hrowk _ (by omega) (by omega), h33 a n a0 a1 n0 n1, h34 a a0 a1]
        refine ⟨?_, ?_⟩
        · unfold mvH; rw [if_neg nn, h14 a n a0 a1 n0 n1]
        · rw [(mvB_ok hM.1 hm ⟨a0, by rw [vw37, hn]; exact a1⟩).2 n n0 n1 nn, h15]
    · have r1' : r < ω 29 12 := by omega
      obtain ⟨a1, ⟨a2, a3⟩, a4, a5⟩ := r6 r r0 r1'
      rw [cc 28 (by decide), cc 27 (by decide), cc 26 (by decide), (k27 r (by omega)).2, (k27 r (by omega)).1]
      refine ⟨a1, ⟨WfT_TQ (hvr r r0 (by omega)) a2, hFB r r0 (by omega) a3⟩, a4, fun a a0 b1 => ?_⟩
      rw [e2] at b1
      obtain ⟨c1, c2, c3⟩ := a5 a a0 b1
      rw [k26 _ (by omega), hrM r _ r0 (by omega) (by omega) (by omega), hrH r _ r0 (by omega) a0 (by omega)]
      refine ⟨c1, c2, fun n n0 n1 nn => ?_⟩
      rw [hrM (r + 1) _ (by omega) (by omega) (by omega) (by omega), hrH (r + 1) _ (by omega) (by omega) a0 (by omega), hrM r _ r0 (by omega) (by omega) (by omega)]
      exact c3 n n0 n1 nn
theorem st_move {X : Cx} {d c : Nat} {ω : Om} {Q1 : Option MV → Om → Prop} {t m u : Int} (h : RR c ω) (hc : c < 900000)  (k : ∀ (z : Int) (ω1 : Om), (∀ Q2 : Option MV → Om → Prop, (∀ ω2, RR (c + 1) ω2 → Q2 (some (vI z)) ω2) → Mc X mX7_move (d + 10) [vR 29, vI t, vI m, vI u] ω1 Q2) → Q1 (some (vI z)) ω1) : Mc X mX6_move (d + 10) [vR 0, vI t, vI m, vI u] ω Q1 := by
  have hM := h.mw
  obtain ⟨⟨hC, hT, h7⟩, r2, r3, r4, r5, r6⟩ := id h
  obtain ⟨⟨r41, r42⟩, ⟨⟨r43, r44⟩, r45⟩, ⟨⟨r46, r47⟩, r48⟩, r49, r4a⟩ := r4
  have hn : ω 29 2 = ω 3 7 := hT.1
  refine kX6_move hC r41 ⟨r49, by omega⟩ ⟨r43, by omega⟩ ?_
  by_cases q : (0 ≤ t ∧ t < ω 3 7) ∧ 0 ≤ m ∧ m < 12
  · rw [if_pos q]
    by_cases q1 : whyT ω t m u = 0
    · rw [if_pos q1]
      by_cases q2 : ω 6 6 < 20
      · rw [if_pos q2]
        intro ω1 ω2 p1 K
        refine k _ ω2 (fun Q2 hQ2 => ?_)
        have h1 := RR_c h p1
        have m29 : ω2 29 = ω 29 := by rw [K.1.1 29 (by decide), p1.1.1 29 (by decide)]
        have ev : vw 0 ω2 = vw 0 ω := vw_eq (by rw [m29]) (by rw [m29]) (by rw [K.1.1 31 (by decide), p1.1.1 31 (by decide)]) (by rw [K.1.1 32 (by decide), p1.1.1 32 (by decide)]) (by rw [K.1.1 33 (by decide), p1.1.1 33 (by decide)]) (by rw [K.1.1 34 (by decide), p1.1.1 34 (by decide)]) (by rw [K.1.1 36 (by decide), p1.1.1 36 (by decide)]) (by rw [K.1.1 37 (by decide), p1.1.1 37 (by decide)])
        refine kX7_move ⟨by rw [ev]; exact hM.1, by rw [m29]; exact h7⟩ (by rw [m29, r42]; exact r41) (by rw [m29, r45]; omega) ?_
        rw [m29, ev, hn, if_pos q, whyT_TQ hT u q.2, if_pos q1, r42, if_pos q2]
        intro ω3 V
        have h37 : ω1 3 7 = ω 3 7 := p1.1.2.2.2.2.1
        have hw := why_0 q1
        refine hQ2 ω3 (RR_mv h1 (by rw [h37]; exact q.1) q.2 (by rw [hb_TQ p1.1.2.2.2.2]; exact hw.1) (by rw [p1.1.2.1 6 (by decide)]; exact q2) K V)
      · rw [if_neg q2]
        intro ω1 p1
        refine k _ ω1 (fun Q2 hQ2 => ?_)
        have h1 := RR_c h p1
        have m29 : ω1 29 = ω 29 := p1.1.1 29 (by decide)
        refine kX7_move h1.mw (by rw [m29, r42]; exact r41) (by rw [m29, r45]; omega) ?_
        rw [whyT_TQ h1.1.2.1 u q.2, whyT_TQ p1.1.2.2.2.2 u q.2, m29, hn, if_pos q, if_pos q1, r42, if_neg q2]
        exact fun ω2 p2 => hQ2 ω2 ((RR_m h1 (p2.x.mono (by decide)).g).mono (Nat.le_succ c))
    · rw [if_neg q1]
      intro ω1 p1
      refine k _ ω1 (fun Q2 hQ2 => ?_)
      have h1 := RR_c h p1
      have m29 : ω1 29 = ω 29 := p1.1.1 29 (by decide)
      refine kX7_move h1.mw (by rw [m29, r42]; exact r41) (by rw [m29, r45]; omega) ?_
      rw [whyT_TQ h1.1.2.1 u q.2, whyT_TQ p1.1.2.2.2.2 u q.2, m29, hn, if_pos q, if_neg q1]
      exact fun ω2 p2 => hQ2 ω2 ((RR_m h1 (p2.x.mono (by decide)).g).mono (Nat.le_succ c))
  · rw [if_neg q]
    refine k _ _ (fun Q2 hQ2 => kX7_move hM (by rw [r42]; exact r41) (by rw [r45]; omega) ?_)
    rw [hn, if_neg q]
    exact hQ2 ω (h.mono (Nat.le_succ c))
theorem st_undo {X : Cx} {d c : Nat} {ω : Om} {Q1 : Option MV → Om → Prop}  (h : RR c ω) (hc : c < 900000)  (k : ∀ (z : Int) (ω1 : Om), (∀ Q2 : Option MV → Om → Prop, (∀ ω2, RR (c + 1) ω2 → Q2 (some (vI z)) ω2) → Mc X mX7_undo (d + 10) [vR 29] ω1 Q2) → Q1 (some (vI z)) ω1) : Mc X mX6_undo (d + 10) [vR 0] ω Q1 := by
  have hM := h.mw
  obtain ⟨⟨hC, hT, h7⟩, r2, r3, r4, r5, r6⟩ := id h
  obtain ⟨⟨r41, r42⟩, ⟨⟨r43, r44⟩, r45⟩, ⟨⟨r46, r47⟩, r48⟩, r49, r4a⟩ := r4
  have n8 := hC.1.1
  have hn : ω 29 2 = ω 3 7 := hT.1
  have hB : ω 29 8 = ω 3 8 := hT.2.1
  refine kX6_undo (m := ω 28 (ω 6 6 - 1)) r41 (fun q => by have := (r6 (ω 6 6 - 1) (by omega) (by omega)).1; exact ⟨this.1, this.2, rfl⟩) ⟨r49, by omega⟩ ⟨r46, by omega⟩ ?_
  by_cases q : ω 6 6 ≤ 0
  · rw [if_pos q]
    refine k _ _ (fun Q2 hQ2 => kX7_undo (by rw [r42]; exact r41) (by rw [r48]; omega) ?_)
    rw [r42, if_pos q]
    exact hQ2 ω (h.mono (Nat.le_succ c))
  · rw [if_neg q]
    intro ω1 K
    refine k _ ω1 (fun Q2 hQ2 => ?_)
    obtain ⟨fK, ⟨k3, k39⟩, ⟨k66, k68, k6⟩, k14, k15⟩ := K
    have m29 : ω1 29 = ω 29 := fK 29 (by decide)
    refine kX7_undo (by rw [m29, r42]; exact r41) (by rw [m29, r48]; omega) ?_
    rw [m29, r42, if_neg q]
    intro ω2 V
    refine hQ2 ω2 ?_
    obtain ⟨fV, v9, ⟨v12, v18⟩, v33, v34⟩ := V
    rw [m29, r42] at v12 v33 v34
    rw [m29] at v18
    rw [fK 38 (by decide)] at v33
    rw [fK 39 (by decide)] at v34
    obtain ⟨⟨am0, am1⟩, ⟨aW, aF⟩, aj, ar⟩ := r6 (ω 6 6 - 1) (by omega) (by omega)
    obtain ⟨m, hmm⟩ : ∃ m, m = ω 28 (ω 6 6 - 1) := ⟨_, rfl⟩
    rw [← hmm] at am0 am1 aj ar k14 k15
    have g9 : ∀ i, i ≠ 12 → i ≠ 18 → ω2 29 i = ω 29 i := fun i a b => by rw [v9 i a b, m29]
    have e2 : ω2 29 2 = ω 29 2 := g9 2 (by decide) (by decide)
    have e8 : ω2 29 8 = ω 29 8 := g9 8 (by decide) (by decide)
    have cc : ∀ x, x < 29 → ω2 x = ω1 x := fun x hx => fV x (by simp; omega)
    have kk : ∀ x, x ≠ 3 → x ≠ 6 → x ≠ 14 → x ≠ 15 → x ≠ 29 → x ≠ 33 → x ≠ 34 → ω2 x = ω x := fun x a1 a2 a3 a4 a5 a6 a7 => by rw [fV x (by simp; omega), fK x (by simp; omega)]
    have K1 : ∀ x, x ∈ [0, 1, 5, 7, 8, 12, 13, 16, 17, 18, 26, 27, 28, 30, 31, 32, 35, 36, 37, 38, 39, 40] → ω2 x = ω x := fun x hx => kk x (by simp at hx; omega) (by simp at hx; omega) (by simp at hx; omega) (by simp at hx; omega) (by simp at hx; omega) (by simp at hx; omega) (by simp at hx; omega)
    have hrM : ∀ r i, 0 ≤ r → r ≤ ω 6 6 - 1 → 0 ≤ i → i < 96 → rwM ω2 r i = rwM ω r i := fun r i r0 r1 i0 i1 => by
      unfold rwM
      rw [v12, r42, if_pos (show r < ω 6 6 by omega)]
      by_cases e : r = ω 6 6 - 1
      · rw [e, if_neg (by omega), v33 i i0 i1]
      · rw [if_pos (by omega), K1 38 (by decide)]
    have hrH : ∀ r i, 0 ≤ r → r ≤ ω 6 6 - 1 → 0 ≤ i → i < 8 → rwH ω2 r i = rwH ω r i := fun r i r0 r1 i0 i1 => by
      unfold rwH
      rw [v12, r42, if_pos (show r < ω 6 6 by omega)]
      by_cases e : r = ω 6 6 - 1
      · rw [e, if_neg (by omega), v34 i i0 i1]
      · rw [if_pos (by omega), K1 39 (by decide)]
    have hFB : ∀ r, 0 ≤ r → r ≤ ω 6 6 - 1 → FB ω r → FB ω2 r := fun r r0 r1 hf a n a0 a1 n0 n1 => by
      rw [e2] at a1 ⊢
      rw [hrM r _ r0 r1 (by omega) (by omega)]
      exact hf a n a0 a1 n0 n1
    have hvr : ∀ r, 0 ≤ r → r ≤ ω 6 6 - 1 → TQ (vr ω r) (vr ω2 r) := fun r r0 r1 => vr_q (by rw [hn]; exact n8) (Or.inr ⟨e2, e8, K1 31 (by decide), K1 32 (by decide), K1 36 (by decide), K1 37 (by decide)⟩) (fun i i0 i1 => hrM r i r0 r1 i0 i1) (fun i i0 i1 => hrH r i r0 r1 i0 i1)
    have htM : ∀ i, rwM ω (ω 6 6) i = ω 33 i := fun i => by unfold rwM; rw [r42, if_neg (by omega)]
    have htH : ∀ i, rwH ω (ω 6 6) i = ω 34 i := fun i => by unfold rwH; rw [r42, if_neg (by omega)]
    have hpM : ∀ i, rwM ω (ω 6 6 - 1) i = ω 38 (96 * (ω 6 6 - 1) + i) := fun i => by unfold rwM; rw [r42, if_pos (by omega)]
    have hpH : ∀ i, rwH ω (ω 6 6 - 1) i = ω 39 (8 * (ω 6 6 - 1) + i) := fun i => by unfold rwH; rw [r42, if_pos (by omega)]
    rw [show ω 6 6 - 1 + 1 = ω 6 6 from by omega] at ar
    -- the trees agree
    have t14 : ∀ t n, 0 ≤ t → t < ω 3 7 → 0 ≤ n → n < 12 → ω1 14 (t * 12 + n) = ω2 33 (t * 12 + n) := fun t n t0 t1 n0 n1 => by
      obtain ⟨b1, b2, b3⟩ := ar t t0 (by omega)
      rw [k14 t n t0 (by omega) n0 n1, v33 _ (by omega) (by omega), ← hpM]
      by_cases e : n = m
      · rw [if_pos e, b1, e]
      · rw [if_neg e, ← (b3 n n0 n1 e).1, htM]
        have w := hT.2.2.2.1 t n t0 t1 n0 n1
        rw [vw14, show (96 : Int) * 0 + (t * 12 + n) = t * 12 + n from by omega] at w
        exact w.symm
    have hzok : ∀ j, 0 ≤ j → j < 8 → zb (ω 27 (ω 6 6 - 1)) j = 0 ∨ (zb (ω 27 (ω 6 6 - 1)) j = 1 ∧ m < 6) := fun j j0 j1 => by
      rcases zb01 (ω 27 (ω 6 6 - 1)) j with w | w
      · exact Or.inl w
      · exact Or.inr ⟨w, (aj j j0 j1).resolve_left (by omega)⟩
    have hg15 : ∀ j, 0 ≤ j → j < 8 → (0 ≤ ω1 15 j ∧ ω1 15 j < 64) ∧ ∀ n, 0 ≤ n → n < 12 → zb (ω1 15 j) n = if n = m then zb (ω 27 (ω 6 6 - 1)) j else zb (ω 15 j) n := fun j j0 j1 => by
      rw [k15 j j0 j1]
      exact zset_fin (hC.2.2.2 j j0 j1) ⟨am0, am1⟩ (hzok j j0 j1)
    have t15 : ∀ t, 0 ≤ t → t < ω 3 7 → ω1 15 t = ω2 34 t := fun t t0 t1 => by
      obtain ⟨b1, b2, b3⟩ := ar t t0 (by omega)
      have w := hg15 t t0 (by omega)
      have hR : 0 ≤ rwH ω (ω 6 6 - 1) t ∧ rwH ω (ω 6 6 - 1) t < 64 := aW.2.2.2.2.2.1 t t0 (by show t < ω 29 2; omega)
      rw [v34 t t0 (by omega), ← hpH]
      refine z64_ext w.1 hR (fun n n0 n1 => ?_)
      rw [w.2 n n0 (by omega)]
      by_cases e : n = m
      · rw [if_pos e, b2, e]
      · rw [if_neg e, ← (b3 n n0 (by omega) e).2, htH]
        have w2 := (hT.2.2.1 t t0 t1).2.2
        rw [vw15, show (8 : Int) * 0 + t = t from by omega] at w2
        rw [w2]
    have hTQ2 : TQ ω2 (vw 0 ω2) := by
      unfold TQ
      rw [vw37, vw38, e2, e8, cc 3 (by decide), k3 7 (by decide), k3 8 (by decide)]
      refine ⟨hn, hB, fun j j0 j1 => ?_, fun j n j0 j1 n0 n1 => ?_, fun x x0 x1 => ?_, fun x y x0 x1 y0 y1 => ?_⟩
      · have w := hT.2.2.1 j j0 j1
        rw [vw12, vw13] at w
        rw [vw12, vw13, vw15, K1 12 (by decide), K1 13 (by decide), K1 31 (by decide), K1 32 (by decide), cc 15 (by decide), show (8 : Int) * 0 + j = j from by omega, t15 j j0 j1]
        exact ⟨w.1, w.2.1, rfl⟩
      · rw [vw14, cc 14 (by decide), show (96 : Int) * 0 + (j * 12 + n) = j * 12 + n from by omega, t14 j n j0 j1 n0 n1]
      · have w := hT.2.2.2.2.1 x x0 x1
        rw [vw17] at w ⊢
        rw [K1 36 (by decide), K1 17 (by decide)]; exact w
      · rw [K1 17 (by decide)] at y1
        have w := hT.2.2.2.2.2 x y x0 x1 y0 y1
        rw [vw18] at w ⊢
        rw [K1 37 (by decide), K1 18 (by decide)]; exact w
    have hWv : WfT (vw 0 ω2) := by
      have w1 := WfT_TQ (hvr (ω 6 6 - 1) (by omega) (Int.le_refl _)) aW
      have w2 := vr_top ω2
      rw [v12] at w2
      exact WfT_TQ w2.sy w1
    refine ⟨⟨CS_bump (WfT_TQ hTQ2.sy hWv) ?_ ?_ ?_, hTQ2, by rw [g9 7 (by decide) (by decide)]; exact h7⟩, ?_, ?_, ⟨?_, ?_, ?_, ?_⟩, ⟨?_, ?_, ?_⟩, ?_⟩
    · intro j j0 j1; rw [cc 15 (by decide)]; exact (hg15 j j0 j1).1
    · rw [K1 5 (by decide), cc 3 (by decide), k39]; have := hC.2.1.1; omega
    · rw [cc 6 (by decide), k6 13 (by decide) (by decide), cc 3 (by decide), k39]; have := hC.2.2.1.1; omega
    · unfold R2 PG at r2 ⊢
      rw [g9 0 (by decide) (by decide), K1 1 (by decide), K1 8 (by decide), K1 30 (by decide)]
      exact r2
    · unfold R3 KC at r3 ⊢
      rw [g9 15 (by decide) (by decide), K1 0 (by decide), K1 7 (by decide), K1 40 (by decide)]
      exact r3
    · rw [cc 6 (by decide), k66, v12]; omega
    · rw [cc 6 (by decide), k6 7 (by decide) (by decide), g9 17 (by decide) (by decide)]; exact ⟨⟨r43, by omega⟩, r45⟩
    · rw [cc 6 (by decide), k68, v18, r48]; omega
    · rw [cc 3 (by decide), k39]; omega
    · rw [e2, e8, K1 16 (by decide)]; exact r5.1
    · rw [e2, e8, K1 16 (by decide), K1 35 (by decide)]; exact r5.2.1
    · rw [v12]; exact hFB _ (by omega) (Int.le_refl _) aF
    · intro r r0 r1
      rw [v12] at r1
      obtain ⟨a1, ⟨a2, a3⟩, a4, a5⟩ := r6 r r0 (by omega)
      rw [K1 28 (by decide), K1 27 (by decide), K1 26 (by decide)]
      refine ⟨a1, ⟨WfT_TQ (hvr r r0 (by omega)) a2, hFB r r0 (by omega) a3⟩, a4, fun a a0 b1 => ?_⟩
      rw [e2] at b1
      obtain ⟨c1, c2, c3⟩ := a5 a a0 b1
      rw [hrM r _ r0 (by omega) (by omega) (by omega), hrH r _ r0 (by omega) a0 (by omega)]
      refine ⟨c1, c2, fun n n0 n1 nn => ?_⟩
      rw [hrM (r + 1) _ (by omega) (by omega) (by omega) (by omega), hrH (r + 1) _ (by omega) (by omega) a0 (by omega), hrM r _ r0 (by omega) (by omega) (by omega)]
      exact c3 n n0 n1 nn