/-! a class comes -/
theorem Arr_eq {f g : Int → Int} {l : List Int} (hf : Arr f l) (hg : Arr g l) {i : Int} (hi : 0 ≤ i ∧ i < l.length) : f i = g i := by rw [Arr_N hf hi, Arr_N hg hi]
theorem Arr_mem {f : Int → Int} {l : List Int} (hf : Arr f l) {i : Int} (hi : 0 ≤ i ∧ i < l.length) : f i ∈ l := by
  rw [Arr_N hf hi]
  unfold evN
  rw [List.getD_eq_getElem?_getD, List.getElem?_eq_getElem (by omega)]
  exact List.getElem_mem _
/-- a tree with a class more -/
theorem AcL_wf {ω ω' : Om} {s : RS} {ver : Int} (hW : WfT ω) (hR : RW (ω 3 7) s) (hn : ω 3 7 < 8) (hb : ω 3 8 + nMth s.2.2.1 ≤ 40) (h : AcL ω ω' s s.2.2.1 ver) : WfT ω' := by
  obtain ⟨w1, w2, w3, w4, w5, w6, w7, w8, w9, w10⟩ := hW
  obtain ⟨_, ⟨a7, a8, _⟩, ⟨b1, b2, b3, b4⟩, ⟨c1, c2⟩, d1, ⟨e1, e2⟩, g1, g2⟩ := h
  have hN := (nMth_R s.2.2.1).1
  have hix : ∀ b, ω 3 8 ≤ b → b < ω' 3 8 → ∃ m, m ∈ s.2.2.1 ∧ m < 6 ∧ b = ω 3 8 + bodyIx s.2.2.1 m := fun b x y => by
    obtain ⟨m, h1, h2, h3⟩ := bodyIx_sur (b := b - ω 3 8) hR.2.2.1 (by omega) (by omega)
    exact ⟨m, h1, h2, by omega⟩
  have hval : ∀ m, 0 ≤ m → m < 12 → m ∈ s.2.2.1 → ω' 14 (ω 3 7 * 12 + m) = if m < 6 then ω 3 8 + bodyIx s.2.2.1 m else 12 * ω 3 7 + m := fun m m0 m1 hm => by rw [d1 m m0 m1, if_pos hm]
  have hno : ∀ m, 0 ≤ m → m < 12 → m ∉ s.2.2.1 → ω' 14 (ω 3 7 * 12 + m) = -1 := fun m m0 m1 hm => by rw [d1 m m0 m1, if_neg hm]
  refine ⟨by omega, by omega, fun t t0 t1 => ?_, fun t m t0 t1 m0 m1 => ?_, fun t m t0 t1 m0 m1 => ?_, fun t t0 t1 => ?_, fun t m t0 t1 m0 m1 hz => ?_, fun b b0 b1 => ?_, fun b j b0 b1 j0 j1 => ?_, fun t t0 t1 => ?_⟩
  · by_cases e : t = ω 3 7
    · rw [e, b2]; have := hR.2.1; omega
    · rw [(b1 t e).1]; exact w3 t t0 (by omega)
  · by_cases e : t = ω 3 7
    · rw [e]
      by_cases hm : m ∈ s.2.2.1
      · have hx := bodyIx_lt s.2.2.1 m hm m1
        rw [hval m m0 (by omega) hm, if_pos m1]; omega
      · rw [hno m m0 (by omega) hm]; omega
    · rw [c1 t m t0 (by omega) m0 (by omega) e]; have := w4 t m t0 (by omega) m0 m1; omega
  · by_cases e : t = ω 3 7
    · rw [e]
      by_cases hm : m ∈ s.2.2.1
      · rw [hval m (by omega) m1 hm, if_neg (by omega)]; omega
      · rw [hno m (by omega) m1 hm]; omega
    · rw [c1 t m t0 (by omega) (by omega) m1 e]; exact w5 t m t0 (by omega) m0 m1
  · by_cases e : t = ω 3 7
    · rw [e]; exact e1
    · rw [c2 t t0 (by omega) e]; exact w6 t t0 (by omega)
  · by_cases e : t = ω 3 7
    · rw [e] at hz ⊢
      rw [e2 m m0 (by omega)] at hz
      by_cases hm : m ∈ s.2.2.1
      · have hx := bodyIx_lt s.2.2.1 m hm m1
        rw [hval m m0 (by omega) hm, if_pos m1]; omega
      · rw [if_neg hm] at hz; omega
    · rw [c2 t t0 (by omega) e] at hz
      rw [c1 t m t0 (by omega) m0 (by omega) e]; exact w7 t m t0 (by omega) m0 m1 hz
  · by_cases e : b < ω 3 8
    · rw [(g1 b b0 e).1]; exact w8 b b0 e
    · obtain ⟨m, h1, h2, h3⟩ := hix b (by omega) b1
      rw [h3, (g2 m h1 h2).1]; have := hR.2.2.2.2.2.2.1 m h1; omega
  · by_cases e : b < ω 3 8
    · have q := g1 b b0 e
      rw [q.1] at j1
      have := w8 b b0 e
      rw [q.2 j j0 (by omega)]; exact w9 b j b0 e j0 j1
    · obtain ⟨m, h1, h2, h3⟩ := hix b (by omega) b1
      have q := g2 m h1 h2
      rw [h3, q.1] at j1
      rw [h3]
      exact hR.2.2.2.2.2.2.2.2.1 m h1 _ (Arr_mem q.2 ⟨j0, j1⟩)
  · by_cases e : t = ω 3 7
    · rw [e]; exact Or.inl b3
    · rw [(b1 t e).2.1]; exact w10 t t0 (by omega)
theorem st_type {X : Cx} {d c : Nat} {ω : Om} {Q1 : Option MV → Om → Prop}  (h : RR c ω) (hc : c < 900000)  (k : ∀ (z : Int) (ω1 : Om), (∀ Q2 : Option MV → Om → Prop, (∀ ω2, RR (c + 1) ω2 → Q2 (some (vI z)) ω2) → Mc X mX7_type (d + 10) [vR 29] ω1 Q2) → Q1 (some (vI z)) ω1) : Mc X mX6_type (d + 10) [vR 0] ω Q1 := by
  have hM := h.mw
  obtain ⟨⟨hC, hT, h7⟩, r2, r3, r4, r5, r6⟩ := id h
  obtain ⟨⟨r41, r42⟩, ⟨⟨r43, r44⟩, r45⟩, ⟨⟨r46, r47⟩, r48⟩, r49, r4a⟩ := r4
  have n8 := hC.1.1
  have b40 := hC.1.2.1
  have hn : ω 29 2 = ω 3 7 := hT.1
  have hB : ω 29 8 = ω 3 8 := hT.2.1
  have htyE : ∀ ω1, Fr [2, 9, 10, 11] ω ω1 → tyO (ω1 30) (ω1 29 2) (ω1 29 0).toNat = tyO (ω 8) (ω 3 7) (ω 1 1).toNat := fun ω1 f1 => by unfold tyO; rw [RR_pg h f1]
  refine kX6_type hC r2.1 ⟨r49, by omega⟩ ?_ ?_ ?_
  · intro hty ω1 f1
    refine k _ ω1 (fun Q2 hQ2 => ?_)
    have h1 := RR_rd h f1
    refine kX7_type h1.mw h1.pm (fun _ ω2 f2 => hQ2 ω2 ((RR_m h1 f2.g).mono (Nat.le_succ c))) (fun s hs => ?_) (fun s hs => ?_)
    · rw [htyE ω1 f1, hty] at hs; cases hs
    · rw [htyE ω1 f1, hty] at hs; cases hs
  · intro s hty hroom ω1 f1
    refine k _ ω1 (fun Q2 hQ2 => ?_)
    have h1 := RR_rd h f1
    refine kX7_type h1.mw h1.pm (fun hs => ?_) (fun s' hs _ ω2 f2 => hQ2 ω2 ((RR_m h1 f2.g).mono (Nat.le_succ c))) (fun s' hs _ hr => ?_)
    · rw [htyE ω1 f1, hty] at hs; cases hs
    · rw [htyE ω1 f1, hty] at hs
      cases hs
      rw [f1 29 (by decide), hn, hB] at hr
      exact absurd hr hroom
  · intro s hty hRW hroom ω1 ω2 f1 hA
    refine k _ _ (fun Q2 hQ2 => ?_)
    have e3 : ω1 3 = ω 3 := f1 3 (by decide)
    have hTE : TE ω ω1 := tree_fr f1 rfl
    have hwf2 : WfT ω2 := AcL_wf (WfT_TQ hTE.q hC.1) (by rw [e3]; exact hRW) (by rw [e3]; exact hroom.1) (by rw [e3]; exact hroom.2) hA
    have hhid := AcL_hid hRW hA
    obtain ⟨fA, ⟨a7, a8, a9⟩, ⟨b1, b2, b3, b4⟩, ⟨c1, c2⟩, d1, ⟨e1, e2⟩, g1, g2⟩ := hA
    rw [e3] at a7 a8 a9 b1 b2 b3 b4 c1 c2 d1 e1 e2 g1 g2 hhid
    obtain ⟨ω3, hω3⟩ : ∃ w, w = up (up ω2 1 1 0) 6 6 0 := ⟨_, rfl⟩
    rw [← hω3]
    have f3 : Fr [1, 6] ω2 ω3 := by rw [hω3]; exact (Fr.rf.up (by decide)).up (by decide)
    have fm : ∀ x, 29 ≤ x → ω3 x = ω x := fun x hx => by rw [f3 x (by simp; omega), fA x (by simp; omega), f1 x (by simp; omega)]
    have hty3 : tyO (ω3 30) (ω3 29 2) (ω3 29 0).toNat = some s := by
      rw [← hty, ← htyE ω1 f1, fm 30 (by decide), fm 29 (by decide), f1 30 (by decide), f1 29 (by decide)]
    have ev : vw 0 ω3 = vw 0 ω := vw_eq (by rw [fm 29 (by decide)]) (by rw [fm 29 (by decide)]) (fm 31 (by decide)) (fm 32 (by decide)) (fm 33 (by decide)) (fm 34 (by decide)) (fm 36 (by decide)) (fm 37 (by decide))
    have hpm := h.pm
    refine kX7_type ⟨by rw [ev]; exact hM.1, by rw [fm 29 (by decide)]; exact h7⟩ (by unfold PM; rw [fm 29 (by decide), fm 30 (by decide)]; exact hpm) (fun hs => ?_) (fun s' hs hr => ?_) (fun s' hs _ _ ω4 hY => ?_)
    · rw [hty3] at hs; cases hs
    · rw [hty3] at hs
      cases hs
      rw [fm 29 (by decide), hn, hB] at hr
      exact absurd hroom hr
    · rw [hty3] at hs
      cases hs
      unfold TyP at hY
      rw [fm 29 (by decide), hn, hB] at hY
      rw [fm 29 (by decide), hn]
      obtain ⟨y0, ⟨y2, y8, y12, yp, y7, y15, y17, y18⟩, ⟨z1, z2, z3, z4⟩, ⟨x1, x2⟩, ⟨u1, u2⟩, ⟨v1, v2⟩, v3⟩ := hY
      have cc : ∀ x, x < 29 → ω4 x = ω3 x := fun x hx => y0 x (by simp; omega)
      have q : ∀ x, x < 29 → x ≠ 1 → x ≠ 6 → ω4 x = ω2 x := fun x hx a b => by rw [cc x hx, f3 x (by simp; omega)]
      have c66 : ω4 6 6 = 0 := by rw [cc 6 (by decide), hω3, up_s]
      have c6 : ∀ i, i ≠ 6 → ω4 6 i = ω 6 i := fun i hi => by rw [cc 6 (by decide), hω3, up_i hi, up_k (by decide), fA 6 (by decide), f1 6 (by decide)]
      have c3 := q 3 (by decide) (by decide) (by decide)
      have c12 := q 12 (by decide) (by decide) (by decide)
      have c13 := q 13 (by decide) (by decide) (by decide)
      have c14 := q 14 (by decide) (by decide) (by decide)
      have c15 := q 15 (by decide) (by decide) (by decide)
      have c16 := q 16 (by decide) (by decide) (by decide)
      have c17 := q 17 (by decide) (by decide) (by decide)
      have c18 := q 18 (by decide) (by decide) (by decide)
      have hTE4 : TE ω2 ω4 := ⟨c3, c12, c13, c14, c15, c16, c17, c18⟩
      have hN := (nMth_R s.2.2.1).1
      have hix : ∀ b, ω 3 8 ≤ b → b < ω 3 8 + nMth s.2.2.1 → ∃ m, m ∈ s.2.2.1 ∧ m < 6 ∧ b = ω 3 8 + bodyIx s.2.2.1 m := fun b x y => by
        obtain ⟨m, h1, h2, h3⟩ := bodyIx_sur (b := b - ω 3 8) hRW.2.2.1 (by omega) (by omega)
        exact ⟨m, h1, h2, by omega⟩
      have k31 : ω3 31 = ω 31 := fm 31 (by decide)
      refine hQ2 ω4 (RR_0 (CS_bump (WfT_TQ hTE4.q hwf2) ?_ ?_ ?_) ?_ ?_ ?_ ?_ c66 y12 ?_ ?_ ?_ ?_ ?_ ?_)
      · intro j j0 j1
        rw [c15]
        by_cases e : j = ω 3 7
        · rw [e]; exact e1
        · rw [c2 j j0 j1 e, f1 15 (by decide)]; exact hC.2.2.2 j j0 j1
      · rw [q 5 (by decide) (by decide) (by decide), fA 5 (by decide), f1 5 (by decide), c3, a9]; have := hC.2.1.1; omega
      · rw [c6 13 (by decide), c3, a9]; have := hC.2.2.1.1; omega
      · unfold TQ
        rw [vw37, vw38, y2, y8, c3, a7, a8]
        refine ⟨rfl, rfl, fun j j0 j1 => ?_, fun j m j0 j1 m0 m1 => ?_, fun b b0 b1' => ?_, fun b y b0 b1' y0' y1' => ?_⟩
        · rw [vw12, vw13, vw15, c12, c13, c15, show (8 : Int) * 0 + j = j from by omega]
          by_cases e : j = ω 3 7
          · rw [e, z2, z3, z4, b2, b3, hhid]; exact ⟨rfl, rfl, rfl⟩
          · have w := hT.2.2.1 j j0 (by omega)
            rw [vw12, vw13, vw15, show (8 : Int) * 0 + j = j from by omega] at w
            rw [(z1 j e).1, (z1 j e).2.1, (z1 j e).2.2, (b1 j e).1, (b1 j e).2.1, c2 j j0 (by omega) e, fm 31 (by decide), fm 32 (by decide), fm 34 (by decide), f1 12 (by decide), f1 13 (by decide), f1 15 (by decide)]
            exact w
        · rw [vw14, c14, show (96 : Int) * 0 + (j * 12 + m) = j * 12 + m from by omega]
          by_cases e : j = ω 3 7
          · rw [e, show ω 3 7 * 12 + m = 12 * ω 3 7 + m from by omega, x1 m m0 m1, show 12 * ω 3 7 + m = ω 3 7 * 12 + m from by omega, d1 m m0 m1]
            rfl
          · have w := hT.2.2.2.1 j m j0 (by omega) m0 m1
            rw [vw14, show (96 : Int) * 0 + (j * 12 + m) = j * 12 + m from by omega] at w
            rw [x2 _ (by omega), c1 j m j0 (by omega) m0 m1 e, fm 33 (by decide), f1 14 (by decide)]
            exact w
        · rw [vw17, c17]
          by_cases e : b < ω 3 8
          · have w := hT.2.2.2.2.1 b b0 e
            rw [vw17] at w
            rw [v1 b e, (g1 b b0 e).1, fm 36 (by decide), f1 17 (by decide)]
            exact w
          · obtain ⟨m, h1, h2, h3⟩ := hix b (by omega) b1'
            rw [h3, (v3 m h1 h2).1, (g2 m h1 h2).1]
        · rw [c17] at y1'
          rw [vw18, c18]
          by_cases e : b < ω 3 8
          · rw [(g1 b b0 e).1, f1 17 (by decide)] at y1'
            have w := hT.2.2.2.2.2 b y b0 e y0' y1'
            have w6 := hC.1.2.2.2.2.2.2.2.1 b b0 e
            rw [vw18] at w
            rw [v2 _ (by omega), (g1 b b0 e).2 y y0' (by omega), fm 37 (by decide), f1 18 (by decide)]
            exact w
          · obtain ⟨m, h1, h2, h3⟩ := hix b (by omega) b1'
            have w1 := v3 m h1 h2
            have w2 := g2 m h1 h2
            rw [h3, w2.1] at y1'
            rw [h3]
            have := Arr_eq w1.2 w2.2 ⟨y0', y1'⟩
            rw [← this, show 6 * (ω 3 8 + bodyIx s.2.2.1 m) + y = (ω 3 8 + bodyIx s.2.2.1 m) * 6 + y from by omega]
      · rw [y7]; exact h7
      · refine ⟨⟨?_, ?_⟩, ?_, ?_⟩
        · rw [cc 1 (by decide), hω3, up_k (by decide), up_s]; decide
        · rw [cc 1 (by decide), hω3, up_k (by decide), up_s]; intro i i0 i1; omega
        · rw [yp, cc 1 (by decide), hω3, up_k (by decide), up_s]
        · rw [cc 1 (by decide), hω3, up_k (by decide), up_s]; intro i i0 i1; omega
      · unfold R3 KC at r3 ⊢
        rw [y15, q 0 (by decide) (by decide) (by decide), q 7 (by decide) (by decide) (by decide), y0 40 (by decide), fm 40 (by decide), fA 0 (by decide), f1 0 (by decide), fA 7 (by decide), f1 7 (by decide)]
        exact r3
      · rw [y17, c6 7 (by decide)]; exact ⟨⟨r43, by omega⟩, r45⟩
      · rw [y18, c6 8 (by decide)]; exact ⟨⟨r46, by omega⟩, r48⟩
      · rw [c3, a9]; omega
      · rw [y2, y8, c16]
        intro t t0 t1
        by_cases e : t = ω 3 7
        · rw [e, b4]; omega
        · rw [(b1 t e).2.2, f1 16 (by decide)]
          have := r5.1 t t0 (by omega)
          omega
      · rw [y2, y8, c16]
        intro b b0 b1'
        by_cases e : b < ω 3 8
        · have w := r5.2.1 b b0 (by omega)
          rw [u2 b e, fm 35 (by decide)]
          refine ⟨by omega, fun t t0 t1 => ?_⟩
          by_cases e' : t = ω 3 7
          · rw [e', b4]; omega
          · rw [(b1 t e').2.2, f1 16 (by decide)]; exact w.2 t t0 (by omega)
        · have w := u1 (b - ω 3 8) (by omega) (by omega)
          rw [show ω 3 8 + (b - ω 3 8) = b from by omega] at w
          rw [w]
          refine ⟨by omega, fun t t0 t1 => ?_⟩
          by_cases e' : t = ω 3 7
          · rw [e', b4]; omega
          · rw [(b1 t e').2.2, f1 16 (by decide)]
            have := r5.1 t t0 (by omega)
            omega
      · rw [y2]
        intro t m t0 t1 m0 m1
        by_cases e : t = ω 3 7
        · rw [e, show ω 3 7 * 12 + m = 12 * ω 3 7 + m from by omega, x1 m (by omega) m1]
          unfold mvl
          split
          · rw [if_neg (by omega)]; omega
          · omega
        · rw [x2 _ (by omega), fm 33 (by decide)]
          have := FB_33 r5 (t := t) (n := m) t0 (by omega) m0 m1
          omega