/-! the class and the model, side by side -/
/-- the model's cells that calls which only look leave -/
def MG (ω ω' : Om) : Prop := (∀ k, k < 29 → ω' k = ω k) ∧ (ω' 30 = ω 30 ∧ ω' 31 = ω 31 ∧ ω' 32 = ω 32 ∧ ω' 35 = ω 35 ∧ ω' 36 = ω 36 ∧ ω' 37 = ω 37 ∧ ω' 38 = ω 38 ∧ ω' 39 = ω 39 ∧ ω' 40 = ω 40) ∧ (∀ i, i < 19 → i ≠ 7 → ω' 29 i = ω 29 i) ∧ (ω 29 7 = 0 → ω' 29 7 = 0) ∧ (∀ i, i < 96 → ω' 33 i = ω 33 i) ∧ ∀ i, i < 8 → ω' 34 i = ω 34 i
theorem MPx.g {a b : Om} (h : MPx LA a b) : MG a b := by
  obtain ⟨f, f9, f7, f33, f34⟩ := h
  refine ⟨fun k hk => f k (fun q => ?_), ⟨f 30 (by decide), f 31 (by decide), f 32 (by decide), f 35 (by decide), f 36 (by decide), f 37 (by decide), f 38 (by decide), f 39 (by decide), f 40 (by decide)⟩, fun i hi h7 => f9 i (fun q => ?_), f7, f33, f34⟩
  · simp only [List.mem_cons, List.not_mem_nil, or_false] at q; omega
  · simp only [LA, List.mem_cons, List.not_mem_nil, or_false] at q; omega
theorem RF.g {a b : Om} (h : RF a b) : MG a b := by
  obtain ⟨f, f9⟩ := h
  refine ⟨fun k hk => f k (fun q => ?_), ⟨f 30 (by decide), f 31 (by decide), f 32 (by decide), f 35 (by decide), f 36 (by decide), f 37 (by decide), f 38 (by decide), f 39 (by decide), f 40 (by decide)⟩, fun i hi h7 => f9 i (by omega) (by omega) (by omega) (by omega) (by omega) (by omega), fun q => by rw [f9 7 (by decide) (by decide) (by decide) (by decide) (by decide) (by decide)]; exact q, fun i _ => by rw [f 33 (by decide)], fun i _ => by rw [f 34 (by decide)]⟩
  simp only [List.mem_cons, List.not_mem_nil, or_false] at q; omega
theorem MG.rf (a : Om) : MG a a := ⟨fun _ _ => rfl, ⟨rfl, rfl, rfl, rfl, rfl, rfl, rfl, rfl, rfl⟩, fun _ _ _ => rfl, id, fun _ _ => rfl, fun _ _ => rfl⟩
theorem CS_cg {ω ω' : Om} (h : ∀ k, k < 29 → ω' k = ω k) (hC : CS ω) : CS ω' := by
  have hT : TQ ω ω' := (TE.q ⟨h 3 (by decide), h 12 (by decide), h 13 (by decide), h 14 (by decide), h 15 (by decide), h 16 (by decide), h 17 (by decide), h 18 (by decide)⟩)
  refine ⟨WfT_TQ hT hC.1, ⟨?_, fun q => ?_⟩, ?_, fun t t0 t1 => ?_⟩
  · rw [h 5 (by decide), h 3 (by decide)]; exact hC.2.1.1
  · rw [h 5 (by decide), h 3 (by decide)] at q
    exact SVv_fr (SVv_TQ hT (hC.2.1.2 q)) (h 23 (by decide)) (h 24 (by decide)) (h 25 (by decide)) (h 5 (by decide))
  · exact MC_TQ hT (fun i _ => by rw [h 6 (by decide)]) (by rw [h 3 (by decide)]) hC.2.2.1
  · rw [h 15 (by decide)]; exact hC.2.2.2 t t0 t1
/-- row r of the moves that are kept; behind the last one: what is -/
def rwM (ω : Om) (r i : Int) : Int := if r < ω 29 12 then ω 38 (96 * r + i) else ω 33 i
def rwH (ω : Om) (r t : Int) : Int := if r < ω 29 12 then ω 39 (8 * r + t) else ω 34 t
def vr (ω : Om) (r : Int) : Om := fun k i => if k = 14 then rwM ω r i else if k = 15 then rwH ω r i else vw 0 ω k i
def FB (ω : Om) (r : Int) : Prop := ∀ t n, 0 ≤ t → t < ω 29 2 → 6 ≤ n → n < 12 → rwM ω r (t * 12 + n) < 12 * ω 29 2
def R1 (ω : Om) : Prop := CS ω ∧ TQ ω (vw 0 ω) ∧ ω 29 7 = 0
def R2 (ω : Om) : Prop := PG ω ∧ ω 29 0 = ω 1 1 ∧ ∀ i, 0 ≤ i → i < ω 1 1 → ω 30 i = ω 8 i
def R3 (ω : Om) : Prop := KC ω ∧ ω 29 15 = ω 0 6 ∧ ∀ i, 0 ≤ i → i < ω 0 6 → ω 40 i = ω 7 i
def R4 (c : Nat) (ω : Om) : Prop := ((0 ≤ ω 6 6 ∧ ω 6 6 ≤ 20) ∧ ω 29 12 = ω 6 6) ∧ ((0 ≤ ω 6 7 ∧ ω 6 7 ≤ c) ∧ ω 29 17 = ω 6 7) ∧ ((0 ≤ ω 6 8 ∧ ω 6 8 ≤ c) ∧ ω 29 18 = ω 6 8) ∧ 0 ≤ ω 3 9 ∧ ω 3 9 ≤ c
def R5 (ω : Om) : Prop := (∀ t, 0 ≤ t → t < ω 29 2 → 0 ≤ ω 16 t ∧ ω 16 t ≤ ω 29 8) ∧ (∀ b, 0 ≤ b → b < ω 29 8 → (0 ≤ ω 35 b ∧ ω 35 b < ω 29 2) ∧ ∀ t, 0 ≤ t → t < ω 29 2 → (ω 16 t ≤ b ↔ t ≤ ω 35 b)) ∧ FB ω (ω 29 12)
def R6 (ω : Om) : Prop := ∀ r, 0 ≤ r → r < ω 29 12 → (0 ≤ ω 28 r ∧ ω 28 r < 12) ∧ (WfT (vr ω r) ∧ FB ω r) ∧ (∀ j, 0 ≤ j → j < 8 → zb (ω 27 r) j = 0 ∨ ω 28 r < 6) ∧
  ∀ t, 0 ≤ t → t < ω 29 2 → ω 26 (r * 8 + t) = rwM ω r (t * 12 + ω 28 r) ∧ zb (ω 27 r) t = zb (rwH ω r t) (ω 28 r) ∧ ∀ n, 0 ≤ n → n < 12 → n ≠ ω 28 r → rwM ω (r + 1) (t * 12 + n) = rwM ω r (t * 12 + n) ∧ zb (rwH ω (r + 1) t) n = zb (rwH ω r t) n
/-- behind c calls -/
def RR (c : Nat) (ω : Om) : Prop := R1 ω ∧ R2 ω ∧ R3 ω ∧ R4 c ω ∧ R5 ω ∧ R6 ω
theorem RR.mw {c : Nat} {ω : Om} (h : RR c ω) : MW ω := ⟨WfT_TQ h.1.2.1 h.1.1.1, h.1.2.2⟩
theorem RR.pm {c : Nat} {ω : Om} (h : RR c ω) : PM ω := by
  obtain ⟨_, ⟨hp, e0, e30⟩, _⟩ := h
  refine ⟨by rw [e0]; exact hp.1, fun i i0 i1 => ?_⟩
  rw [e0] at i1
  rw [e30 i i0 i1]
  exact hp.2 i i0 i1
theorem RR.km {c : Nat} {ω : Om} (h : RR c ω) : KM ω := by
  obtain ⟨_, _, ⟨hk, e0, e40⟩, _⟩ := h
  refine ⟨by rw [e0]; exact hk.1, fun i i0 i1 => ?_⟩
  rw [e0] at i1
  rw [e40 i i0 i1]
  exact hk.2 i i0 i1
theorem R4.mono {c c' : Nat} {ω : Om} (hc : c ≤ c') (h : R4 c ω) : R4 c' ω := by
  obtain ⟨a, ⟨⟨b1, b2⟩, b3⟩, ⟨⟨d1, d2⟩, d3⟩, e1, e2⟩ := h
  exact ⟨a, ⟨⟨b1, by omega⟩, b3⟩, ⟨⟨d1, by omega⟩, d3⟩, e1, by omega⟩
theorem RR.mono {c c' : Nat} {ω : Om} (hc : c ≤ c') (h : RR c ω) : RR c' ω := ⟨h.1, h.2.1, h.2.2.1, h.2.2.2.1.mono hc, h.2.2.2.2⟩
/-- rows of trees that are alike -/
theorem vr_q {ω ω' : Om} {r : Int} (hn : 0 ≤ ω 29 2 ∧ ω 29 2 ≤ 8) (hT : TQ (vw 0 ω) (vw 0 ω') ∨ (ω' 29 2 = ω 29 2 ∧ ω' 29 8 = ω 29 8 ∧ ω' 31 = ω 31 ∧ ω' 32 = ω 32 ∧ ω' 36 = ω 36 ∧ ω' 37 = ω 37)) (hM : ∀ i, 0 ≤ i → i < 96 → rwM ω' r i = rwM ω r i) (hH : ∀ t, 0 ≤ t → t < 8 → rwH ω' r t = rwH ω r t) : TQ (vr ω r) (vr ω' r) := by
  have e : ∀ (w : Om) (k : Nat) (i : Int), k ≠ 14 → k ≠ 15 → vr w r k i = vw 0 w k i := fun w k i a b => by unfold vr; rw [if_neg a, if_neg b]
  have e14 : ∀ (w : Om) (i : Int), vr w r 14 i = rwM w r i := fun w i => rfl
  have e15 : ∀ (w : Om) (i : Int), vr w r 15 i = rwH w r i := fun w i => rfl
  have h37 : ω' 29 2 = ω 29 2 := by rcases hT with q | q; (exact q.1); exact q.1
  have h38 : ω' 29 8 = ω 29 8 := by rcases hT with q | q; (exact q.2.1); exact q.2.1
  unfold TQ
  rw [e _ 3 7 (by decide) (by decide), e _ 3 8 (by decide) (by decide), e _ 3 7 (by decide) (by decide), e _ 3 8 (by decide) (by decide)]
  refine ⟨h37, h38, fun t t0 t1 => ?_, fun t m t0 t1 m0 m1 => ?_, fun b b0 b1 => ?_, fun b k b0 b1 k0 k1 => ?_⟩
  · rw [vw37] at t1
    rw [e _ 12 _ (by decide) (by decide), e _ 12 _ (by decide) (by decide), e _ 13 _ (by decide) (by decide), e _ 13 _ (by decide) (by decide), e15, e15, hH t t0 (by omega)]
    rcases hT with q | q
    · exact ⟨(q.2.2.1 t t0 t1).1, (q.2.2.1 t t0 t1).2.1, rfl⟩
    · rw [vw12, vw12, vw13, vw13, q.2.2.1, q.2.2.2.1]; exact ⟨rfl, rfl, rfl⟩
  · rw [vw37] at t1
    rw [e14, e14]; exact hM _ (by omega) (by omega)
  · rw [e _ 17 _ (by decide) (by decide), e _ 17 _ (by decide) (by decide)]
    rcases hT with q | q
    · exact q.2.2.2.2.1 b b0 b1
    · rw [vw17, vw17, q.2.2.2.2.1]
  · rw [e _ 18 _ (by decide) (by decide), e _ 18 _ (by decide) (by decide)]
    rw [e _ 17 _ (by decide) (by decide)] at k1
    rcases hT with q | q
    · exact q.2.2.2.2.2 b k b0 b1 k0 k1
    · rw [vw18, vw18, q.2.2.2.2.2]
theorem RR_m {c : Nat} {ω ω' : Om} (h : RR c ω) (g : MG ω ω') : RR c ω' := by
  have hMW := h.mw
  have n8 := n8_vw hMW.1
  obtain ⟨⟨hC, hT, h7⟩, ⟨hp, hp0, hp1⟩, ⟨hk, hk0, hk1⟩, h4, h5, h6⟩ := h
  obtain ⟨gc, ⟨g30, g31, g32, g35, g36, g37, g38, g39, g40⟩, g9, g7, g33, g34⟩ := g
  have e2 : ω' 29 2 = ω 29 2 := g9 2 (by decide) (by decide)
  have e8 : ω' 29 8 = ω 29 8 := g9 8 (by decide) (by decide)
  have e12 : ω' 29 12 = ω 29 12 := g9 12 (by decide) (by decide)
  have hTT : TQ ω ω' := (TE.q ⟨gc 3 (by decide), gc 12 (by decide), gc 13 (by decide), gc 14 (by decide), gc 15 (by decide), gc 16 (by decide), gc 17 (by decide), gc 18 (by decide)⟩)
  have hTv : TQ (vw 0 ω) (vw 0 ω') := by
    refine ⟨e2, e8, fun t t0 t1 => ⟨by rw [vw12, vw12, g31], by rw [vw13, vw13, g32], ?_⟩, fun t m t0 t1 m0 m1 => ?_, fun b _ _ => by rw [vw17, vw17, g36], fun b k _ _ _ _ => by rw [vw18, vw18, g37]⟩
    · rw [vw37] at t1
      rw [vw15, vw15]; exact g34 _ (by omega)
    · rw [vw37] at t1
      rw [vw14, vw14]; exact g33 _ (by omega)
  have hrM : ∀ r i, 0 ≤ i → i < 96 → rwM ω' r i = rwM ω r i := fun r i i0 i1 => by
    unfold rwM; rw [e12, g38, g33 i i1]
  have hrH : ∀ r t, 0 ≤ t → t < 8 → rwH ω' r t = rwH ω r t := fun r t t0 t1 => by
    unfold rwH; rw [e12, g39, g34 t t1]
  have hFB : ∀ r, FB ω r → FB ω' r := fun r hf t n t0 t1 n0 n1 => by
    rw [e2] at t1 ⊢
    rw [hrM r _ (by omega) (by omega)]
    exact hf t n t0 t1 n0 n1
  refine ⟨⟨CS_cg gc hC, (hTT.sy.tr hT).tr hTv, g7 h7⟩, ⟨?_, ?_, ?_⟩, ⟨?_, ?_, ?_⟩, ?_, ⟨?_, ?_, ?_⟩, ?_⟩
  · unfold PG; rw [gc 1 (by decide), gc 8 (by decide)]; exact hp
  · rw [g9 0 (by decide) (by decide), gc 1 (by decide)]; exact hp0
  · rw [gc 1 (by decide), gc 8 (by decide), g30]; exact hp1
  · unfold KC; rw [gc 0 (by decide), gc 7 (by decide)]; exact hk
  · rw [g9 15 (by decide) (by decide), gc 0 (by decide)]; exact hk0
  · rw [gc 0 (by decide), gc 7 (by decide), g40]; exact hk1
  · unfold R4; rw [e12, g9 17 (by decide) (by decide), g9 18 (by decide) (by decide), gc 6 (by decide), gc 3 (by decide)]; exact h4
  · rw [e2, e8, gc 16 (by decide)]; exact h5.1
  · rw [e2, e8, gc 16 (by decide), g35]; exact h5.2.1
  · rw [e12]; exact hFB _ h5.2.2
  · intro r r0 r1
    rw [e12] at r1
    obtain ⟨a1, ⟨a2, a3⟩, a4, a5⟩ := h6 r r0 r1
    rw [gc 28 (by decide), gc 27 (by decide), gc 26 (by decide)]
    refine ⟨a1, ⟨WfT_TQ (vr_q n8 (Or.inl hTv) (hrM r) (hrH r)) a2, hFB r a3⟩, a4, fun t t0 t1 => ?_⟩
    rw [e2] at t1
    obtain ⟨b1, b2, b3⟩ := a5 t t0 t1
    rw [hrM r _ (by omega) (by omega), hrH r _ t0 (by omega)]
    refine ⟨b1, b2, fun n n0 n1 nn => ?_⟩
    rw [hrM (r + 1) _ (by omega) (by omega), hrH (r + 1) _ t0 (by omega), hrM r _ (by omega) (by omega)]
    exact b3 n n0 n1 nn
/-- cells of the class that calls which only look leave -/
theorem RR_c {c : Nat} {ω ω' : Om} (h : RR c ω) (p : CP ω ω') : RR c ω' := by
  obtain ⟨⟨hC, hT, h7⟩, ⟨hp, hp0, hp1⟩, ⟨hk, hk0, hk1⟩, h4, h5, h6⟩ := h
  obtain ⟨⟨f, f6, f26, ⟨f27, _, _⟩, fT⟩, hC'⟩ := p
  have ev : vw 0 ω' = vw 0 ω := vw_eq (by rw [f 29 (by decide)]) (by rw [f 29 (by decide)]) (f 31 (by decide)) (f 32 (by decide)) (f 33 (by decide)) (f 34 (by decide)) (f 36 (by decide)) (f 37 (by decide))
  have hrM : ∀ r i, rwM ω' r i = rwM ω r i := fun r i => by unfold rwM; rw [f 29 (by decide), f 38 (by decide), f 33 (by decide)]
  have hrH : ∀ r i, rwH ω' r i = rwH ω r i := fun r i => by unfold rwH; rw [f 29 (by decide), f 39 (by decide), f 34 (by decide)]
  have e29 : ω' 29 = ω 29 := f 29 (by decide)
  have hFB : ∀ r, FB ω r → FB ω' r := fun r hf t n t0 t1 n0 n1 => by
    rw [e29] at t1 ⊢
    rw [hrM]
    exact hf t n t0 t1 n0 n1
  have hvr : ∀ r, vr ω' r = vr ω r := fun r => by
    funext k i
    unfold vr
    rw [hrM, hrH, ev]
  have h12 := h4.1
  refine ⟨⟨hC', by rw [ev]; exact fT.sy.tr hT, by rw [e29]; exact h7⟩, ⟨?_, ?_, ?_⟩, ⟨?_, ?_, ?_⟩, ?_, ⟨?_, ?_, ?_⟩, ?_⟩
  · unfold PG; rw [f 1 (by decide), f 8 (by decide)]; exact hp
  · rw [e29, f 1 (by decide)]; exact hp0
  · rw [f 1 (by decide), f 8 (by decide), f 30 (by decide)]; exact hp1
  · unfold KC; rw [f 0 (by decide), f 7 (by decide)]; exact hk
  · rw [e29, f 0 (by decide)]; exact hk0
  · rw [f 0 (by decide), f 7 (by decide), f 40 (by decide)]; exact hk1
  · unfold R4; rw [e29, f6 6 (by decide), f6 7 (by decide), f6 8 (by decide), f 3 (by decide)]; exact h4
  · rw [e29, f 16 (by decide)]; exact h5.1
  · rw [e29, f 16 (by decide), f 35 (by decide)]; exact h5.2.1
  · rw [e29]; exact hFB _ h5.2.2
  · intro r r0 r1
    rw [e29] at r1
    obtain ⟨a1, ⟨a2, a3⟩, a4, a5⟩ := h6 r r0 r1
    rw [(f27 r (by omega)).2, (f27 r (by omega)).1, hvr]
    refine ⟨a1, ⟨a2, hFB r a3⟩, a4, fun t t0 t1 => ?_⟩
    rw [e29] at t1
    have n8 : ω 29 2 ≤ 8 := by have := hT.1; rw [vw37] at this; have := hC.1.1; omega
    rw [f26 _ (by omega), hrM, hrH]
    obtain ⟨b1, b2, b3⟩ := a5 t t0 t1
    refine ⟨b1, b2, fun n n0 n1 nn => ?_⟩
    rw [hrM, hrH, hrM]
    exact b3 n n0 n1 nn
