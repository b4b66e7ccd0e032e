/-! trees that are alike in all that counts -/
def TQ (τ ω : Om) : Prop := ω 3 7 = τ 3 7 ∧ ω 3 8 = τ 3 8 ∧ (∀ t, 0 ≤ t → t < τ 3 7 → ω 12 t = τ 12 t ∧ ω 13 t = τ 13 t ∧ ω 15 t = τ 15 t) ∧ (∀ t m, 0 ≤ t → t < τ 3 7 → 0 ≤ m → m < 12 → ω 14 (t * 12 + m) = τ 14 (t * 12 + m)) ∧
  (∀ b, 0 ≤ b → b < τ 3 8 → ω 17 b = τ 17 b) ∧ (∀ b k, 0 ≤ b → b < τ 3 8 → 0 ≤ k → k < τ 17 b → ω 18 (b * 6 + k) = τ 18 (b * 6 + k))
theorem TQ.rf (τ : Om) : TQ τ τ := ⟨rfl, rfl, fun _ _ _ => ⟨rfl, rfl, rfl⟩, fun _ _ _ _ _ _ => rfl, fun _ _ _ => rfl, fun _ _ _ _ _ _ => rfl⟩
theorem TQ.sy {τ ω : Om} (h : TQ τ ω) : TQ ω τ := by
  obtain ⟨a, b, c, d, e, f⟩ := h
  refine ⟨a.symm, b.symm, fun t h1 h2 => ?_, fun t m h1 h2 h3 h4 => ?_, fun q h1 h2 => ?_, fun q k h1 h2 h3 h4 => ?_⟩
  · have := c t h1 (by omega); exact ⟨this.1.symm, this.2.1.symm, this.2.2.symm⟩
  · exact (d t m h1 (by omega) h3 h4).symm
  · exact (e q h1 (by omega)).symm
  · have h5 := e q h1 (by omega)
    exact (f q k h1 (by omega) h3 (by omega)).symm
theorem TQ.tr {a b c : Om} (h1 : TQ a b) (h2 : TQ b c) : TQ a c := by
  obtain ⟨a1, a2, a3, a4, a5, a6⟩ := h1
  obtain ⟨b1, b2, b3, b4, b5, b6⟩ := h2
  refine ⟨b1.trans a1, b2.trans a2, fun t h1 h2 => ?_, fun t m h1 h2 h3 h4 => ?_, fun q h1 h2 => ?_, fun q k h1 h2 h3 h4 => ?_⟩
  · have p := a3 t h1 h2
    have q := b3 t h1 (by omega)
    exact ⟨q.1.trans p.1, q.2.1.trans p.2.1, q.2.2.trans p.2.2⟩
  · exact (b4 t m h1 (by omega) h3 h4).trans (a4 t m h1 h2 h3 h4)
  · exact (b5 q h1 (by omega)).trans (a5 q h1 h2)
  · have h5 := a5 q h1 h2
    exact (b6 q k h1 (by omega) h3 (by omega)).trans (a6 q k h1 h2 h3 h4)
theorem TE.q {τ ω : Om} (h : TE τ ω) : TQ τ ω := by
  obtain ⟨a, b, c, d, e, f, g, i⟩ := h
  exact ⟨by rw [a], by rw [a], fun t _ _ => ⟨by rw [b], by rw [c], by rw [e]⟩, fun t m _ _ _ _ => by rw [d], fun q _ _ => by rw [g], fun q k _ _ _ _ => by rw [i]⟩
theorem hb_TQ {τ ω : Om} (h : TQ τ ω) (t m : Int) : hb ω t m = hb τ t m := by
  unfold hb; rw [h.1]; split
  · rename_i g; exact h.2.2.2.1 t m g.1 g.2.1 g.2.2.2.1 g.2.2.2.2
  · rfl
theorem pr_TQ {τ ω : Om} (h : TQ τ ω) (t : Int) : pr ω t = pr τ t := by
  unfold pr; rw [h.1]; split
  · rename_i g; exact (h.2.2.1 t g.1 g.2.1).1
  · rfl
theorem hds_TQ {τ ω : Om} (h : TQ τ ω) (t m : Int) : hds ω t m = hds τ t m := by
  unfold hds; rw [h.1]
  by_cases g : 0 ≤ t ∧ t < τ 3 7
  · rw [(h.2.2.1 t g.1 g.2).2.2]
  · rw [if_neg (by omega), if_neg (by omega)]
theorem hol_TQ {τ ω : Om} (h : TQ τ ω) (t : Int) : hol ω t = hol τ t := by
  unfold hol; rw [h.1]
  by_cases g : 0 ≤ t ∧ t < τ 3 7
  · rw [(h.2.2.1 t g.1 g.2).2.1]
  · rw [if_neg (by omega), if_neg (by omega)]
theorem itA_TQ {τ ω : Om} (h : TQ τ ω) (b p : Int) : itA ω b p = itA τ b p := by
  unfold itA; rw [h.2.1]
  by_cases g : 0 ≤ b ∧ b < τ 3 8
  · rw [h.2.2.2.2.1 b g.1 g.2]
    split
    · rename_i q; exact h.2.2.2.2.2 b p q.1 q.2.1 q.2.2.2.1 q.2.2.2.2.1
    · rfl
  · rw [if_neg (by omega), if_neg (by omega)]
theorem nr_TQ {τ ω : Om} (h : TQ τ ω) {m : Int} (hm : 0 ≤ m ∧ m < 12) : ∀ (f : Nat) (t : Int), nr ω m f t = nr τ m f t := by
  intro f
  induction f with
  | zero => intro t; rfl
  | succ f ih =>
    intro t
    unfold nr
    rw [h.1]
    by_cases g : 0 ≤ t ∧ t < τ 3 7 ∧ t < 8
    · rw [if_pos g, if_pos g, h.2.2.2.1 t m g.1 g.2.1 hm.1 hm.2, (h.2.2.1 t g.1 g.2.1).2.2, (h.2.2.1 t g.1 g.2.1).1, ih]
    · rw [if_neg g, if_neg g]
theorem nrS_TQ {τ ω : Om} (h : TQ τ ω) (t m : Int) : nrS ω t m = nrS τ t m := by
  unfold nrS; split
  · rename_i g; exact nr_TQ h g 8 t
  · rfl
theorem meetT_TQ {τ ω : Om} (h : TQ τ ω) (s : TS) (a m : Int) : meetT ω s a m = meetT τ s a m := by unfold meetT; rw [hb_TQ h]
theorem useT_TQ {τ ω : Om} (h : TQ τ ω) (s : TS) (a f : Int) : useT ω s a f = useT τ s a f := by unfold useT; rw [nrS_TQ h, hb_TQ h]
theorem homT_TQ {τ ω : Om} (h : TQ τ ω) (ty a it : Int) : homT ω ty a it = homT τ ty a it := by unfold homT; rw [pr_TQ h, nrS_TQ h, nrS_TQ h, hds_TQ h]
theorem stepT_TQ {τ ω : Om} (h : TQ τ ω) (ty : Int) (s : TS) : stepT ω ty s = stepT τ ty s := by
  obtain ⟨ev, stk, dp⟩ := s
  cases stk with
  | nil => rfl
  | cons x r =>
    obtain ⟨b, a, p⟩ := x
    simp only [stepT]
    rw [itA_TQ h, useT_TQ h, meetT_TQ h, homT_TQ h]
theorem runT_TQ {τ ω : Om} (h : TQ τ ω) (ty : Int) : ∀ (f : Nat) (s : TS), runT ω ty f s = runT τ ty f s := by
  intro f
  induction f with
  | zero => intro s; rfl
  | succ f ih => intro s; unfold runT; rw [stepT_TQ h, ih]
theorem trT_TQ {τ ω : Om} (h : TQ τ ω) (ty m : Int) : trT ω ty m = trT τ ty m := by
  unfold trT startT; rw [nrS_TQ h, runT_TQ h, meetT_TQ h]
theorem evs_TQ {τ ω : Om} (h : TQ τ ω) (ty m : Int) : evs ω ty m = evs τ ty m := by unfold evs; rw [trT_TQ h]
theorem missT_TQ {τ ω : Om} (h : TQ τ ω) : ∀ k, missT ω k = missT τ k := by
  intro k
  induction k with
  | zero => rfl
  | succ k ih => simp only [missT]; rw [ih, hol_TQ h, evs_TQ h]
theorem reachT_TQ {τ ω : Om} (h : TQ τ ω) (c : Int) : ∀ k, reachT ω c k = reachT τ c k := by
  intro k
  induction k with
  | zero => rfl
  | succ k ih => simp only [reachT]; rw [ih, hol_TQ h, evs_TQ h]
theorem WfT_TQ {τ ω : Om} (h : TQ τ ω) (hW : WfT τ) : WfT ω := by
  obtain ⟨a, b, c, d, e, f⟩ := h
  obtain ⟨w1, w2, w3, w4, w5, w6, w7, w8, w9, w10⟩ := hW
  refine ⟨by rw [a]; exact w1, by rw [b]; exact w2, ?_, ?_, ?_, ?_, ?_, ?_, ?_, ?_⟩
  · intro t h1 h2; rw [a] at h2; rw [(c t h1 h2).1]; exact w3 t h1 h2
  · intro t m h1 h2 h3 h4; rw [a] at h2; rw [d t m h1 h2 h3 (by omega), b]; exact w4 t m h1 h2 h3 h4
  · intro t m h1 h2 h3 h4; rw [a] at h2; rw [d t m h1 h2 (by omega) (by omega)]; exact w5 t m h1 h2 h3 h4
  · intro t h1 h2; rw [a] at h2; rw [(c t h1 h2).2.2]; exact w6 t h1 h2
  · intro t m h1 h2 h3 h4; rw [a] at h2; rw [(c t h1 h2).2.2, d t m h1 h2 h3 (by omega)]; exact w7 t m h1 h2 h3 h4
  · intro q h1 h2; rw [b] at h2; rw [e q h1 h2]; exact w8 q h1 h2
  · intro q k h1 h2 h3 h4; rw [b] at h2; rw [e q h1 h2] at h4; rw [f q k h1 h2 h3 h4]; exact w9 q k h1 h2 h3 h4
  · intro t h1 h2; rw [a] at h2; rw [(c t h1 h2).2.1]; exact w10 t h1 h2
theorem SVv_TQ {τ τ' ω : Om} (h : TQ τ τ') (hS : SVv τ ω) : SVv τ' ω := by
  obtain ⟨a, b, c⟩ := hS
  refine ⟨fun t m h1 h2 h3 h4 => ?_, fun q hq => ?_, ?_⟩
  · rw [h.1] at h2; rw [trT_TQ h]; exact a t m h1 h2 h3 h4
  · rw [h.1, reachT_TQ h]; exact b q hq
  · rw [h.1, missT_TQ h]; exact c
/-! moves -/
/-- what class c has of member n behind the move of member m of class t (up, or down) -/
def mvH (τ : Om) (t m u c n : Int) : Int :=
  if n = m then
    (if u = 0 then (if c = t then -1 else if pr τ c = t ∧ hb τ c m = -1 then hb τ t m else τ 14 (c * 12 + m))
     else (if c = pr τ t then hb τ t m else if pr τ c = pr τ t ∧ hb τ c m = hb τ t m ∧ hds τ c m = hds τ t m then -1 else τ 14 (c * 12 + m)))
  else τ 14 (c * 12 + n)
def mvB (τ : Om) (t m u c : Int) : Int :=
  if u = 0 then (if c = t then zset (τ 15 c) m 0 else if pr τ c = t ∧ hb τ c m = -1 then zset (τ 15 c) m (hds τ t m) else τ 15 c)
  else (if c = pr τ t then zset (τ 15 c) m (hds τ t m) else if pr τ c = pr τ t ∧ hb τ c m = hb τ t m ∧ hds τ c m = hds τ t m then zset (τ 15 c) m 0 else τ 15 c)
def mvT (τ : Om) (t m u : Int) : Om := fun k i => if k = 14 then mvH τ t m u (i / 12) (i % 12) else if k = 15 then mvB τ t m u i else τ k i
theorem mvT_14 (τ : Om) (t m u : Int) {c n : Int} (hn : 0 ≤ n ∧ n < 12) : mvT τ t m u 14 (c * 12 + n) = mvH τ t m u c n := by
  unfold mvT; rw [if_pos rfl, show (c * 12 + n) / 12 = c from by omega, show (c * 12 + n) % 12 = n from by omega]
theorem mvT_15 (τ : Om) (t m u c : Int) : mvT τ t m u 15 c = mvB τ t m u c := by unfold mvT; rw [if_neg (by decide), if_pos rfl]
theorem mvT_k (τ : Om) (t m u : Int) {k : Nat} (h1 : k ≠ 14) (h2 : k ≠ 15) : mvT τ t m u k = τ k := by funext i; unfold mvT; rw [if_neg h1, if_neg h2]
theorem hds01 (τ : Om) (t m : Int) : hds τ t m = 0 ∨ hds τ t m = 1 := by unfold hds; split <;> simp
theorem zset_fin {x m b : Int} (hx : 0 ≤ x ∧ x < 64) (hm : 0 ≤ m ∧ m < 12) (hb : b = 0 ∨ (b = 1 ∧ m < 6)) : (0 ≤ zset x m b ∧ zset x m b < 64) ∧ ∀ n, 0 ≤ n → n < 12 → zb (zset x m b) n = if n = m then b else zb x n := by
  have h := zset_tab ⟨x.toNat, by omega⟩ ⟨m.toNat, by omega⟩
  simp only [Int.toNat_of_nonneg hx.1, Int.toNat_of_nonneg hm.1] at h
  obtain ⟨h1, h2, h3, h4, -⟩ := h
  rcases hb with rfl | ⟨rfl, hm6⟩
  · refine ⟨h1, fun n n0 n1 => ?_⟩
    have := h3 ⟨n.toNat, by omega⟩
    simp only [Int.toNat_of_nonneg n0] at this
    rw [this]
    by_cases e : n = m
    · subst e; simp
    · rw [if_neg e, if_neg (by simp only [Fin.mk.injEq]; omega)]
  · refine ⟨h2 (by omega), fun n n0 n1 => ?_⟩
    have := h4 ⟨n.toNat, by omega⟩ (by omega)
    simp only [Int.toNat_of_nonneg n0] at this
    rw [this]
    by_cases e : n = m
    · subst e; simp
    · rw [if_neg e, if_neg (by simp only [Fin.mk.injEq]; omega)]
theorem zb_high {x m : Int} (hx : 0 ≤ x ∧ x < 64) (hm : 6 ≤ m ∧ m < 12) : zb x m = 0 := by
  have h := zb_hi ⟨x.toNat, by omega⟩ ⟨m.toNat, by omega⟩ (by simp; omega)
  simp only [Int.toNat_of_nonneg hx.1] at h
  rw [show ((m.toNat : Nat) : Int) = m from by omega] at h
  exact h
theorem hds_zb {τ : Om} (hW : WfT τ) {t m : Int} (ht : 0 ≤ t ∧ t < τ 3 7) : hds τ t m = zb (τ 15 t) m := by
  have h8 := hW.1
  unfold hds
  rcases zb01 (τ 15 t) m with h | h
  · rw [if_neg (by unfold zb at h; omega), h]
  · rw [if_pos (by unfold zb at h; omega), h]
theorem hds_lo {τ : Om} (hW : WfT τ) {t m : Int} (hm : 0 ≤ m ∧ m < 12) (h : hds τ t m = 1) : m < 6 ∧ 0 ≤ t ∧ t < τ 3 7 := by
  have ht : 0 ≤ t ∧ t < τ 3 7 := by
    unfold hds at h; split at h
    · rename_i g; exact ⟨g.1, g.2.1⟩
    · omega
  rw [hds_zb hW ht] at h
  refine ⟨?_, ht⟩
  by_cases h6 : 6 ≤ m
  · rw [zb_high (hW.2.2.2.2.2.1 t ht.1 ht.2) ⟨h6, hm.2⟩] at h; omega
  · omega
theorem hb_in {τ : Om} (hW : WfT τ) {t m : Int} (ht : 0 ≤ t ∧ t < τ 3 7) (hm : 0 ≤ m ∧ m < 12) : hb τ t m = τ 14 (t * 12 + m) := by
  have h8 := hW.1
  unfold hb; rw [if_pos (by omega)]
theorem pr_in {τ : Om} (hW : WfT τ) {t : Int} (ht : 0 ≤ t ∧ t < τ 3 7) : pr τ t = τ 12 t := by
  have h8 := hW.1
  unfold pr; rw [if_pos (by omega)]
theorem mvB_ok {τ : Om} (hW : WfT τ) {t m u c : Int} (hm : 0 ≤ m ∧ m < 12) (hc : 0 ≤ c ∧ c < τ 3 7) : (0 ≤ mvB τ t m u c ∧ mvB τ t m u c < 64) ∧ ∀ n, 0 ≤ n → n < 12 → n ≠ m → zb (mvB τ t m u c) n = zb (τ 15 c) n := by
  have hx := hW.2.2.2.2.2.1 c hc.1 hc.2
  have z0 := zset_fin hx hm (b := 0) (Or.inl rfl)
  have z1 : (0 ≤ zset (τ 15 c) m (hds τ t m) ∧ zset (τ 15 c) m (hds τ t m) < 64) ∧ ∀ n, 0 ≤ n → n < 12 → zb (zset (τ 15 c) m (hds τ t m)) n = if n = m then hds τ t m else zb (τ 15 c) n := by
    rcases hds01 τ t m with h | h
    · rw [h]; exact z0
    · exact zset_fin hx hm (Or.inr ⟨h, (hds_lo hW hm h).1⟩)
  unfold mvB
  (repeat' split)
  all_goals first
    | exact ⟨z0.1, fun n a b e => by rw [z0.2 n a b, if_neg e]⟩
    | exact ⟨z1.1, fun n a b e => by rw [z1.2 n a b, if_neg e]⟩
    | exact ⟨hx, fun n a b e => rfl⟩
theorem mvB_m {τ : Om} (hW : WfT τ) {t m u c : Int} (hm : 0 ≤ m ∧ m < 12) (hc : 0 ≤ c ∧ c < τ 3 7) (hv : ¬ hb τ t m = -1) (h : zb (mvB τ t m u c) m = 1) : ¬ mvH τ t m u c m = -1 := by
  have hx := hW.2.2.2.2.2.1 c hc.1 hc.2
  have z0 := (zset_fin hx hm (b := 0) (Or.inl rfl)).2 m hm.1 hm.2
  rw [if_pos rfl] at z0
  have hold : zb (τ 15 c) m = 1 → ¬ τ 14 (c * 12 + m) = -1 := fun q => by
    have h6 : m < 6 := by
      by_cases h6 : 6 ≤ m
      · rw [zb_high hx ⟨h6, hm.2⟩] at q; omega
      · omega
    exact hW.2.2.2.2.2.2.1 c m hc.1 hc.2 hm.1 h6 q
  unfold mvB at h
  unfold mvH
  rw [if_pos rfl]
  by_cases e0 : u = 0
  · rw [if_pos e0] at h ⊢
    by_cases e1 : c = t
    · rw [if_pos e1, z0] at h; omega
    · rw [if_neg e1] at h ⊢
      by_cases e2 : pr τ c = t ∧ hb τ c m = -1
      · rw [if_pos e2]; exact hv
      · rw [if_neg e2] at h ⊢; exact hold h
  · rw [if_neg e0] at h ⊢
    by_cases e1 : c = pr τ t
    · rw [if_pos e1]; exact hv
    · rw [if_neg e1] at h ⊢
      by_cases e2 : pr τ c = pr τ t ∧ hb τ c m = hb τ t m ∧ hds τ c m = hds τ t m
      · rw [if_pos e2, z0] at h; omega
      · rw [if_neg e2] at h ⊢; exact hold h
theorem mvT_wf {τ : Om} (hW : WfT τ) {t m u : Int} (ht : 0 ≤ t ∧ t < τ 3 7) (hm : 0 ≤ m ∧ m < 12) (hv : ¬ hb τ t m = -1) : WfT (mvT τ t m u) := by
  have hval : ∀ c n, 0 ≤ c → c < τ 3 7 → 0 ≤ n → n < 12 → mvH τ t m u c n = -1 ∨ mvH τ t m u c n = τ 14 (c * 12 + n) ∨ (n = m ∧ mvH τ t m u c n = τ 14 (t * 12 + n)) := by
    intro c n c0 c1 n0 n1
    have e := hb_in hW ht hm
    unfold mvH
    by_cases en : n = m
    · subst en
      rw [if_pos rfl, e]
      (repeat' split) <;> simp
    · rw [if_neg en]; simp
  obtain ⟨w1, w2, w3, w4, w5, w6, w7, w8, w9, w10⟩ := hW
  have hW' : WfT τ := ⟨w1, w2, w3, w4, w5, w6, w7, w8, w9, w10⟩
  refine ⟨?_, ?_, ?_, ?_, ?_, ?_, ?_, ?_, ?_, ?_⟩
  · rw [mvT_k _ _ _ _ (by decide) (by decide)]; exact w1
  · rw [mvT_k _ _ _ _ (by decide) (by decide)]; exact w2
  · rw [mvT_k _ _ _ _ (by decide) (by decide), mvT_k _ _ _ _ (by decide) (by decide)]; exact w3
  · rw [mvT_k _ _ _ _ (by decide) (by decide)]
    intro c n c0 c1 n0 n1
    rw [mvT_14 _ _ _ _ (by omega)]
    have a := w4 c n c0 c1 n0 n1
    rcases hval c n c0 c1 n0 (by omega) with h | h | ⟨e, h⟩
    · omega
    · omega
    · have b := w4 t n ht.1 ht.2 n0 n1; omega
  · rw [mvT_k _ _ _ _ (by decide) (by decide)]
    intro c n c0 c1 n0 n1
    rw [mvT_14 _ _ _ _ (by omega)]
    have a := w5 c n c0 c1 n0 n1
    rcases hval c n c0 c1 (by omega) (by omega) with h | h | ⟨e, h⟩
    · omega
    · omega
    · have b := w5 t n ht.1 ht.2 n0 n1; omega
  · rw [mvT_k _ _ _ _ (by decide) (by decide)]
    intro c c0 c1
    rw [mvT_15]; exact (mvB_ok hW' hm ⟨c0, c1⟩).1
  · rw [mvT_k _ _ _ _ (by decide) (by decide)]
    intro c n c0 c1 n0 n1 hz
    rw [mvT_15] at hz
    rw [mvT_14 _ _ _ _ (by omega)]
    by_cases en : n = m
    · subst en; exact mvB_m hW' hm ⟨c0, c1⟩ hv hz
    · rw [(mvB_ok hW' hm ⟨c0, c1⟩).2 n n0 (by omega) en] at hz
      unfold mvH; rw [if_neg en]; exact w7 c n c0 c1 n0 n1 hz
  · rw [mvT_k _ _ _ _ (by decide) (by decide), mvT_k _ _ _ _ (by decide) (by decide)]; exact w8
  · rw [mvT_k _ _ _ _ (by decide) (by decide), mvT_k _ _ _ _ (by decide) (by decide), mvT_k _ _ _ _ (by decide) (by decide)]; exact w9
  · rw [mvT_k _ _ _ _ (by decide) (by decide), mvT_k _ _ _ _ (by decide) (by decide)]; exact w10
theorem mvT_TQ {τ ω : Om} (h : TQ τ ω) {t m : Int} (u : Int) (hm : 0 ≤ m ∧ m < 12) : TQ (mvT τ t m u) (mvT ω t m u) := by
  have k3 : ∀ σ : Om, mvT σ t m u 3 = σ 3 := fun σ => mvT_k _ _ _ _ (by decide) (by decide)
  have k12 : ∀ σ : Om, mvT σ t m u 12 = σ 12 := fun σ => mvT_k _ _ _ _ (by decide) (by decide)
  have k13 : ∀ σ : Om, mvT σ t m u 13 = σ 13 := fun σ => mvT_k _ _ _ _ (by decide) (by decide)
  have k17 : ∀ σ : Om, mvT σ t m u 17 = σ 17 := fun σ => mvT_k _ _ _ _ (by decide) (by decide)
  have k18 : ∀ σ : Om, mvT σ t m u 18 = σ 18 := fun σ => mvT_k _ _ _ _ (by decide) (by decide)
  obtain ⟨a, b, c, d, e, f⟩ := id h
  refine ⟨by rw [k3, k3]; exact a, by rw [k3, k3]; exact b, ?_, ?_, ?_, ?_⟩
  · rw [k3, k12, k12, k13, k13]
    intro q q0 q1
    have cc := c q q0 q1
    refine ⟨cc.1, cc.2.1, ?_⟩
    rw [mvT_15, mvT_15]
    unfold mvB
    rw [pr_TQ h, pr_TQ h, hb_TQ h, hb_TQ h, hds_TQ h, hds_TQ h, cc.2.2]
  · rw [k3]
    intro q n q0 q1 n0 n1
    rw [mvT_14 _ _ _ _ ⟨n0, n1⟩, mvT_14 _ _ _ _ ⟨n0, n1⟩]
    unfold mvH
    rw [pr_TQ h, pr_TQ h, hb_TQ h, hb_TQ h, hds_TQ h, hds_TQ h, d q n q0 q1 n0 n1, d q m q0 q1 hm.1 hm.2]
  · rw [k3, k17, k17]; exact e
  · rw [k3, k17, k18, k18]; exact f
/-! why and where -/
def anyB (p : Int → Bool) : Nat → Bool
  | 0 => false
  | k + 1 => anyB p k || p k
def chg (τ σ : Om) (k : Nat) : Bool := decide (hol τ ((k / 6 : Nat) : Int) = 0) && decide (¬ trT τ ((k / 6 : Nat) : Int) ((k % 6 : Nat) : Int) = none) && decide (¬ evO (trT σ ((k / 6 : Nat) : Int) ((k % 6 : Nat) : Int)) = evO (trT τ ((k / 6 : Nat) : Int) ((k % 6 : Nat) : Int)))
def firstC (τ σ : Om) : Nat → Nat → Int
  | 0, _ => -1
  | n + 1, k => if chg τ σ k = true then (k : Int) else firstC τ σ n (k + 1)
def plainT (τ : Om) (t m u : Int) : Int :=
  if hb τ t m = -1 then 1
  else if u = 0 then (if anyB (fun c => decide (pr τ c = t)) (τ 3 7).toNat = false then 2 else if anyB (fun c => decide (pr τ c = t ∧ hb τ c m = -1)) (τ 3 7).toNat = false then 3 else 0)
  else (if pr τ t = -1 then 2 else if ¬ hb τ (pr τ t) m = -1 then 3 else 0)
def whereT (τ : Om) (t m u : Int) : Int := if plainT τ t m u = 0 then firstC τ (mvT τ t m u) (6 * (τ 3 7).toNat) 0 else -1
def whyT (τ : Om) (t m u : Int) : Int := if plainT τ t m u = 0 then (if whereT τ t m u = -1 then 0 else 4) else plainT τ t m u
theorem anyB_cg {p q : Int → Bool} : ∀ n : Nat, (∀ k : Nat, k < n → p k = q k) → anyB p n = anyB q n := by
  intro n
  induction n with
  | zero => intro _; rfl
  | succ n ih => intro h; simp only [anyB]; rw [ih (fun k hk => h k (by omega)), h n (by omega)]
theorem chg_TQ {τ ω σ ρ : Om} (h : TQ τ ω) (g : TQ σ ρ) (k : Nat) : chg ω ρ k = chg τ σ k := by unfold chg; rw [hol_TQ h, trT_TQ h, trT_TQ g]
theorem firstC_TQ {τ ω σ ρ : Om} (h : TQ τ ω) (g : TQ σ ρ) : ∀ n k, firstC ω ρ n k = firstC τ σ n k := by
  intro n
  induction n with
  | zero => intro k; rfl
  | succ n ih => intro k; simp only [firstC]; rw [chg_TQ h g, ih]
theorem plainT_TQ {τ ω : Om} (h : TQ τ ω) (t m u : Int) : plainT ω t m u = plainT τ t m u := by
  unfold plainT
  rw [hb_TQ h, h.1, pr_TQ h, hb_TQ h]
  simp only [pr_TQ h, hb_TQ h]
theorem whereT_TQ {τ ω : Om} (h : TQ τ ω) {t m : Int} (u : Int) (hm : 0 ≤ m ∧ m < 12) : whereT ω t m u = whereT τ t m u := by
  unfold whereT; rw [plainT_TQ h, firstC_TQ h (mvT_TQ h u hm), h.1]
theorem whyT_TQ {τ ω : Om} (h : TQ τ ω) {t m : Int} (u : Int) (hm : 0 ≤ m ∧ m < 12) : whyT ω t m u = whyT τ t m u := by
  unfold whyT; rw [plainT_TQ h, whereT_TQ h u hm]
/-- how many moves, of the first k members, can be up, down, are stopped -/
def upsT (τ : Om) : Nat → Int
  | 0 => 0
  | k + 1 => upsT τ k + if whyT τ ((k / 12 : Nat) : Int) ((k % 12 : Nat) : Int) 1 = 0 then 1 else 0
def downsT (τ : Om) : Nat → Int
  | 0 => 0
  | k + 1 => downsT τ k + if whyT τ ((k / 12 : Nat) : Int) ((k % 12 : Nat) : Int) 0 = 0 then 1 else 0
def stopT (τ : Om) : Nat → Int
  | 0 => 0
  | k + 1 => stopT τ k + ((if whyT τ ((k / 12 : Nat) : Int) ((k % 12 : Nat) : Int) 1 = 4 then 1 else 0) + (if whyT τ ((k / 12 : Nat) : Int) ((k % 12 : Nat) : Int) 0 = 4 then 1 else 0))
theorem mvs_TQ {τ ω : Om} (h : TQ τ ω) : ∀ k, upsT ω k = upsT τ k ∧ downsT ω k = downsT τ k ∧ stopT ω k = stopT τ k := by
  intro k
  induction k with
  | zero => exact ⟨rfl, rfl, rfl⟩
  | succ k ih =>
    have h1 := whyT_TQ h (t := ((k / 12 : Nat) : Int)) (m := ((k % 12 : Nat) : Int)) 1 (by omega)
    have h0 := whyT_TQ h (t := ((k / 12 : Nat) : Int)) (m := ((k % 12 : Nat) : Int)) 0 (by omega)
    simp only [upsT, downsT, stopT]
    rw [ih.1, ih.2.1, ih.2.2, h1, h0]
    exact ⟨rfl, rfl, rfl⟩
