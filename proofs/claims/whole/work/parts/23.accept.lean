/-- how many methods were told ahead of m -/
def bodyIx : List Int → Int → Int
  | [], _ => 0
  | x :: l, m => if x = m then nMth l else bodyIx l m
theorem bodyIx_s (m : Int) (l : List Int) : bodyIx (m :: l) m = nMth l := by simp only [bodyIx, if_true]
theorem bodyIx_c {m q : Int} (l : List Int) (h : q ≠ m) : bodyIx (m :: l) q = bodyIx l q := by simp only [bodyIx]; rw [if_neg (fun w => h w.symm)]
theorem bodyIx_lt : ∀ (l : List Int) (m : Int), m ∈ l → m < 6 → 0 ≤ bodyIx l m ∧ bodyIx l m < nMth l := by
  intro l
  induction l with
  | nil => intro m h; cases h
  | cons x l ih =>
    intro m h h6
    have hr := nMth_R l
    simp only [bodyIx, nMth]
    by_cases e : x = m
    · subst e; rw [if_pos rfl, if_pos h6]; omega
    · rw [if_neg e]
      have := ih m ((List.mem_cons.mp h).resolve_left (fun q => e q.symm)) h6
      split <;> omega
/-- a class has come, as the list l of what s tells says -/
def AcL (ω0 ω : Om) (s : RS) (l : List Int) (ver : Int) : Prop :=
  Fr [3, 12, 13, 14, 15, 16, 17, 18] ω0 ω ∧ (ω 3 7 = ω0 3 7 + 1 ∧ ω 3 8 = ω0 3 8 + nMth l ∧ ω 3 9 = ver) ∧ ((∀ t, t ≠ ω0 3 7 → ω 12 t = ω0 12 t ∧ ω 13 t = ω0 13 t ∧ ω 16 t = ω0 16 t) ∧ ω 12 (ω0 3 7) = s.2.1 ∧ ω 13 (ω0 3 7) = 0 ∧ ω 16 (ω0 3 7) = ω0 3 8) ∧
  ((∀ t m : Int, 0 ≤ t → t < 8 → 0 ≤ m → m < 12 → t ≠ ω0 3 7 → ω 14 (t * 12 + m) = ω0 14 (t * 12 + m)) ∧ (∀ t, 0 ≤ t → t < 8 → t ≠ ω0 3 7 → ω 15 t = ω0 15 t)) ∧
  (∀ m : Int, 0 ≤ m → m < 12 → ω 14 (ω0 3 7 * 12 + m) = if m ∈ l then (if m < 6 then ω0 3 8 + bodyIx l m else 12 * ω0 3 7 + m) else -1) ∧
  ((0 ≤ ω 15 (ω0 3 7) ∧ ω 15 (ω0 3 7) < 64) ∧ ∀ m : Int, 0 ≤ m → m < 12 → zb (ω 15 (ω0 3 7)) m = if m ∈ l then zb s.2.2.2.2.1 m else 0) ∧
  (∀ b : Int, 0 ≤ b → b < ω0 3 8 → ω 17 b = ω0 17 b ∧ ∀ k : Int, 0 ≤ k → k < 6 → ω 18 (b * 6 + k) = ω0 18 (b * 6 + k)) ∧
  ∀ m ∈ l, m < 6 → ω 17 (ω0 3 8 + bodyIx l m) = (s.2.2.2.2.2 m).length ∧ Arr (fun i => ω 18 ((ω0 3 8 + bodyIx l m) * 6 + i)) (s.2.2.2.2.2 m)
def AcI (ω1 ω : Om) (n : Int) (k : Nat) : Prop := Fr [14, 15] ω1 ω ∧ (∀ t m : Int, 0 ≤ t → t < 8 → 0 ≤ m → m < 12 → t ≠ n → ω 14 (t * 12 + m) = ω1 14 (t * 12 + m)) ∧ (∀ t, 0 ≤ t → t < 8 → t ≠ n → ω 15 t = ω1 15 t) ∧ (∀ m : Int, 0 ≤ m → m < k → ω 14 (n * 12 + m) = -1) ∧ (0 ≤ ω 15 n ∧ ω 15 n < 64) ∧ ∀ m : Int, 0 ≤ m → m < k → zb (ω 15 n) m = 0
theorem AcI_step {ω1 ω : Om} {n : Int} {k : Nat} (hn : 0 ≤ n ∧ n < 8) (hk : k < 12) (h : AcI ω1 ω n k) : AcI ω1 (up (up ω 14 (n * 12 + k) (-1)) 15 n (zset (ω 15 n) k 0)) n (k + 1) := by
  obtain ⟨a, b, c, d, e, f⟩ := h
  have z := zset_fin e (m := (k : Int)) (by omega) (b := 0) (Or.inl rfl)
  refine ⟨(a.up (by decide)).up (by decide), fun t m t0 t1 m0 m1 tn => ?_, fun t t0 t1 tn => ?_, fun m m0 m1 => ?_, by rw [up_s]; exact z.1, fun m m0 m1 => ?_⟩
  · rw [up_k (by decide), up_i (by omega)]; exact b t m t0 t1 m0 m1 tn
  · rw [up_i tn, up_k (by decide)]; exact c t t0 t1 tn
  · rw [up_k (by decide)]
    by_cases q : m = (k : Int)
    · subst q; rw [up_s]
    · rw [up_i (by omega)]; exact d m m0 (by omega)
  · rw [up_s, z.2 m m0 (by omega)]
    by_cases q : m = (k : Int)
    · rw [if_pos q]
    · rw [if_neg q]; exact f m m0 (by omega)
theorem AcL_0 {ω0 ω1 ω : Om} {s : RS} (hn : 0 ≤ ω0 3 7 ∧ ω0 3 7 < 8) (h1 : ω1 = up (up (up (up ω0 3 7 (ω0 3 7 + 1)) 12 (ω0 3 7) s.2.1) 13 (ω0 3 7) 0) 16 (ω0 3 7) (ω0 3 8)) (h : AcI ω1 ω (ω0 3 7) 12) : AcL ω0 ω s [] (ω0 3 9) := by
  obtain ⟨a, b, c, d, e, f⟩ := h
  have g14 : ω1 14 = ω0 14 := by rw [h1, up_f (by decide), up_f (by decide), up_f (by decide), up_f (by decide)]
  have g15 : ω1 15 = ω0 15 := by rw [h1, up_f (by decide), up_f (by decide), up_f (by decide), up_f (by decide)]
  have g17 : ω 17 = ω0 17 := by rw [a 17 (by decide), h1, up_f (by decide), up_f (by decide), up_f (by decide), up_f (by decide)]
  have g18 : ω 18 = ω0 18 := by rw [a 18 (by decide), h1, up_f (by decide), up_f (by decide), up_f (by decide), up_f (by decide)]
  refine ⟨?_, ⟨?_, ?_, ?_⟩, ⟨fun t ht => ⟨?_, ?_, ?_⟩, ?_, ?_, ?_⟩, ⟨fun t m t0 t1 m0 m1 tn => ?_, fun t t0 t1 tn => ?_⟩, fun m m0 m1 => ?_, ⟨e, fun m m0 m1 => ?_⟩, fun q _ _ => ⟨by rw [g17], fun k _ _ => by rw [g18]⟩, fun m hm => absurd hm List.not_mem_nil⟩
  · rw [h1] at a
    exact Fr.tr (Fr.up (Fr.up (Fr.up (Fr.up Fr.rf (by decide)) (by decide)) (by decide)) (by decide)) (a.mono (by decide))
  · rw [a 3 (by decide), h1, up_k (by decide), up_k (by decide), up_k (by decide), up_s]
  · rw [a 3 (by decide), h1, up_k (by decide), up_k (by decide), up_k (by decide), up_i (by decide)]; simp [nMth]
  · rw [a 3 (by decide), h1, up_k (by decide), up_k (by decide), up_k (by decide), up_i (by decide)]
  · rw [a 12 (by decide), h1, up_k (by decide), up_k (by decide), up_i ht, up_k (by decide)]
  · rw [a 13 (by decide), h1, up_k (by decide), up_i ht, up_k (by decide), up_k (by decide)]
  · rw [a 16 (by decide), h1, up_i ht, up_k (by decide), up_k (by decide), up_k (by decide)]
  · rw [a 12 (by decide), h1, up_k (by decide), up_k (by decide), up_s]
  · rw [a 13 (by decide), h1, up_k (by decide), up_s]
  · rw [a 16 (by decide), h1, up_s]
  · rw [b t m t0 t1 m0 m1 tn, g14]
  · rw [c t t0 t1 tn, g15]
  · rw [d m m0 (by omega)]; simp
  · rw [f m m0 (by omega)]; simp
theorem Arr_six {f g : Int → Int} {l : List Int} (hl : l.length ≤ 6) (h : ∀ i : Int, 0 ≤ i → i < 6 → f i = g i) (hg : Arr g l) : Arr f l := Arr_cg (fun i hi => h i (by omega) (by omega)) hg
/-- one member more: a field -/
theorem AcL_field {ω0 ω : Om} {s : RS} {l : List Int} {ver m h : Int} (hA : AcL ω0 ω s l ver) (hn : 0 ≤ ω0 3 7 ∧ ω0 3 7 < 8) (hm : 6 ≤ m ∧ m < 12) (hml : m ∉ l) (hh : h = zb s.2.2.2.2.1 m) (h0 : h = 0) : AcL ω0 (up (up ω 14 (ω0 3 7 * 12 + m) (12 * ω0 3 7 + m)) 15 (ω0 3 7) (zset (ω 15 (ω0 3 7)) m h)) s (m :: l) ver := by
  obtain ⟨a, b, c, ⟨d1, d2⟩, e, ⟨f1, f2⟩, g, i⟩ := hA
  have z := zset_fin f1 (m := m) (by omega) (b := h) (Or.inl h0)
  refine ⟨(a.up (by decide)).up (by decide), ?_, ?_, ⟨fun t q t0 t1 q0 q1 tn => ?_, fun t t0 t1 tn => ?_⟩, fun q q0 q1 => ?_, ⟨by rw [up_s]; exact z.1, fun q q0 q1 => ?_⟩, fun q q0 q1 => ?_, fun q hq q6 => ?_⟩
  · rw [up_f (by decide), up_f (by decide)]; simp only [nMth]; rw [if_neg (by omega)]; simpa using b
  · rw [up_f (by decide), up_f (by decide), up_f (by decide), up_f (by decide), up_f (by decide), up_f (by decide)]; exact c
  · rw [up_k (by decide), up_i (by omega)]; exact d1 t q t0 t1 q0 q1 tn
  · rw [up_i tn, up_k (by decide)]; exact d2 t t0 t1 tn
  · rw [up_k (by decide)]
    by_cases eq : q = m
    · subst eq; rw [up_s, if_pos List.mem_cons_self, if_neg (by omega)]
    · rw [up_i (by omega), e q q0 q1]
      by_cases ql : q ∈ l
      · rw [if_pos ql, if_pos (List.mem_cons_of_mem _ ql), bodyIx_c l eq]
      · rw [if_neg ql, if_neg (fun w => ql ((List.mem_cons.mp w).resolve_left eq))]
  · rw [up_s, z.2 q q0 q1]
    by_cases eq : q = m
    · subst eq; rw [if_pos rfl, if_pos List.mem_cons_self, hh]
    · rw [if_neg eq, f2 q q0 q1]
      by_cases ql : q ∈ l
      · rw [if_pos ql, if_pos (List.mem_cons_of_mem _ ql)]
      · rw [if_neg ql, if_neg (fun w => ql ((List.mem_cons.mp w).resolve_left eq))]
  · rw [up_f (by decide), up_f (by decide), up_f (by decide), up_f (by decide)]; exact g q q0 q1
  · have qm : q ≠ m := by omega
    have ql := (List.mem_cons.mp hq).resolve_left qm
    rw [up_f (by decide), up_f (by decide), up_f (by decide), up_f (by decide)]
    simp only [bodyIx]
    rw [if_neg (fun w => qm w.symm)]
    exact i q ql q6
/-- one member more: a method, with a body of its own -/
theorem AcL_method {ω0 ω ω1 : Om} {n : Int} {s : RS} {l : List Int} {ver m h : Int} (hA : AcL ω0 ω s l ver) (hR : RdC ω n s) (hms : m ∈ s.2.2.1) (hl6 : (s.2.2.2.2.2 m).length ≤ 6) (hn : 0 ≤ ω0 3 7 ∧ ω0 3 7 < 8) (hm : 0 ≤ m ∧ m < 6) (hml : m ∉ l) (hlm : ∀ q ∈ l, 0 ≤ q) (hll : ∀ q ∈ l, (s.2.2.2.2.2 q).length ≤ 6) (hh : h = zb s.2.2.2.2.1 m) (hN : NbP ω ω1 m) :
    AcL ω0 (up (up ω1 14 (ω0 3 7 * 12 + m) (ω 3 8)) 15 (ω0 3 7) (zset (ω1 15 (ω0 3 7)) m h)) s (m :: l) ver := by
  obtain ⟨a, ⟨b1, b2, b3⟩, c, ⟨d1, d2⟩, e, ⟨f1, f2⟩, g, i⟩ := hA
  obtain ⟨n1, n2, n3, n4, n5, n6, n7⟩ := hN
  have hr := nMth_R l
  have e14 : ω1 14 = ω 14 := n1 14 (by decide)
  have e15 : ω1 15 = ω 15 := n1 15 (by decide)
  have hb01 : h = 0 ∨ (h = 1 ∧ m < 6) := by rw [hh]; rcases zb01 s.2.2.2.2.1 m with q | q <;> omega
  have z := zset_fin f1 (m := m) (by omega) hb01
  rw [e15]
  refine ⟨((a.tr (n1.mono (by decide))).up (by decide)).up (by decide), ⟨?_, ?_, ?_⟩, ?_, ⟨fun t q t0 t1 q0 q1 tn => ?_, fun t t0 t1 tn => ?_⟩, fun q q0 q1 => ?_, ⟨by rw [up_s]; exact z.1, fun q q0 q1 => ?_⟩, fun q q0 q1 => ?_, fun q hq q6 => ?_⟩
  · rw [up_k (by decide), up_k (by decide), n2 7 (by decide)]; exact b1
  · rw [up_k (by decide), up_k (by decide), n3, b2]; simp only [nMth]; rw [if_pos hm.2]; omega
  · rw [up_k (by decide), up_k (by decide), n2 9 (by decide)]; exact b3
  · rw [up_f (by decide), up_f (by decide), up_f (by decide), up_f (by decide), up_f (by decide), up_f (by decide), n1 12 (by decide), n1 13 (by decide), n1 16 (by decide)]; exact c
  · rw [up_k (by decide), up_i (by omega), e14]; exact d1 t q t0 t1 q0 q1 tn
  · rw [up_i tn, up_k (by decide), e15]; exact d2 t t0 t1 tn
  · rw [up_k (by decide)]
    by_cases eq : q = m
    · subst eq; rw [up_s, if_pos List.mem_cons_self, if_pos hm.2, b2, bodyIx_s]
    · rw [up_i (by omega), e14, e q q0 q1]
      by_cases ql : q ∈ l
      · rw [if_pos ql, if_pos (List.mem_cons_of_mem _ ql), bodyIx_c l eq]
      · rw [if_neg ql, if_neg (fun w => ql ((List.mem_cons.mp w).resolve_left eq))]
  · rw [up_s, z.2 q q0 q1]
    by_cases eq : q = m
    · subst eq; rw [if_pos rfl, if_pos List.mem_cons_self, hh]
    · rw [if_neg eq, f2 q q0 q1]
      by_cases ql : q ∈ l
      · rw [if_pos ql, if_pos (List.mem_cons_of_mem _ ql)]
      · rw [if_neg ql, if_neg (fun w => ql ((List.mem_cons.mp w).resolve_left eq))]
  · rw [up_f (by decide), up_f (by decide), up_f (by decide), up_f (by decide), n5 q (by omega)]
    refine ⟨(g q q0 q1).1, fun k k0 k1 => ?_⟩
    rw [n7 _ (by omega)]; exact (g q q0 q1).2 k k0 k1
  · rw [up_f (by decide), up_f (by decide), up_f (by decide), up_f (by decide)]
    simp only [bodyIx]
    by_cases eq : q = m
    · subst eq
      rw [if_pos rfl, ← b2, n4]
      have := hR.2.2.2.2.2.2.2 q hms
      exact ⟨this.1, Arr_six hl6 (fun i i0 i1 => n6 i i0 i1) this.2⟩
    · have ql := (List.mem_cons.mp hq).resolve_left eq
      have hlt := bodyIx_lt l q ql q6
      rw [if_neg (fun w => eq w.symm), n5 _ (by omega)]
      have := i q ql q6
      exact ⟨this.1, Arr_six (hll q ql) (fun i i0 i1 => n7 _ (by omega)) this.2⟩
theorem AcL_hid {ω0 ω : Om} {n : Int} {s : RS} {ver : Int} (hW : RW n s) (h : AcL ω0 ω s s.2.2.1 ver) : ω 15 (ω0 3 7) = s.2.2.2.2.1 := by
  have hh := hW.2.2.2.2.2.2.2.2.2.2
  refine z64_ext h.2.2.2.2.2.1.1 hh.1 (fun m m0 m1 => ?_)
  rw [h.2.2.2.2.2.1.2 m m0 (by omega)]
  split
  · rfl
  · rename_i g
    rcases zb01 s.2.2.2.2.1 m with q | q
    · omega
    · exact absurd (hh.2 m m0 (by omega) q).1 g
set_option maxRecDepth 100000 in
set_option maxHeartbeats 4000000 in
theorem l_acc1 {X : Cx} {d : Nat} {Q : Option MV → Om → Prop} {ω1 : Om} {n : Int} (hn : 0 ≤ n ∧ n < 8) : ∀ (j k : Nat) (ω : Om) (x y : Option MV), k + j = 12 → AcI ω1 ω n k → (∀ (ω' : Om) (z : Int), AcI ω1 ω' n 12 → JM X mX5_accept (d + 3) Q 78 [some (vR 3), some (vR 2), some (vI n), some (vI z), x, y] [] ω') → JM X mX5_accept (d + 3) Q 58 [some (vR 3), some (vR 2), some (vI n), some (vI k), x, y] [] ω := by
  intro j
  induction j with
  | zero =>
    intro k ω x y hk hA hK
    have e12 : k = 12 := by omega
    subst e12
    refine J_iload_n 3 dX5_accept_58 rfl ?_
    refine J_bipush 12 dX5_accept_59 ⟨by decide, by decide⟩ (by decide) ?_
    refine J_icmp_ge 78 dX5_accept_61 (by decide) (fun h61 => ?_) (fun h61 => ?_)
    · skip
      exact hK ω _ hA
    · skip
      exfalso; omega
  | succ j ih =>
    intro k ω x y hk hA hK
    refine J_iload_n 3 dX5_accept_58 rfl ?_
    refine J_bipush 12 dX5_accept_59 ⟨by decide, by decide⟩ (by decide) ?_
    refine J_icmp_ge 78 dX5_accept_61 (by decide) (fun h61 => ?_) (fun h61 => ?_)
    · skip
      exfalso; omega
    · skip
      refine J_aload_n 0 dX5_accept_64 rfl ?_
      refine J_iload_n 2 dX5_accept_65 rfl ?_
      refine J_iload_n 3 dX5_accept_66 rfl ?_
      refine J_iconst (-1) dX5_accept_67 ⟨by decide, by decide⟩ ?_
      refine J_iconst 0 dX5_accept_68 ⟨by decide, by decide⟩ ?_
      refine JM_V4 lkM_X5_74 rcv_3 dX5_accept_69 (by decide) (Nat.le_of_ble_eq_true rfl) ?_
      refine kX5_put hn (by omega) ?_
      refine J_iinc_3 dX5_accept_72 (by decide) ⟨by omega, by omega⟩ rfl ?_
      refine J_goto 58 dX5_accept_75 (by decide) ?_
      exact ih (k + 1) _ _ _ (by omega) (AcI_step hn (by omega) hA) hK

set_option maxRecDepth 100000 in
set_option maxHeartbeats 4000000 in
theorem l_acc2 {X : Cx} {d : Nat} {Q : Option MV → Om → Prop} {ω0 : Om} {s : RS} (hR0 : RdC ω0 (ω0 3 7) s) (hW : RW (ω0 3 7) s) (hn : 0 ≤ ω0 3 7 ∧ ω0 3 7 < 8) (hb : 0 ≤ ω0 3 8 ∧ ω0 3 8 + nMth s.2.2.1 ≤ 40) (hv : 0 ≤ ω0 3 9 ∧ ω0 3 9 < 1000000) : ∀ (j i : Nat) (ω : Om) (x y : Option MV), i + j = s.2.2.1.length → AcL ω0 ω s (s.2.2.1.drop (s.2.2.1.length - i)) (ω0 3 9) → (∀ ω', AcL ω0 ω' s s.2.2.1 (ω0 3 9 + 1) → Q (some (vI (ω0 3 7))) ω') → JM X mX5_accept (d + 3) Q 80 [some (vR 3), some (vR 2), some (vI (ω0 3 7)), some (vI i), x, y] [] ω := by
  intro j
  have h12 : s.2.2.1.length ≤ 12 := pigeon 12 _ hW.2.2.1 (fun x hx => by have := hW.2.2.2.1 x hx; omega)
  induction j with
  | zero =>
    intro i ω x y hi hA hQ
    have e26 : ω 2 6 = s.2.2.1.length := by rw [hA.1 2 (by decide)]; exact hR0.2.2.2.1
    rw [show s.2.2.1.length - i = 0 from by omega, List.drop_zero] at hA
    have e39 := hA.2.1.2.2
    refine J_iload_n 3 dX5_accept_80 rfl ?_
    refine J_aload_n 1 dX5_accept_81 rfl ?_
    refine J_getI 6 lkF_X5_78 rfl rfl rfl dX5_accept_82 ?_
    refine J_icmp_ge 154 dX5_accept_85 (by decide) (fun h85 => ?_) (fun h85 => ?_)
    · skip
      refine J_aload_n 0 dX5_accept_154 rfl ?_
      first | refine J_dupR dX5_accept_155 ?_ | refine J_dupI dX5_accept_155 ?_
      refine J_getI 9 lkF_X5_41 rfl rfl rfl dX5_accept_156 ?_
      refine J_iconst 1 dX5_accept_159 ⟨by decide, by decide⟩ ?_
      refine J_iadd dX5_accept_160 ⟨by omega, by omega⟩ ?_
      refine J_putI 9 lkF_X5_41 rfl fp_5_9 rfl dX5_accept_161 ?_
      refine J_iload_n 2 dX5_accept_164 rfl ?_
      refine JM_iret rfl dX5_accept_165 ?_
      refine hQ _ ?_
      obtain ⟨a, b, c, d, e, f, g, h⟩ := hA
      refine ⟨a.up (by decide), ⟨by rw [up_i (by decide)]; exact b.1, by rw [up_i (by decide)]; exact b.2.1, by rw [up_s, e39]⟩, ?_, ?_, ?_, ?_, ?_, ?_⟩
      · rw [up_f (by decide), up_f (by decide), up_f (by decide)]; exact c
      · rw [up_f (by decide), up_f (by decide)]; exact d
      · rw [up_f (by decide)]; exact e
      · rw [up_f (by decide)]; exact f
      · rw [up_f (by decide), up_f (by decide)]; exact g
      · rw [up_f (by decide), up_f (by decide)]; exact h
    · skip
      exfalso; omega
  | succ j ih =>
    intro i ω x y hi hA hQ
    have f2 : ω 2 = ω0 2 := hA.1 2 (by decide)
    have f9 : ω 9 = ω0 9 := hA.1 9 (by decide)
    have f10 : ω 10 = ω0 10 := hA.1 10 (by decide)
    have f11 : ω 11 = ω0 11 := hA.1 11 (by decide)
    have e26 : ω 2 6 = s.2.2.1.length := by rw [f2]; exact hR0.2.2.2.1
    have e28 : ω 2 8 = s.2.2.2.2.1 := by rw [f2]; exact hR0.2.2.2.2.2.2.1
    have hat := Arr_at hR0.2.2.2.2.1 (i := i) (by omega)
    have hdrop := List.drop_eq_getElem_cons (l := s.2.2.1) (i := s.2.2.1.length - 1 - i) (by omega)
    rw [show s.2.2.1.length - 1 - i + 1 = s.2.2.1.length - i from by omega, ← hat] at hdrop
    have hin : ω0 9 i ∈ s.2.2.1 := by rw [hat]; exact List.getElem_mem _
    have hmR := hW.2.2.2.1 _ hin
    have hnd : (s.2.2.1.drop (s.2.2.1.length - 1 - i)).Nodup := hW.2.2.1.sublist (List.drop_sublist _ _)
    have hsub : ∀ q ∈ s.2.2.1.drop (s.2.2.1.length - i), q ∈ s.2.2.1 := fun q hq => List.mem_of_mem_drop hq
    rw [hdrop] at hnd
    have hnl := (List.nodup_cons.mp hnd).1
    have h38 := hA.2.1.2.1
    have hbound : nMth (s.2.2.1.drop (s.2.2.1.length - i)) + (if ω0 9 i < 6 then 1 else 0) ≤ nMth s.2.2.1 := by
      have hmono : ∀ (l : List Int) (k : Nat), nMth (l.drop k) ≤ nMth l := by
        intro l
        induction l with
        | nil => intro k; simp [nMth]
        | cons a l ih2 =>
          intro k
          cases k with
          | zero => simp
          | succ k => have := ih2 k; simp only [List.drop_succ_cons, nMth]; split <;> omega
      have := hmono s.2.2.1 (s.2.2.1.length - 1 - i)
      rw [hdrop] at this
      simpa only [nMth] using this
    have hnR := nMth_R (s.2.2.1.drop (s.2.2.1.length - i))
    have hzz := zb01 s.2.2.2.2.1 (ω0 9 i)
    have hzlo : zb s.2.2.2.2.1 (ω0 9 i) = 1 → ω0 9 i < 6 := fun q => (hW.2.2.2.2.2.2.2.2.2.2.2 _ hmR.1 hmR.2 q).2
    have hl6 := hW.2.2.2.2.2.2.1
    have hN := hW.2.2.2.1
    clear hW
    unfold zb at hzz hzlo
    generalize hm : ω0 9 (i : Int) = m at hat hdrop hin hmR hnd hnl hbound hzz hzlo
    refine J_iload_n 3 dX5_accept_80 rfl ?_
    refine J_aload_n 1 dX5_accept_81 rfl ?_
    refine J_getI 6 lkF_X5_78 rfl rfl rfl dX5_accept_82 ?_
    refine J_icmp_ge 154 dX5_accept_85 (by decide) (fun h85 => ?_) (fun h85 => ?_)
    · skip
      exfalso; omega
    · skip
      refine J_aload_n 1 dX5_accept_88 rfl ?_
      refine J_iload_n 3 dX5_accept_89 rfl ?_
      refine JM_V1 lkM_X5_81 rcv_2 dX5_accept_90 (by decide) (Nat.le_of_ble_eq_true rfl) ?_
      refine kX2_memberAt ?_
      rw [if_pos (by omega), f9, hm]
      refine J_istore_4 dX5_accept_93 (by decide) rfl ?_
      refine J_aload_n 1 dX5_accept_95 rfl ?_
      refine J_getI 8 lkF_X5_84 rfl rfl rfl dX5_accept_96 ?_
      refine J_iload 4 dX5_accept_99 rfl ?_
      refine J_ishr dX5_accept_101 ?_
      refine J_iconst 1 dX5_accept_102 ⟨by decide, by decide⟩ ?_
      refine J_iand dX5_accept_103 ?_
      refine J_if_eq 111 dX5_accept_104 (by decide) (fun h104 => ?_) (fun h104 => ?_)
      · skip
        rw [e28] at h104
        refine J_iconst 0 dX5_accept_111 ⟨by decide, by decide⟩ ?_
        refine J_istore_5 dX5_accept_112 (by decide) rfl ?_
        refine J_aload_n 0 dX5_accept_114 rfl ?_
        refine J_iload_n 2 dX5_accept_115 rfl ?_
        refine J_iload 4 dX5_accept_116 rfl ?_
        refine J_iload 4 dX5_accept_118 rfl ?_
        refine JM_S1 lkM_X5_86 dX5_accept_120 (by decide) (Nat.le_of_ble_eq_true rfl) ?_
        refine kX6_isMethod ?_
        generalize hg : (if 0 ≤ m ∧ m < 6 then (1 : Int) else 0) = g
        have hg2 : (g = 1 ∧ m < 6) ∨ (g = 0 ∧ ¬ m < 6) := by
          subst hg
          split
          · left; exact ⟨rfl, by omega⟩
          · right; exact ⟨rfl, by omega⟩
        refine J_if_eq 136 dX5_accept_123 (by decide) (fun h123 => ?_) (fun h123 => ?_)
        · skip
          refine J_bipush 12 dX5_accept_136 ⟨by decide, by decide⟩ (by decide) ?_
          refine J_iload_n 2 dX5_accept_138 rfl ?_
          refine J_imul dX5_accept_139 ⟨by omega, by omega⟩ ?_
          refine J_iload 4 dX5_accept_140 rfl ?_
          refine J_iadd dX5_accept_142 ⟨by omega, by omega⟩ ?_
          refine J_iload 5 dX5_accept_143 rfl ?_
          refine JM_V4 lkM_X5_74 rcv_3 dX5_accept_145 (by decide) (Nat.le_of_ble_eq_true rfl) ?_
          refine kX5_put (by omega) (by omega) ?_
          refine J_iinc_3 dX5_accept_148 (by decide) ⟨by omega, by omega⟩ rfl ?_
          refine J_goto 80 dX5_accept_151 (by decide) ?_
          refine ih (i + 1) _ _ _ (by omega) ?_ hQ
          rw [show s.2.2.1.length - (i + 1) = s.2.2.1.length - 1 - i from by omega, hdrop]
          have hRω : RdC ω (ω0 3 7) s := by
            unfold RdC
            rw [f2, f9, f10, f11]; exact hR0
          first
            | exact AcL_method hA hRω hin (hl6 m hin) (by omega) (by omega) hnl (fun q hq => (hN q (hsub q hq)).1) (fun q hq => hl6 q (hsub q hq)) (by unfold zb; omega) hNb
            | exact AcL_field hA (by omega) (by omega) hnl (by unfold zb; omega) (by omega)
        · skip
          refine J_aload_n 0 dX5_accept_126 rfl ?_
          refine J_aload_n 1 dX5_accept_127 rfl ?_
          refine J_iload 4 dX5_accept_128 rfl ?_
          refine JM_V2 lkM_X5_89 rcv_3 dX5_accept_130 (by decide) (Nat.le_of_ble_eq_true rfl) ?_
          rw [if_pos (by omega)] at hbound
          refine kX5_newBody (by omega) (by omega) (fun ω1 hNb => ?_)
          refine J_goto 143 dX5_accept_133 (by decide) ?_
          refine J_iload 5 dX5_accept_143 rfl ?_
          refine JM_V4 lkM_X5_74 rcv_3 dX5_accept_145 (by decide) (Nat.le_of_ble_eq_true rfl) ?_
          refine kX5_put (by omega) (by omega) ?_
          refine J_iinc_3 dX5_accept_148 (by decide) ⟨by omega, by omega⟩ rfl ?_
          refine J_goto 80 dX5_accept_151 (by decide) ?_
          refine ih (i + 1) _ _ _ (by omega) ?_ hQ
          rw [show s.2.2.1.length - (i + 1) = s.2.2.1.length - 1 - i from by omega, hdrop]
          have hRω : RdC ω (ω0 3 7) s := by
            unfold RdC
            rw [f2, f9, f10, f11]; exact hR0
          first
            | exact AcL_method hA hRω hin (hl6 m hin) (by omega) (by omega) hnl (fun q hq => (hN q (hsub q hq)).1) (fun q hq => hl6 q (hsub q hq)) (by unfold zb; omega) hNb
            | exact AcL_field hA (by omega) (by omega) hnl (by unfold zb; omega) (by omega)
      · skip
        rw [e28] at h104
        refine J_iconst 1 dX5_accept_107 ⟨by decide, by decide⟩ ?_
        refine J_goto 112 dX5_accept_108 (by decide) ?_
        refine J_istore_5 dX5_accept_112 (by decide) rfl ?_
        refine J_aload_n 0 dX5_accept_114 rfl ?_
        refine J_iload_n 2 dX5_accept_115 rfl ?_
        refine J_iload 4 dX5_accept_116 rfl ?_
        refine J_iload 4 dX5_accept_118 rfl ?_
        refine JM_S1 lkM_X5_86 dX5_accept_120 (by decide) (Nat.le_of_ble_eq_true rfl) ?_
        refine kX6_isMethod ?_
        generalize hg : (if 0 ≤ m ∧ m < 6 then (1 : Int) else 0) = g
        have hg2 : (g = 1 ∧ m < 6) ∨ (g = 0 ∧ ¬ m < 6) := by
          subst hg
          split
          · left; exact ⟨rfl, by omega⟩
          · right; exact ⟨rfl, by omega⟩
        refine J_if_eq 136 dX5_accept_123 (by decide) (fun h123 => ?_) (fun h123 => ?_)
        · skip
          refine J_bipush 12 dX5_accept_136 ⟨by decide, by decide⟩ (by decide) ?_
          refine J_iload_n 2 dX5_accept_138 rfl ?_
          refine J_imul dX5_accept_139 ⟨by omega, by omega⟩ ?_
          refine J_iload 4 dX5_accept_140 rfl ?_
          refine J_iadd dX5_accept_142 ⟨by omega, by omega⟩ ?_
          refine J_iload 5 dX5_accept_143 rfl ?_
          refine JM_V4 lkM_X5_74 rcv_3 dX5_accept_145 (by decide) (Nat.le_of_ble_eq_true rfl) ?_
          refine kX5_put (by omega) (by omega) ?_
          refine J_iinc_3 dX5_accept_148 (by decide) ⟨by omega, by omega⟩ rfl ?_
          refine J_goto 80 dX5_accept_151 (by decide) ?_
          refine ih (i + 1) _ _ _ (by omega) ?_ hQ
          rw [show s.2.2.1.length - (i + 1) = s.2.2.1.length - 1 - i from by omega, hdrop]
          have hRω : RdC ω (ω0 3 7) s := by
            unfold RdC
            rw [f2, f9, f10, f11]; exact hR0
          first
            | exact AcL_method hA hRω hin (hl6 m hin) (by omega) (by omega) hnl (fun q hq => (hN q (hsub q hq)).1) (fun q hq => hl6 q (hsub q hq)) (by unfold zb; omega) hNb
            | exact AcL_field hA (by omega) (by omega) hnl (by unfold zb; omega) (by omega)
        · skip
          refine J_aload_n 0 dX5_accept_126 rfl ?_
          refine J_aload_n 1 dX5_accept_127 rfl ?_
          refine J_iload 4 dX5_accept_128 rfl ?_
          refine JM_V2 lkM_X5_89 rcv_3 dX5_accept_130 (by decide) (Nat.le_of_ble_eq_true rfl) ?_
          rw [if_pos (by omega)] at hbound
          refine kX5_newBody (by omega) (by omega) (fun ω1 hNb => ?_)
          refine J_goto 143 dX5_accept_133 (by decide) ?_
          refine J_iload 5 dX5_accept_143 rfl ?_
          refine JM_V4 lkM_X5_74 rcv_3 dX5_accept_145 (by decide) (Nat.le_of_ble_eq_true rfl) ?_
          refine kX5_put (by omega) (by omega) ?_
          refine J_iinc_3 dX5_accept_148 (by decide) ⟨by omega, by omega⟩ rfl ?_
          refine J_goto 80 dX5_accept_151 (by decide) ?_
          refine ih (i + 1) _ _ _ (by omega) ?_ hQ
          rw [show s.2.2.1.length - (i + 1) = s.2.2.1.length - 1 - i from by omega, hdrop]
          have hRω : RdC ω (ω0 3 7) s := by
            unfold RdC
            rw [f2, f9, f10, f11]; exact hR0
          first
            | exact AcL_method hA hRω hin (hl6 m hin) (by omega) (by omega) hnl (fun q hq => (hN q (hsub q hq)).1) (fun q hq => hl6 q (hsub q hq)) (by unfold zb; omega) hNb
            | exact AcL_field hA (by omega) (by omega) hnl (by unfold zb; omega) (by omega)

set_option maxRecDepth 100000 in
set_option maxHeartbeats 4000000 in
theorem kX5_accept {X : Cx} {d : Nat} {ω : Om} {Q : Option MV → Om → Prop} {s : RS} (hR : RdC ω (ω 3 7) s) (hW : RW (ω 3 7) s) (hn : 0 ≤ ω 3 7 ∧ ω 3 7 < 8) (hb : 0 ≤ ω 3 8 ∧ ω 3 8 + nMth s.2.2.1 ≤ 40) (hv : 0 ≤ ω 3 9 ∧ ω 3 9 < 1000000) (hG : GW ω) (hQ : ∀ ω', AcL ω ω' s s.2.2.1 (ω 3 9 + 1) → Q (some (vI (ω 3 7))) ω') : Mc X mX5_accept (d + 3) [vR 3, vR 2] ω Q := by
  refine Mc_of [some (vR 3), some (vR 2), none, none, none, none] (by decide +kernel) rfl (Nat.le_of_ble_eq_true rfl) ?_
  refine J_aload_n 0 dX5_accept_0 rfl ?_
  refine J_getI 7 lkF_X5_34 rfl rfl rfl dX5_accept_1 ?_
  refine J_istore_2 dX5_accept_4 (by decide) rfl ?_
  refine J_iload_n 2 dX5_accept_5 rfl ?_
  refine J_if_lt 15 dX5_accept_6 (by decide) (fun h6 => ?_) (fun h6 => ?_)
  · skip
    exfalso; omega
  · skip
    refine J_iload_n 2 dX5_accept_9 rfl ?_
    refine J_bipush 8 dX5_accept_10 ⟨by decide, by decide⟩ (by decide) ?_
    refine J_icmp_lt 19 dX5_accept_12 (by decide) (fun h12 => ?_) (fun h12 => ?_)
    · skip
      refine J_aload_n 0 dX5_accept_19 rfl ?_
      first | refine J_dupR dX5_accept_20 ?_ | refine J_dupI dX5_accept_20 ?_
      refine J_getI 7 lkF_X5_34 rfl rfl rfl dX5_accept_21 ?_
      refine J_iconst 1 dX5_accept_24 ⟨by decide, by decide⟩ ?_
      refine J_iadd dX5_accept_25 ⟨by omega, by omega⟩ ?_
      refine J_putI 7 lkF_X5_34 rfl fp_5_7 rfl dX5_accept_26 ?_
      refine J_aload_n 0 dX5_accept_29 rfl ?_
      refine J_getR lkF_X5_9 rfl dX5_accept_30 ?_
      refine J_iload_n 2 dX5_accept_33 rfl ?_
      refine J_aload_n 1 dX5_accept_34 rfl ?_
      refine J_getI 5 lkF_X5_71 rfl rfl rfl dX5_accept_35 ?_
      try simp (config := {decide := true}) only [up_s, up_k, up_i]
      refine J_iastore _ rfl (by omega) dX5_accept_38 ?_
      refine J_aload_n 0 dX5_accept_39 rfl ?_
      refine J_getR lkF_X5_15 rfl dX5_accept_40 ?_
      refine J_iload_n 2 dX5_accept_43 rfl ?_
      refine J_iconst 0 dX5_accept_44 ⟨by decide, by decide⟩ ?_
      refine J_bastore _ rfl (by omega) (by omega) dX5_accept_45 ?_
      refine J_aload_n 0 dX5_accept_46 rfl ?_
      refine J_getR lkF_X5_25 rfl dX5_accept_47 ?_
      refine J_iload_n 2 dX5_accept_50 rfl ?_
      refine J_aload_n 0 dX5_accept_51 rfl ?_
      refine J_getI 8 lkF_X5_38 rfl rfl rfl dX5_accept_52 ?_
      try simp (config := {decide := true}) only [up_s, up_k, up_i]
      refine J_iastore _ rfl (by omega) dX5_accept_55 ?_
      refine J_iconst 0 dX5_accept_56 ⟨by decide, by decide⟩ ?_
      refine J_istore_3 dX5_accept_57 (by decide) rfl ?_
      rw [show ω 2 5 = s.2.1 from hR.2.2.1]
      refine l_acc1 (ω1 := up (up (up (up ω 3 7 (ω 3 7 + 1)) 12 (ω 3 7) s.2.1) 13 (ω 3 7) 0) 16 (ω 3 7) (ω 3 8)) (by omega) 12 0 _ _ _ rfl ⟨Fr.rf, fun _ _ _ _ _ _ _ => rfl, fun _ _ _ _ => rfl, fun m m0 m1 => by omega, ?_, fun m m0 m1 => by omega⟩ (fun ω2 z hI => ?_)
      · rw [up_k (by decide), up_k (by decide), up_k (by decide), up_k (by decide)]; exact hG _ hn.1 hn.2
      refine J_iconst 0 dX5_accept_78 ⟨by decide, by decide⟩ ?_
      refine J_istore_3 dX5_accept_79 (by decide) rfl ?_
      exact l_acc2 hR hW hn hb hv s.2.2.1.length 0 ω2 _ _ (by omega) (by rw [Nat.sub_zero, List.drop_length]; exact AcL_0 hn rfl hI) hQ
    · skip
      exfalso; omega
