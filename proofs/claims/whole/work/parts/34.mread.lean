/-! the model reads a class -/
def RF (ω ω' : Om) : Prop := Fr [29, 41, 42, 43] ω ω' ∧ ∀ i, i ≠ 19 → i ≠ 20 → i ≠ 21 → i ≠ 22 → i ≠ 23 → i ≠ 27 → ω' 29 i = ω 29 i
theorem RF.rf (ω : Om) : RF ω ω := ⟨Fr.rf, fun _ _ _ _ _ _ _ => rfl⟩
theorem RF.tr {a b c : Om} (h : RF a b) (g : RF b c) : RF a c := ⟨h.1.tr g.1, fun i x y z w v u => (g.2 i x y z w v u).trans (h.2 i x y z w v u)⟩
theorem RF.u9 {a b : Om} (h : RF a b) {i z : Int} (hi : i = 19 ∨ i = 20 ∨ i = 21 ∨ i = 22 ∨ i = 23 ∨ i = 27) : RF a (up b 29 i z) := ⟨h.1.up (by decide), fun j x y z w v u => by rw [up_i (by omega)]; exact h.2 j x y z w v u⟩
theorem RF.uk {a b : Om} (h : RF a b) {k : Nat} {i z : Int} (hk : k ∈ [41, 42, 43]) : RF a (up b k i z) := by
  refine ⟨h.1.up (List.mem_cons_of_mem _ hk), fun j x y z w v u => ?_⟩
  have : (29 : Nat) ≠ k := fun e => by subst e; revert hk; decide
  rw [up_k this]
  exact h.2 j x y z w v u
/-- the model's cells hold s -/
def RdM (ω : Om) (s : RS) : Prop := ω 29 19 = s.1 ∧ ω 29 20 = s.2.1 ∧ ω 29 21 = s.2.2.2.1 ∧ ω 29 22 = s.2.2.2.2.1 ∧ ω 29 23 = nMth s.2.2.1 ∧ (∀ r l, s.2.2.1 = r :: l → ω 29 27 = r) ∧
  ∀ m ∈ s.2.2.1, m < 6 → ω 41 m = bodyIx s.2.2.1 m ∧ ω 42 (bodyIx s.2.2.1 m) = (s.2.2.2.2.2 m).length ∧ Arr (fun i => ω 43 (6 * bodyIx s.2.2.1 m + i)) (s.2.2.2.2.2 m)
def TkM (o : Option RS) (r : Int) (ω : Om) : Prop := (o = none ∧ r = 0) ∨ ∃ s', o = some s' ∧ r = 1 ∧ RdM ω s'
theorem TkM01 {o : Option RS} {r : Int} {ω : Om} (h : TkM o r ω) : r = 0 ∨ r = 1 := by
  rcases h with ⟨_, q⟩ | ⟨_, _, q, _⟩
  · exact Or.inl q
  · exact Or.inr q
theorem RdM_go {ω : Om} {s : RS} {st : Int} (h : RdM ω s) : RdM (up ω 29 19 st) (goS s st) := by
  obtain ⟨a1, a2, a3, a4, a5, a6, a7⟩ := h
  refine ⟨up_s, by rw [up_i (by decide)]; exact a2, by rw [up_i (by decide)]; exact a3, by rw [up_i (by decide)]; exact a4, by rw [up_i (by decide)]; exact a5, fun r l e => by rw [up_i (by decide)]; exact a6 r l e, fun m hm h6 => ?_⟩
  rw [up_f (by decide), up_f (by decide), up_f (by decide)]
  exact a7 m hm h6
theorem nMth_6 {l : List Int} (hn : l.Nodup) (hr : ∀ m ∈ l, 0 ≤ m ∧ m < 12) : nMth l ≤ 6 := by
  rw [nMth_sum l hn hr]
  have : ∀ k, inS k l ≤ 1 := fun k => by unfold inS; split <;> decide
  have h0 := this 0; have h1 := this 1; have h2 := this 2; have h3 := this 3; have h4 := this 4; have h5 := this 5
  omega
theorem RdM_meth {ω ω' : Om} {n : Int} {s : RS} {m : Int} (h : RdM ω s) (hW : RW n s) (hm : 0 ≤ m ∧ m < 6) (hn : m ∉ s.2.2.1) (e19 : ω' 29 19 = 5) (e20 : ω' 29 20 = ω 29 20) (e21 : ω' 29 21 = zOr (ω 29 21) (zShl 1 m)) (e22 : ω' 29 22 = ω 29 22) (e23 : ω' 29 23 = ω 29 23 + 1) (e27 : ω' 29 27 = m)
    (e41 : ∀ i, ω' 41 i = if i = m then ω 29 23 else ω 41 i) (e42 : ∀ i, ω' 42 i = if i = ω 29 23 then 0 else ω 42 i) (e43 : ω' 43 = ω 43) : RdM ω' (5, s.2.1, m :: s.2.2.1, zOr s.2.2.2.1 (zShl 1 m), s.2.2.2.2.1, setI s.2.2.2.2.2 m []) := by
  obtain ⟨a1, a2, a3, a4, a5, a6, a7⟩ := h
  refine ⟨e19, by rw [e20]; exact a2, by rw [e21, a3], by rw [e22]; exact a4, ?_, ?_, fun q hq h6 => ?_⟩
  · rw [e23, a5]; simp only [nMth]; rw [if_pos hm.2]
  · intro r l e
    simp only [List.cons.injEq] at e
    rw [e27]; exact e.1
  · simp only [setI]
    by_cases e : q = m
    · subst e
      rw [if_pos rfl, bodyIx_s, e41, if_pos rfl, e42, if_pos (by rw [a5])]
      exact ⟨a5, rfl, trivial⟩
    · have hq' : q ∈ s.2.2.1 := (List.mem_cons.mp hq).resolve_left e
      have hlt := bodyIx_lt s.2.2.1 q hq' h6
      have aq := a7 q hq' h6
      rw [if_neg e, bodyIx_c _ e, e41, if_neg e, e42, if_neg (by omega), e43]
      exact aq
theorem RdM_field {ω ω' : Om} {s : RS} {m : Int} (h : RdM ω s) (hm : 6 ≤ m) (hn : m ∉ s.2.2.1) (e19 : ω' 29 19 = 4) (e20 : ω' 29 20 = ω 29 20) (e21 : ω' 29 21 = zOr (ω 29 21) (zShl 1 m)) (e22 : ω' 29 22 = ω 29 22) (e23 : ω' 29 23 = ω 29 23) (e27 : ω' 29 27 = m)
    (e41 : ω' 41 = ω 41) (e42 : ω' 42 = ω 42) (e43 : ω' 43 = ω 43) : RdM ω' (4, s.2.1, m :: s.2.2.1, zOr s.2.2.2.1 (zShl 1 m), s.2.2.2.2.1, setI s.2.2.2.2.2 m []) := by
  obtain ⟨a1, a2, a3, a4, a5, a6, a7⟩ := h
  refine ⟨e19, by rw [e20]; exact a2, by rw [e21, a3], by rw [e22]; exact a4, ?_, ?_, fun q hq h6 => ?_⟩
  · rw [e23, a5]; simp only [nMth]; rw [if_neg (by omega)]; omega
  · intro r l e
    simp only [List.cons.injEq] at e
    rw [e27]; exact e.1
  · have e : q ≠ m := by omega
    have hq' : q ∈ s.2.2.1 := (List.mem_cons.mp hq).resolve_left e
    simp only [setI]
    rw [if_neg e, bodyIx_c _ e, e41, e42, e43]
    exact a7 q hq' h6
theorem RdM_dash {ω : Om} {s : RS} {h' : Int} (h : RdM ω s) : RdM (up (up ω 29 22 h') 29 19 6) (6, s.2.1, s.2.2.1, s.2.2.2.1, h', s.2.2.2.2.2) := by
  obtain ⟨a1, a2, a3, a4, a5, a6, a7⟩ := h
  refine ⟨up_s, by rw [up_i (by decide), up_i (by decide)]; exact a2, by rw [up_i (by decide), up_i (by decide)]; exact a3, by rw [up_i (by decide), up_s], by rw [up_i (by decide), up_i (by decide)]; exact a5, fun r l e => by rw [up_i (by decide), up_i (by decide)]; exact a6 r l e, fun m hm h6 => ?_⟩
  rw [up_f (by decide), up_f (by decide), up_f (by decide), up_f (by decide), up_f (by decide), up_f (by decide)]
  exact a7 m hm h6
theorem RdM_par {ω : Om} {s : RS} {p : Int} (h : RdM ω s) : RdM (up (up ω 29 20 p) 29 19 3) (3, p, s.2.2) := by
  obtain ⟨a1, a2, a3, a4, a5, a6, a7⟩ := h
  refine ⟨up_s, by rw [up_i (by decide), up_s], by rw [up_i (by decide), up_i (by decide)]; exact a3, by rw [up_i (by decide), up_i (by decide)]; exact a4, by rw [up_i (by decide), up_i (by decide)]; exact a5, fun r l e => by rw [up_i (by decide), up_i (by decide)]; exact a6 r l e, fun m hm h6 => ?_⟩
  rw [up_f (by decide), up_f (by decide), up_f (by decide), up_f (by decide), up_f (by decide), up_f (by decide)]
  exact a7 m hm h6
/-- bodies are told one behind the other -/
theorem bodyIx_inj : ∀ {l : List Int} {a b : Int}, a ∈ l → b ∈ l → a < 6 → b < 6 → bodyIx l a = bodyIx l b → a = b := by
  intro l
  induction l with
  | nil => intro a b ha _ _ _ _; exact absurd ha List.not_mem_nil
  | cons x l ih =>
    intro a b ha hb a6 b6 e
    by_cases h1 : a = x
    · by_cases h2 : b = x
      · rw [h1, h2]
      · have hb' := (List.mem_cons.mp hb).resolve_left h2
        have := bodyIx_lt l b hb' b6
        rw [h1, bodyIx_s, bodyIx_c l h2] at e
        omega
    · have ha' := (List.mem_cons.mp ha).resolve_left h1
      by_cases h2 : b = x
      · have := bodyIx_lt l a ha' a6
        rw [h2, bodyIx_s, bodyIx_c l h1] at e
        omega
      · have hb' := (List.mem_cons.mp hb).resolve_left h2
        rw [bodyIx_c l h1, bodyIx_c l h2] at e
        exact ih ha' hb' a6 b6 e
theorem bodyIx_sur : ∀ {l : List Int} {b : Int}, l.Nodup → 0 ≤ b → b < nMth l → ∃ m, m ∈ l ∧ m < 6 ∧ bodyIx l m = b := by
  intro l
  induction l with
  | nil => intro b _ h0 h1; simp only [nMth] at h1; omega
  | cons x l ih =>
    intro b hn h0 h1
    have hnx := (List.nodup_cons.1 hn).1
    simp only [nMth] at h1
    by_cases q : x < 6 ∧ b = nMth l
    · exact ⟨x, List.mem_cons_self, q.1, by rw [bodyIx_s, q.2]⟩
    · have : b < nMth l := by
        by_cases h : x < 6
        · rw [if_pos h] at h1; omega
        · rw [if_neg h] at h1; omega
      obtain ⟨m, hm, h6, e⟩ := ih (List.nodup_cons.1 hn).2 h0 this
      have : m ≠ x := fun w => hnx (by rw [← w]; exact hm)
      exact ⟨m, List.mem_cons_of_mem _ hm, h6, by rw [bodyIx_c l this]; exact e⟩
theorem RdM_add {ω : Om} {n : Int} {s : RS} {r it : Int} {l : List Int} (h : RdM ω s) (hW : RW n s) (e : s.2.2.1 = r :: l) (hr : r < 6) (hl : (s.2.2.2.2.2 r).length < 6) : RdM (up (up (up ω 43 (6 * nMth l + (s.2.2.2.2.2 r).length) it) 42 (nMth l) ((s.2.2.2.2.2 r).length + 1)) 29 19 7) (addS s it) := by
  obtain ⟨a1, a2, a3, a4, a5, a6, a7⟩ := h
  have el : lastS s = r := by unfold lastS; rw [e]
  refine ⟨by rw [up_s]; rfl, by rw [up_i (by decide), up_k (by decide), up_k (by decide)]; exact a2, by rw [up_i (by decide), up_k (by decide), up_k (by decide)]; exact a3, by rw [up_i (by decide), up_k (by decide), up_k (by decide)]; exact a4, by rw [up_i (by decide), up_k (by decide), up_k (by decide)]; exact a5, fun r l e => by rw [up_i (by decide), up_k (by decide), up_k (by decide)]; exact a6 r l e, fun q hq h6 => ?_⟩
  have hq0 : q ∈ s.2.2.1 := hq
  have aq := a7 q hq0 h6
  have hq6 := hW.2.2.2.2.2.2.1 q hq
  have hlt := bodyIx_lt s.2.2.1 q hq h6
  simp only [addS, setI, el]
  have hrl : bodyIx s.2.2.1 r = nMth l := by rw [e, bodyIx_s]
  rw [up_k (by decide), up_k (by decide), up_k (by decide), up_k (by decide)]
  refine ⟨aq.1, ?_, ?_⟩
  · by_cases eq : q = r
    · rw [if_pos eq, eq, hrl, up_s]; simp
    · rw [if_neg eq, up_i, up_k (by decide)]
      · exact aq.2.1
      · intro w
        exact eq (bodyIx_inj hq0 (by rw [e]; exact List.mem_cons_self) h6 hr (by rw [w, hrl]))
  · rw [show (fun i => up (up (up ω 43 (6 * nMth l + (s.2.2.2.2.2 r).length) it) 42 (nMth l) ((s.2.2.2.2.2 r).length + 1)) 29 19 7 43 (6 * bodyIx s.2.2.1 q + i)) = (fun i => up ω 43 (6 * nMth l + (s.2.2.2.2.2 r).length) it 43 (6 * bodyIx s.2.2.1 q + i)) from by funext i; rw [up_k (by decide), up_k (by decide)]]
    by_cases eq : q = r
    · rw [if_pos eq, eq, hrl]
      refine ⟨up_s, ?_⟩
      have := aq.2.2
      rw [eq, hrl] at this
      exact Arr_cg (fun i hi => by rw [up_i (by omega)]) this
    · rw [if_neg eq]
      refine Arr_cg (fun i hi => ?_) aq.2.2
      have hne : bodyIx s.2.2.1 q ≠ nMth l := fun w => eq (bodyIx_inj hq0 (by rw [e]; exact List.mem_cons_self) h6 hr (by rw [w, hrl]))
      rw [up_i (by omega)]
set_option maxRecDepth 100000 in
set_option maxHeartbeats 4000000 in
theorem kX7_takesMember {X : Cx} {d : Nat} {ω : Om} {Q : Option MV → Om → Prop} {n c : Int} {s : RS} (hR : RdM ω s) (hW : RW n s) (hc : -100 ≤ c ∧ c ≤ 1000) (hQ : ∀ (r : Int) (ω' : Om), TkM (membS c s) r ω' → RF ω ω' → Q (some (vI r)) ω') : Mc X mX7_takesMember (d + 2) [vR 29, vI c] ω Q := by
  have hmr := memS_R c
  unfold membS at hQ
  obtain ⟨a1, a2, a3, a4, a5, a6, a7⟩ := id hR
  have hnn := hW.2.2.1
  have hrg := hW.2.2.2.1
  have hzb := hW.2.2.2.2.1
  have hn0 := (nMth_R s.2.2.1).1
  have hW0 : RW n s := hW
  clear hW
  refine Mc_of [some (vR 29), some (vI c), none] (by decide +kernel) rfl (Nat.le_of_ble_eq_true rfl) ?_
  refine J_iload_n 1 dX7_takesMember_0 rfl ?_
  refine JM_S1 lkM_X7_85 dX7_takesMember_1 (by decide) (Nat.le_of_ble_eq_true rfl) ?_
  refine kX7_memberAt hc ?_
  generalize memS c = m at *
  refine J_istore_2 dX7_takesMember_4 (by decide) rfl ?_
  refine J_iload_n 2 dX7_takesMember_5 rfl ?_
  refine J_iconst (-1) dX7_takesMember_6 ⟨by decide, by decide⟩ ?_
  refine J_icmp_eq 21 dX7_takesMember_7 (by decide) (fun h7 => ?_) (fun h7 => ?_)
  · skip
    refine J_iconst 0 dX7_takesMember_21 ⟨by decide, by decide⟩ ?_
    refine JM_zret rfl (by omega) dX7_takesMember_22 ?_
    first | (rw [if_pos (by omega)] at hQ; exact hQ 0 ω (Or.inl ⟨rfl, rfl⟩) (RF.rf ω)) | (rw [if_neg (by omega), if_pos (by omega)] at hQ; exact hQ 0 ω (Or.inl ⟨rfl, rfl⟩) (RF.rf ω))
  · skip
    refine J_aload_n 0 dX7_takesMember_10 rfl ?_
    refine J_getI 21 lkF_X7_89 rfl rfl rfl dX7_takesMember_11 ?_
    refine J_iload_n 2 dX7_takesMember_14 rfl ?_
    refine JM_S2 lkM_X7_92 dX7_takesMember_15 (by decide) (Nat.le_of_ble_eq_true rfl) ?_
    refine kX7_hasBit ?_
    rw [a3]
    have hz1 := zb01 s.2.2.2.1 m
    have hzm := hzb m (by omega) (by omega)
    refine J_if_eq 23 dX7_takesMember_18 (by decide) (fun h18 => ?_) (fun h18 => ?_)
    · skip
      have hnin : m ∉ s.2.2.1 := fun q => by rw [if_pos q] at hzm; omega
      rw [if_neg (by omega), if_neg (by omega)] at hQ
      have h6 : m < 6 → nMth s.2.2.1 < 6 := fun q => by
        have := nMth_6 (l := m :: s.2.2.1) (List.nodup_cons.2 ⟨hnin, hnn⟩) (fun x hx => by rcases List.mem_cons.1 hx with w | w; (rw [w]; omega); exact hrg x w)
        simp only [nMth] at this
        rw [if_pos q] at this
        omega
      clear hzb
      refine J_aload_n 0 dX7_takesMember_23 rfl ?_
      first | refine J_dupR dX7_takesMember_24 ?_ | refine J_dupI dX7_takesMember_24 ?_
      refine J_getI 21 lkF_X7_89 rfl rfl rfl dX7_takesMember_25 ?_
      refine J_iconst 1 dX7_takesMember_28 ⟨by decide, by decide⟩ ?_
      refine J_iload_n 2 dX7_takesMember_29 rfl ?_
      refine J_ishl dX7_takesMember_30 ?_
      refine J_ior dX7_takesMember_31 ?_
      refine J_putI 21 lkF_X7_89 rfl fp_7_21 rfl dX7_takesMember_32 ?_
      refine J_aload_n 0 dX7_takesMember_35 rfl ?_
      refine J_iconst 4 dX7_takesMember_36 ⟨by decide, by decide⟩ ?_
      refine J_putI 19 lkF_X7_96 rfl fp_7_19 rfl dX7_takesMember_37 ?_
      refine J_iload_n 2 dX7_takesMember_40 rfl ?_
      refine J_bipush 6 dX7_takesMember_41 ⟨by decide, by decide⟩ (by decide) ?_
      refine J_icmp_ge 81 dX7_takesMember_43 (by decide) (fun h43 => ?_) (fun h43 => ?_)
      · skip
        refine J_aload_n 0 dX7_takesMember_81 rfl ?_
        refine J_iload_n 2 dX7_takesMember_82 rfl ?_
        refine J_putI 27 lkF_X7_102 rfl fp_7_27 rfl dX7_takesMember_83 ?_
        refine J_iconst 1 dX7_takesMember_86 ⟨by decide, by decide⟩ ?_
        refine JM_zret rfl (by omega) dX7_takesMember_87 ?_
        first
          | (rw [if_neg (by omega)] at hQ
             refine hQ 1 _ (Or.inr ⟨_, rfl, rfl, RdM_field (m := m) hR (by omega) hnin ?_ ?_ ?_ ?_ ?_ ?_ ?_ ?_ ?_⟩) ((((RF.rf ω).u9 (by omega)).u9 (by omega)).u9 (by omega))
             · simp (config := {decide := true}) only [up_s, up_k, up_i]
             · simp (config := {decide := true}) only [up_s, up_k, up_i]
             · simp (config := {decide := true}) only [up_s, up_k, up_i]
             · simp (config := {decide := true}) only [up_s, up_k, up_i]
             · simp (config := {decide := true}) only [up_s, up_k, up_i]
             · simp (config := {decide := true}) only [up_s, up_k, up_i]
             · rw [up_f (by decide), up_f (by decide), up_f (by decide)]
             · rw [up_f (by decide), up_f (by decide), up_f (by decide)]
             · rw [up_f (by decide), up_f (by decide), up_f (by decide)])
          | (rw [if_pos (by omega)] at hQ
             refine hQ 1 _ (Or.inr ⟨_, rfl, rfl, RdM_meth (m := m) hR hW0 (by omega) hnin ?_ ?_ ?_ ?_ ?_ ?_ (fun i => ?_) (fun i => ?_) ?_⟩) ((((((((RF.rf ω).u9 (by omega)).u9 (by omega)).uk (by decide)).uk (by decide)).u9 (by omega)).u9 (by omega)).u9 (by omega))
             · simp (config := {decide := true}) only [up_s, up_k, up_i]
             · simp (config := {decide := true}) only [up_s, up_k, up_i]
             · simp (config := {decide := true}) only [up_s, up_k, up_i]
             · simp (config := {decide := true}) only [up_s, up_k, up_i]
             · simp (config := {decide := true}) only [up_s, up_k, up_i]
             · simp (config := {decide := true}) only [up_s, up_k, up_i]
             · rw [up_k (by decide), up_k (by decide), up_k (by decide), up_k (by decide)]
               by_cases q : i = m
               · rw [q, up_s, if_pos rfl]
               · rw [up_i q, if_neg q, up_k (by decide), up_k (by decide)]
             · rw [up_k (by decide), up_k (by decide), up_k (by decide)]
               by_cases q : i = ω 29 23
               · rw [q, up_s, if_pos rfl]
               · rw [up_i q, if_neg q, up_k (by decide), up_k (by decide), up_k (by decide)]
             · rw [up_f (by decide), up_f (by decide), up_f (by decide), up_f (by decide), up_f (by decide), up_f (by decide), up_f (by decide)])
      · skip
        have hn6 := h6 (by omega)
        refine J_aload_n 0 dX7_takesMember_46 rfl ?_
        refine J_getR lkF_X7_44 rfl dX7_takesMember_47 ?_
        refine J_iload_n 2 dX7_takesMember_50 rfl ?_
        refine J_aload_n 0 dX7_takesMember_51 rfl ?_
        refine J_getI 23 lkF_X7_99 rfl rfl rfl dX7_takesMember_52 ?_
        try simp (config := {decide := true}) only [up_s, up_k, up_i]
        refine J_iastore _ rfl (by omega) dX7_takesMember_55 ?_
        refine J_aload_n 0 dX7_takesMember_56 rfl ?_
        refine J_getR lkF_X7_47 rfl dX7_takesMember_57 ?_
        refine J_aload_n 0 dX7_takesMember_60 rfl ?_
        refine J_getI 23 lkF_X7_99 rfl rfl rfl dX7_takesMember_61 ?_
        try simp (config := {decide := true}) only [up_s, up_k, up_i]
        refine J_iconst 0 dX7_takesMember_64 ⟨by decide, by decide⟩ ?_
        refine J_iastore _ rfl (by omega) dX7_takesMember_65 ?_
        refine J_aload_n 0 dX7_takesMember_66 rfl ?_
        first | refine J_dupR dX7_takesMember_67 ?_ | refine J_dupI dX7_takesMember_67 ?_
        refine J_getI 23 lkF_X7_99 rfl rfl rfl dX7_takesMember_68 ?_
        try simp (config := {decide := true}) only [up_s, up_k, up_i]
        refine J_iconst 1 dX7_takesMember_71 ⟨by decide, by decide⟩ ?_
        refine J_iadd dX7_takesMember_72 ⟨by omega, by omega⟩ ?_
        refine J_putI 23 lkF_X7_99 rfl fp_7_23 rfl dX7_takesMember_73 ?_
        refine J_aload_n 0 dX7_takesMember_76 rfl ?_
        refine J_iconst 5 dX7_takesMember_77 ⟨by decide, by decide⟩ ?_
        refine J_putI 19 lkF_X7_96 rfl fp_7_19 rfl dX7_takesMember_78 ?_
        refine J_aload_n 0 dX7_takesMember_81 rfl ?_
        refine J_iload_n 2 dX7_takesMember_82 rfl ?_
        refine J_putI 27 lkF_X7_102 rfl fp_7_27 rfl dX7_takesMember_83 ?_
        refine J_iconst 1 dX7_takesMember_86 ⟨by decide, by decide⟩ ?_
        refine JM_zret rfl (by omega) dX7_takesMember_87 ?_
        first
          | (rw [if_neg (by omega)] at hQ
             refine hQ 1 _ (Or.inr ⟨_, rfl, rfl, RdM_field (m := m) hR (by omega) hnin ?_ ?_ ?_ ?_ ?_ ?_ ?_ ?_ ?_⟩) ((((RF.rf ω).u9 (by omega)).u9 (by omega)).u9 (by omega))
             · simp (config := {decide := true}) only [up_s, up_k, up_i]
             · simp (config := {decide := true}) only [up_s, up_k, up_i]
             · simp (config := {decide := true}) only [up_s, up_k, up_i]
             · simp (config := {decide := true}) only [up_s, up_k, up_i]
             · simp (config := {decide := true}) only [up_s, up_k, up_i]
             · simp (config := {decide := true}) only [up_s, up_k, up_i]
             · rw [up_f (by decide), up_f (by decide), up_f (by decide)]
             · rw [up_f (by decide), up_f (by decide), up_f (by decide)]
             · rw [up_f (by decide), up_f (by decide), up_f (by decide)])
          | (rw [if_pos (by omega)] at hQ
             refine hQ 1 _ (Or.inr ⟨_, rfl, rfl, RdM_meth (m := m) hR hW0 (by omega) hnin ?_ ?_ ?_ ?_ ?_ ?_ (fun i => ?_) (fun i => ?_) ?_⟩) ((((((((RF.rf ω).u9 (by omega)).u9 (by omega)).uk (by decide)).uk (by decide)).u9 (by omega)).u9 (by omega)).u9 (by omega))
             · simp (config := {decide := true}) only [up_s, up_k, up_i]
             · simp (config := {decide := true}) only [up_s, up_k, up_i]
             · simp (config := {decide := true}) only [up_s, up_k, up_i]
             · simp (config := {decide := true}) only [up_s, up_k, up_i]
             · simp (config := {decide := true}) only [up_s, up_k, up_i]
             · simp (config := {decide := true}) only [up_s, up_k, up_i]
             · rw [up_k (by decide), up_k (by decide), up_k (by decide), up_k (by decide)]
               by_cases q : i = m
               · rw [q, up_s, if_pos rfl]
               · rw [up_i q, if_neg q, up_k (by decide), up_k (by decide)]
             · rw [up_k (by decide), up_k (by decide), up_k (by decide)]
               by_cases q : i = ω 29 23
               · rw [q, up_s, if_pos rfl]
               · rw [up_i q, if_neg q, up_k (by decide), up_k (by decide), up_k (by decide)]
             · rw [up_f (by decide), up_f (by decide), up_f (by decide), up_f (by decide), up_f (by decide), up_f (by decide), up_f (by decide)])
    · skip
      refine J_iconst 0 dX7_takesMember_21 ⟨by decide, by decide⟩ ?_
      refine JM_zret rfl (by omega) dX7_takesMember_22 ?_
      first | (rw [if_pos (by omega)] at hQ; exact hQ 0 ω (Or.inl ⟨rfl, rfl⟩) (RF.rf ω)) | (rw [if_neg (by omega), if_pos (by omega)] at hQ; exact hQ 0 ω (Or.inl ⟨rfl, rfl⟩) (RF.rf ω))

set_option maxRecDepth 100000 in
set_option maxHeartbeats 4000000 in
theorem kX7_takesBehindMethod {X : Cx} {d : Nat} {ω : Om} {Q : Option MV → Om → Prop} {n c : Int} {s : RS} (h5 : s.1 = 5 ∨ s.1 = 6) (hR : RdM ω s) (hW : RW n s) (hc : -100 ≤ c ∧ c ≤ 1000) (hQ : ∀ (r : Int) (ω' : Om), TkM (rdS n c s) r ω' → RF ω ω' → Q (some (vI r)) ω') : Mc X mX7_takesBehindMethod (d + 3) [vR 29, vI c] ω Q := by
  obtain ⟨rr, l, e1, e2⟩ := hW.2.2.2.2.2.1 (by omega)
  obtain ⟨a1, a2, a3, a4, a5, a6, a7⟩ := id hR
  have el : lastS s = rr := by unfold lastS; rw [e1]
  have a27 := a6 rr l e1
  have hs : rdS n c s = if c = 45 ∧ s.1 = 5 then some (6, s.2.1, s.2.2.1, s.2.2.2.1, zOr s.2.2.2.2.1 (zShl 1 (lastS s)), s.2.2.2.2.2) else behS c s := by
    rcases h5 with q | q
    · rw [rdS_5 q]
      by_cases w : c = 45
      · rw [if_pos w, if_pos ⟨w, q⟩]
      · rw [if_neg w, if_neg (fun v => w v.1)]
    · rw [rdS_6 q, if_neg (fun v => by omega)]
  rw [hs] at hQ
  unfold behS at hQ
  clear a6 a7
  refine Mc_of [some (vR 29), some (vI c)] (by decide +kernel) rfl (Nat.le_of_ble_eq_true rfl) ?_
  refine J_iload_n 1 dX7_takesBehindMethod_0 rfl ?_
  refine J_bipush 45 dX7_takesBehindMethod_1 ⟨by decide, by decide⟩ (by decide) ?_
  refine J_icmp_ne 37 dX7_takesBehindMethod_3 (by decide) (fun h3 => ?_) (fun h3 => ?_)
  · skip
    refine J_iload_n 1 dX7_takesBehindMethod_37 rfl ?_
    refine J_bipush 40 dX7_takesBehindMethod_38 ⟨by decide, by decide⟩ (by decide) ?_
    refine J_icmp_ne 51 dX7_takesBehindMethod_40 (by decide) (fun h40 => ?_) (fun h40 => ?_)
    · skip
      refine J_aload_n 0 dX7_takesBehindMethod_51 rfl ?_
      refine J_iload_n 1 dX7_takesBehindMethod_52 rfl ?_
      refine JM_V1 lkM_X7_108 rcv_29 dX7_takesBehindMethod_53 (by decide) (Nat.le_of_ble_eq_true rfl) ?_
      refine kX7_takesMember hR hW hc (fun r ω1 q1 q2 => ?_)
      have hr01 := TkM01 q1
      refine JM_zret rfl hr01 dX7_takesBehindMethod_56 ?_
      rw [if_neg (by omega), if_neg (by omega)] at hQ
      exact hQ r ω1 q1 q2
    · skip
      refine J_aload_n 0 dX7_takesBehindMethod_43 rfl ?_
      refine J_bipush 7 dX7_takesBehindMethod_44 ⟨by decide, by decide⟩ (by decide) ?_
      refine J_putI 19 lkF_X7_96 rfl fp_7_19 rfl dX7_takesBehindMethod_46 ?_
      refine J_iconst 1 dX7_takesBehindMethod_49 ⟨by decide, by decide⟩ ?_
      refine JM_zret rfl (Or.inr rfl) dX7_takesBehindMethod_50 ?_
      rw [if_neg (by omega), if_pos (by omega)] at hQ
      exact hQ 1 _ (Or.inr ⟨_, rfl, rfl, RdM_go hR⟩) ((RF.rf ω).u9 (by omega))
  · skip
    refine J_aload_n 0 dX7_takesBehindMethod_6 rfl ?_
    refine J_getI 19 lkF_X7_96 rfl rfl rfl dX7_takesBehindMethod_7 ?_
    refine J_iconst 5 dX7_takesBehindMethod_10 ⟨by decide, by decide⟩ ?_
    refine J_icmp_ne 37 dX7_takesBehindMethod_11 (by decide) (fun h11 => ?_) (fun h11 => ?_)
    · skip
      refine J_iload_n 1 dX7_takesBehindMethod_37 rfl ?_
      refine J_bipush 40 dX7_takesBehindMethod_38 ⟨by decide, by decide⟩ (by decide) ?_
      refine J_icmp_ne 51 dX7_takesBehindMethod_40 (by decide) (fun h40 => ?_) (fun h40 => ?_)
      · skip
        refine J_aload_n 0 dX7_takesBehindMethod_51 rfl ?_
        refine J_iload_n 1 dX7_takesBehindMethod_52 rfl ?_
        refine JM_V1 lkM_X7_108 rcv_29 dX7_takesBehindMethod_53 (by decide) (Nat.le_of_ble_eq_true rfl) ?_
        refine kX7_takesMember hR hW hc (fun r ω1 q1 q2 => ?_)
        have hr01 := TkM01 q1
        refine JM_zret rfl hr01 dX7_takesBehindMethod_56 ?_
        rw [if_neg (by omega), if_neg (by omega)] at hQ
        exact hQ r ω1 q1 q2
      · skip
        refine J_aload_n 0 dX7_takesBehindMethod_43 rfl ?_
        refine J_bipush 7 dX7_takesBehindMethod_44 ⟨by decide, by decide⟩ (by decide) ?_
        refine J_putI 19 lkF_X7_96 rfl fp_7_19 rfl dX7_takesBehindMethod_46 ?_
        refine J_iconst 1 dX7_takesBehindMethod_49 ⟨by decide, by decide⟩ ?_
        refine JM_zret rfl (Or.inr rfl) dX7_takesBehindMethod_50 ?_
        rw [if_neg (by omega), if_pos (by omega)] at hQ
        exact hQ 1 _ (Or.inr ⟨_, rfl, rfl, RdM_go hR⟩) ((RF.rf ω).u9 (by omega))
    · skip
      refine J_aload_n 0 dX7_takesBehindMethod_14 rfl ?_
      first | refine J_dupR dX7_takesBehindMethod_15 ?_ | refine J_dupI dX7_takesBehindMethod_15 ?_
      refine J_getI 22 lkF_X7_105 rfl rfl rfl dX7_takesBehindMethod_16 ?_
      refine J_iconst 1 dX7_takesBehindMethod_19 ⟨by decide, by decide⟩ ?_
      refine J_aload_n 0 dX7_takesBehindMethod_20 rfl ?_
      refine J_getI 27 lkF_X7_102 rfl rfl rfl dX7_takesBehindMethod_21 ?_
      refine J_ishl dX7_takesBehindMethod_24 ?_
      refine J_ior dX7_takesBehindMethod_25 ?_
      refine J_putI 22 lkF_X7_105 rfl fp_7_22 rfl dX7_takesBehindMethod_26 ?_
      refine J_aload_n 0 dX7_takesBehindMethod_29 rfl ?_
      refine J_bipush 6 dX7_takesBehindMethod_30 ⟨by decide, by decide⟩ (by decide) ?_
      refine J_putI 19 lkF_X7_96 rfl fp_7_19 rfl dX7_takesBehindMethod_32 ?_
      refine J_iconst 1 dX7_takesBehindMethod_35 ⟨by decide, by decide⟩ ?_
      refine JM_zret rfl (Or.inr rfl) dX7_takesBehindMethod_36 ?_
      rw [if_pos (by omega)] at hQ
      refine hQ 1 _ (Or.inr ⟨_, rfl, rfl, ?_⟩) (((RF.rf ω).u9 (by omega)).u9 (by omega))
      rw [a4, a27, el]
      exact RdM_dash hR
