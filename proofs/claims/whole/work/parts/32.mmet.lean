/-! what the model's traces meet -/
def MetI (τ ω : Om) (k : Nat) : Prop := ∀ b, 0 ≤ b → b < 40 → (ω 51 b = 0 ∨ ω 51 b = 1) ∧ (ω 51 b = 1 ↔ reachT τ b k = true)
theorem MPx.uk {L : List Int} {a b : Om} (h : MPx L a b) {i z : Int} : MPx L a (up b 51 i z) := ⟨h.1.up (by decide), fun j q => by rw [up_k (by decide)]; exact h.2.1 j q, fun q => by rw [up_k (by decide)]; exact h.2.2.1 q, fun j q => by rw [up_k (by decide)]; exact h.2.2.2.1 j q, fun j q => by rw [up_k (by decide)]; exact h.2.2.2.2 j q⟩
/-- events of a trace counted, r of them -/
def MtE (ω1 ω : Om) (r : List Int) : Prop := Fr [29, 51] ω1 ω ∧ (∀ i, i ≠ 43 → ω 29 i = ω1 29 i) ∧ ω 29 43 = ω1 29 43 + missC r ∧ ∀ b, 0 ≤ b → b < 40 → (ω 51 b = 0 ∨ ω 51 b = 1) ∧ (ω 51 b = 1 ↔ (ω1 51 b = 1 ∨ 4 * b ∈ r ∨ 4 * b + 1 ∈ r))
theorem MtE_miss {ω1 ω : Om} {r : List Int} {x : Int} (h : MtE ω1 ω r) (h3 : x % 4 = 3) {z : Int} (hz : z = ω 29 43 + 1) : MtE ω1 (up ω 29 43 z) (x :: r) := by
  refine ⟨h.1.up (by decide), fun i hi => by rw [up_i hi]; exact h.2.1 i hi, by rw [up_s, hz, h.2.2.1, missC, if_pos h3]; omega, fun b b0 b1 => ?_⟩
  rw [up_k (by decide)]
  refine ⟨(h.2.2.2 b b0 b1).1, ?_⟩
  rw [(h.2.2.2 b b0 b1).2, List.mem_cons, List.mem_cons]
  have e1 : ¬ 4 * b = x := by omega
  have e2 : ¬ 4 * b + 1 = x := by omega
  simp only [e1, e2, false_or]
theorem MtE_none {ω1 ω : Om} {r : List Int} {x : Int} (h : MtE ω1 ω r) (h3 : x % 4 = 2) {z : Int} (hz : z = ω 29 43 + 0) : MtE ω1 (up ω 29 43 z) (x :: r) := by
  refine ⟨h.1.up (by decide), fun i hi => by rw [up_i hi]; exact h.2.1 i hi, by rw [up_s, hz, h.2.2.1, missC, if_neg (by omega)]; omega, fun b b0 b1 => ?_⟩
  rw [up_k (by decide)]
  refine ⟨(h.2.2.2 b b0 b1).1, ?_⟩
  rw [(h.2.2.2 b b0 b1).2, List.mem_cons, List.mem_cons]
  have e1 : ¬ 4 * b = x := by omega
  have e2 : ¬ 4 * b + 1 = x := by omega
  simp only [e1, e2, false_or]
theorem MtE_met {ω1 ω : Om} {r : List Int} {x : Int} (h : MtE ω1 ω r) (h2 : x % 4 < 2) {z : Int} (hz : z = ω 29 43 + 0) : MtE ω1 (up (up ω 29 43 z) 51 (x / 4) 1) (x :: r) := by
  refine ⟨(h.1.up (by decide)).up (by decide), fun i hi => by rw [up_k (by decide), up_i hi]; exact h.2.1 i hi, by rw [up_k (by decide), up_s, hz, h.2.2.1, missC, if_neg (by omega)]; omega, fun b b0 b1 => ?_⟩
  by_cases e : b = x / 4
  · rw [e, up_s]
    refine ⟨Or.inr rfl, ⟨fun _ => ?_, fun _ => rfl⟩⟩
    by_cases q : x % 4 = 0
    · right; left; rw [show 4 * (x / 4) = x from by omega]; exact List.mem_cons_self
    · right; right; rw [show 4 * (x / 4) + 1 = x from by omega]; exact List.mem_cons_self
  · rw [up_i e, up_k (by decide)]
    refine ⟨(h.2.2.2 b b0 b1).1, ?_⟩
    rw [(h.2.2.2 b b0 b1).2, List.mem_cons, List.mem_cons]
    have e1 : ¬ 4 * b = x := by omega
    have e2 : ¬ 4 * b + 1 = x := by omega
    simp only [e1, e2, false_or]
theorem MtE_0 {ω : Om} (h : ∀ b, 0 ≤ b → b < 40 → ω 51 b = 0 ∨ ω 51 b = 1) : MtE ω ω [] := ⟨Fr.rf, fun _ _ => rfl, by simp [missC], fun b b0 b1 => ⟨h b b0 b1, by simp⟩⟩
theorem drop_ev {l : List Int} {i : Nat} (hi : i < l.length) : l.drop (l.length - (i + 1)) = evN l i :: l.drop (l.length - i) := by
  have h1 : l.length - (i + 1) < l.length := by omega
  rw [List.drop_eq_getElem_cons h1]
  unfold evN
  rw [List.getD_eq_getElem?_getD, Int.toNat_natCast, List.getElem?_eq_getElem (by omega)]
  congr 1
  · simp only [Option.getD_some]
    congr 1
    omega
  · congr 1
    omega
theorem evN_ok {s : TS} (h : TV s) {i : Nat} (hi : i < s.1.length) : EvOk (evN s.1 i) := by
  unfold evN
  rw [List.getD_eq_getElem?_getD, List.getElem?_eq_getElem (by omega)]
  exact h.1 _ (List.getElem_mem _)
set_option maxRecDepth 100000 in
set_option maxHeartbeats 4000000 in
theorem l_lm3 {X : Cx} {d : Nat} {Q : Option MV → Om → Prop} {ω1 : Om} {k : Int} {s : TS} (hT : MT ω1 s) (hV : TV s) (hl : s.1.length ≤ 60) (hm : 0 ≤ ω1 29 43 ∧ ω1 29 43 ≤ 3000) : ∀ (n e : Nat) (ω : Om), e + n = s.1.length → MtE ω1 ω (s.1.drop (s.1.length - e)) → (∀ (ω' : Om) (x : Int), MtE ω1 ω' s.1 → JM X mX7_layMet (d + 5) Q 128 [some (vR 29), some (vI k), some (vI x)] [] ω') → JM X mX7_layMet (d + 5) Q 68 [some (vR 29), some (vI k), some (vI e)] [] ω := by
  intro n
  induction n with
  | zero =>
    intro e ω he hI hQ
    have e28 : ω 29 28 = s.1.length := by rw [hI.2.1 28 (by decide)]; exact hT.1
    refine J_iload_n 2 dX7_layMet_68 rfl ?_
    refine J_aload_n 0 dX7_layMet_69 rfl ?_
    refine J_getI 28 lkF_X7_185 rfl rfl rfl dX7_layMet_70 ?_
    refine J_icmp_ge 128 dX7_layMet_73 (by decide) (fun h73 => ?_) (fun h73 => ?_)
    · skip
      rw [show s.1.length - e = 0 from by omega, List.drop_zero] at hI
      exact hQ ω _ hI
    · skip
      exfalso; omega
  | succ n ih =>
    intro e ω he hI hQ
    have e28 : ω 29 28 = s.1.length := by rw [hI.2.1 28 (by decide)]; exact hT.1
    have hat := MT_at hT (i := (e : Int)) (by omega)
    have e44 : ω 44 = ω1 44 := hI.1 44 (by decide)
    have e45 : ω 45 = ω1 45 := hI.1 45 (by decide)
    rw [← e44, ← e45] at hat
    have hok := evN_ok hV (i := e) (by omega)
    have hdr := drop_ev (l := s.1) (i := e) (by omega)
    have hmc := missC_R (s.1.drop (s.1.length - e))
    have hml : (s.1.drop (s.1.length - e)).length ≤ 60 := by rw [List.length_drop]; omega
    have h43 := hI.2.2.1
    have hok4 := hok.2.2
    have hok1 := hok.1
    generalize hx : evN s.1 (e : Int) = x at *
    refine J_iload_n 2 dX7_layMet_68 rfl ?_
    refine J_aload_n 0 dX7_layMet_69 rfl ?_
    refine J_getI 28 lkF_X7_185 rfl rfl rfl dX7_layMet_70 ?_
    refine J_icmp_ge 128 dX7_layMet_73 (by decide) (fun h73 => ?_) (fun h73 => ?_)
    · skip
      exfalso; omega
    · skip
      refine J_aload_n 0 dX7_layMet_76 rfl ?_
      first | refine J_dupR dX7_layMet_77 ?_ | refine J_dupI dX7_layMet_77 ?_
      refine J_getI 43 lkF_X7_277 rfl rfl rfl dX7_layMet_78 ?_
      refine J_aload_n 0 dX7_layMet_81 rfl ?_
      refine J_getR lkF_X7_53 rfl dX7_layMet_82 ?_
      refine J_iload_n 2 dX7_layMet_85 rfl ?_
      refine J_iaload _ rfl rfl (by omega) dX7_layMet_86 ?_
      rw [hat.1]
      refine J_iconst 3 dX7_layMet_87 ⟨by decide, by decide⟩ ?_
      refine J_icmp_ne 95 dX7_layMet_88 (by decide) (fun h88 => ?_) (fun h88 => ?_)
      · skip
        refine J_iconst 0 dX7_layMet_95 ⟨by decide, by decide⟩ ?_
        refine J_iadd dX7_layMet_96 ⟨by omega, by omega⟩ ?_
        refine J_putI 43 lkF_X7_277 rfl fp_7_43 rfl dX7_layMet_97 ?_
        refine J_aload_n 0 dX7_layMet_100 rfl ?_
        refine J_getR lkF_X7_53 rfl dX7_layMet_101 ?_
        refine J_iload_n 2 dX7_layMet_104 rfl ?_
        refine J_iaload _ rfl rfl (by omega) dX7_layMet_105 ?_
        try simp (config := {decide := true}) only [up_s, up_k, up_i]
        rw [hat.1]
        refine J_iconst 2 dX7_layMet_106 ⟨by decide, by decide⟩ ?_
        refine J_icmp_ge 122 dX7_layMet_107 (by decide) (fun h107 => ?_) (fun h107 => ?_)
        · skip
          refine J_iinc_2 dX7_layMet_122 (by decide) ⟨by omega, by omega⟩ rfl ?_
          refine J_goto 68 dX7_layMet_125 (by decide) ?_
          refine ih (e + 1) _ (by omega) ?_ hQ
          rw [hdr]
          first
            | (exfalso; omega)
            | exact MtE_miss hI (by omega) rfl
            | exact MtE_met hI (by omega) rfl
            | exact MtE_none hI (by omega) rfl
        · skip
          refine J_aload_n 0 dX7_layMet_110 rfl ?_
          refine J_getR lkF_X7_74 rfl dX7_layMet_111 ?_
          refine J_aload_n 0 dX7_layMet_114 rfl ?_
          refine J_getR lkF_X7_56 rfl dX7_layMet_115 ?_
          refine J_iload_n 2 dX7_layMet_118 rfl ?_
          refine J_iaload _ rfl rfl (by omega) dX7_layMet_119 ?_
          try simp (config := {decide := true}) only [up_s, up_k, up_i]
          rw [hat.2]
          refine J_iconst 1 dX7_layMet_120 ⟨by decide, by decide⟩ ?_
          refine J_bastore _ rfl (by omega) (by omega) dX7_layMet_121 ?_
          refine J_iinc_2 dX7_layMet_122 (by decide) ⟨by omega, by omega⟩ rfl ?_
          refine J_goto 68 dX7_layMet_125 (by decide) ?_
          refine ih (e + 1) _ (by omega) ?_ hQ
          rw [hdr]
          first
            | (exfalso; omega)
            | exact MtE_miss hI (by omega) rfl
            | exact MtE_met hI (by omega) rfl
            | exact MtE_none hI (by omega) rfl
      · skip
        refine J_iconst 1 dX7_layMet_91 ⟨by decide, by decide⟩ ?_
        refine J_goto 96 dX7_layMet_92 (by decide) ?_
        refine J_iadd dX7_layMet_96 ⟨by omega, by omega⟩ ?_
        refine J_putI 43 lkF_X7_277 rfl fp_7_43 rfl dX7_layMet_97 ?_
        refine J_aload_n 0 dX7_layMet_100 rfl ?_
        refine J_getR lkF_X7_53 rfl dX7_layMet_101 ?_
        refine J_iload_n 2 dX7_layMet_104 rfl ?_
        refine J_iaload _ rfl rfl (by omega) dX7_layMet_105 ?_
        try simp (config := {decide := true}) only [up_s, up_k, up_i]
        rw [hat.1]
        refine J_iconst 2 dX7_layMet_106 ⟨by decide, by decide⟩ ?_
        refine J_icmp_ge 122 dX7_layMet_107 (by decide) (fun h107 => ?_) (fun h107 => ?_)
        · skip
          refine J_iinc_2 dX7_layMet_122 (by decide) ⟨by omega, by omega⟩ rfl ?_
          refine J_goto 68 dX7_layMet_125 (by decide) ?_
          refine ih (e + 1) _ (by omega) ?_ hQ
          rw [hdr]
          first
            | (exfalso; omega)
            | exact MtE_miss hI (by omega) rfl
            | exact MtE_met hI (by omega) rfl
            | exact MtE_none hI (by omega) rfl
        · skip
          refine J_aload_n 0 dX7_layMet_110 rfl ?_
          refine J_getR lkF_X7_74 rfl dX7_layMet_111 ?_
          refine J_aload_n 0 dX7_layMet_114 rfl ?_
          refine J_getR lkF_X7_56 rfl dX7_layMet_115 ?_
          refine J_iload_n 2 dX7_layMet_118 rfl ?_
          refine J_iaload _ rfl rfl (by omega) dX7_layMet_119 ?_
          try simp (config := {decide := true}) only [up_s, up_k, up_i]
          rw [hat.2]
          refine J_iconst 1 dX7_layMet_120 ⟨by decide, by decide⟩ ?_
          refine J_bastore _ rfl (by omega) (by omega) dX7_layMet_121 ?_
          refine J_iinc_2 dX7_layMet_122 (by decide) ⟨by omega, by omega⟩ rfl ?_
          refine J_goto 68 dX7_layMet_125 (by decide) ?_
          refine ih (e + 1) _ (by omega) ?_ hQ
          rw [hdr]
          first
            | (exfalso; omega)
            | exact MtE_miss hI (by omega) rfl
            | exact MtE_met hI (by omega) rfl
            | exact MtE_none hI (by omega) rfl

theorem hol_vw {ω : Om} {t : Int} (hn : ω 29 2 ≤ 8) (ht : 0 ≤ t ∧ t < ω 29 2) : hol (vw 0 ω) t = 0 ↔ ω 32 t = 0 := by
  unfold hol
  rw [vw37, vw13]
  by_cases q : ω 32 t = 0
  · rw [if_neg (fun w => w.2.2.2 q)]; simp [q]
  · rw [if_pos ⟨ht.1, ht.2, by omega, q⟩]; simp [q]
theorem missT_R2 {τ : Om} (hW : WfT τ) : ∀ k : Nat, 0 ≤ missT τ k ∧ missT τ k ≤ 60 * k := by
  intro k
  induction k with
  | zero => exact ⟨Int.le_refl _, Int.le_refl _⟩
  | succ k ih =>
    rw [missT]
    split
    · have h1 := missC_R (evs τ ((k / 6 : Nat) : Int) ((k % 6 : Nat) : Int))
      have h2 : (evs τ ((k / 6 : Nat) : Int) ((k % 6 : Nat) : Int)).length ≤ 60 := by
        unfold evs
        split
        · exact Nat.zero_le _
        · rename_i s hs
          exact (tr_ok hW (by omega) hs).1.2.2.2.2
      omega
    · omega
theorem MetI_skip {τ ω : Om} {k : Nat} (h : MetI τ ω k) (hr : (decide (hol τ ((k / 6 : Nat) : Int) = 0) && !(evs τ ((k / 6 : Nat) : Int) ((k % 6 : Nat) : Int)).isEmpty) = false) : MetI τ ω (k + 1) ∧ missT τ (k + 1) = missT τ k := by
  refine ⟨fun b b0 b1 => ⟨(h b b0 b1).1, ?_⟩, ?_⟩
  · rw [(h b b0 b1).2, reachT]
    cases h1 : decide (hol τ ((k / 6 : Nat) : Int) = 0)
    · simp
    · rw [h1] at hr
      simp only [Bool.true_and, Bool.not_eq_false', List.isEmpty_iff] at hr
      rw [hr]
      simp
  · rw [missT]
    split
    · rename_i q
      simp only [q, decide_true, Bool.true_and, Bool.not_eq_false', List.isEmpty_iff] at hr
      rw [hr]
      simp [missC]
    · omega
theorem MetI_step {τ ω ω1 ω2 : Om} {k : Nat} {s : TS} (h : MetI τ ω k) (h51 : ω1 51 = ω 51) (hm : ω1 29 43 = missT τ k) (hs : trT τ ((k / 6 : Nat) : Int) ((k % 6 : Nat) : Int) = some s) (hV : TV s) (hh : hol τ ((k / 6 : Nat) : Int) = 0) (hE : MtE ω1 ω2 s.1) : MetI τ ω2 (k + 1) ∧ ω2 29 43 = missT τ (k + 1) := by
  have hev := tr_evs hs
  refine ⟨fun b b0 b1 => ⟨(hE.2.2.2 b b0 b1).1, ?_⟩, ?_⟩
  · rw [(hE.2.2.2 b b0 b1).2, h51, (h b b0 b1).2, reachT, hev, hh]
    simp only [decide_true, Bool.true_and, Bool.or_eq_true, List.contains_iff_mem, Int.add_zero]
    constructor
    · intro q
      rcases q with q | q | q
      · exact Or.inl q
      · exact Or.inr q
      · exact Or.inr (by have := hV.2.2 b q; rw [Int.add_zero] at this; exact this)
    · intro q
      rcases q with q | q
      · exact Or.inl q
      · exact Or.inr (Or.inl q)
  · rw [hE.2.2.1, hm, missT, if_pos hh, hev]
set_option maxRecDepth 100000 in
set_option maxHeartbeats 4000000 in
theorem l_lm2 {X : Cx} {d : Nat} {Q : Option MV → Om → Prop} {ω0 : Om} (hM : MW ω0) : ∀ (n k : Nat) (ω : Om) (x : Option MV), k + n = 6 * (ω0 29 2).toNat → MPx [28, 31, 32, 43] ω0 ω → MetI (vw 0 ω0) ω k → ω 29 43 = missT (vw 0 ω0) k → (∀ ω', MPx [28, 31, 32, 43] ω0 ω' → MetI (vw 0 ω0) ω' (6 * (ω0 29 2).toNat) → ω' 29 43 = missT (vw 0 ω0) (6 * (ω0 29 2).toNat) → Q none ω') → JM X mX7_layMet (d + 5) Q 28 [some (vR 29), some (vI k), x] [] ω := by
  have n8 := n8_vw hM.1
  intro n
  induction n with
  | zero =>
    intro k ω x hk hF hI h43 hQ
    have e2 : ω 29 2 = ω0 29 2 := hF.2.1 2 (by decide)
    refine J_iload_n 1 dX7_layMet_28 rfl ?_
    refine J_bipush 6 dX7_layMet_29 ⟨by decide, by decide⟩ (by decide) ?_
    refine J_aload_n 0 dX7_layMet_31 rfl ?_
    refine J_getI 2 lkF_X7_112 rfl rfl rfl dX7_layMet_32 ?_
    refine J_imul dX7_layMet_35 ⟨by omega, by omega⟩ ?_
    refine J_icmp_ge 134 dX7_layMet_36 (by decide) (fun h36 => ?_) (fun h36 => ?_)
    · skip
      refine JM_vret rfl dX7_layMet_134 ?_
      obtain rfl : k = 6 * (ω0 29 2).toNat := by omega
      exact hQ ω hF hI h43
    · skip
      exfalso; omega
  | succ n ih =>
    intro k ω x hk hF hI h43 hQ
    have e2 : ω 29 2 = ω0 29 2 := hF.2.1 2 (by decide)
    have e32 : ω 32 = ω0 32 := hF.1 32 (by decide)
    have hho := hol_vw (ω := ω0) (t := ((k / 6 : Nat) : Int)) n8.2 (by omega)
    have hTQ := hF.q n8.2 (by decide) (by decide)
    have hmR := missT_R2 hM.1 k
    refine J_iload_n 1 dX7_layMet_28 rfl ?_
    refine J_bipush 6 dX7_layMet_29 ⟨by decide, by decide⟩ (by decide) ?_
    refine J_aload_n 0 dX7_layMet_31 rfl ?_
    refine J_getI 2 lkF_X7_112 rfl rfl rfl dX7_layMet_32 ?_
    refine J_imul dX7_layMet_35 ⟨by omega, by omega⟩ ?_
    refine J_icmp_ge 134 dX7_layMet_36 (by decide) (fun h36 => ?_) (fun h36 => ?_)
    · skip
      exfalso; omega
    · skip
      refine J_aload_n 0 dX7_layMet_39 rfl ?_
      refine J_getR lkF_X7_16 rfl dX7_layMet_40 ?_
      refine J_iload_n 1 dX7_layMet_43 rfl ?_
      refine J_bipush 6 dX7_layMet_44 ⟨by decide, by decide⟩ (by decide) ?_
      refine J_idiv dX7_layMet_46 (by omega) (by omega) ?_
      rw [show ((k : Int) / 6) = ((k / 6 : Nat) : Int) from by omega]
      refine J_baload _ rfl rfl (by omega) dX7_layMet_47 ?_
      rw [e32]
      refine J_if_ne 128 dX7_layMet_48 (by decide) (fun h48 => ?_) (fun h48 => ?_)
      · skip
        have hsk := MetI_skip hI (by rw [show decide (hol (vw 0 ω0) ((k / 6 : Nat) : Int) = 0) = false from by simp only [decide_eq_false_iff_not]; exact fun q => h48 (hho.1 q)]; rfl)
        refine J_iinc_1 dX7_layMet_128 (by decide) ⟨by omega, by omega⟩ rfl ?_
        refine J_goto 28 dX7_layMet_131 (by decide) ?_
        first
          | exact ih (k + 1) _ _ (by omega) hF1 (fun b b0 b1 => by rw [e51]; exact hsk.1 b b0 b1) (by rw [e43, hsk.2]) hQ
          | exact ih (k + 1) _ _ (by omega) hF hsk.1 (by rw [h43, hsk.2]) hQ
      · skip
        refine J_aload_n 0 dX7_layMet_51 rfl ?_
        refine J_iload_n 1 dX7_layMet_52 rfl ?_
        refine J_bipush 6 dX7_layMet_53 ⟨by decide, by decide⟩ (by decide) ?_
        refine J_idiv dX7_layMet_55 (by omega) (by omega) ?_
        refine J_iload_n 1 dX7_layMet_56 rfl ?_
        refine J_bipush 6 dX7_layMet_57 ⟨by decide, by decide⟩ (by decide) ?_
        refine J_irem dX7_layMet_59 (by omega) (by omega) ?_
        refine JM_V2 lkM_X7_211 rcv_29 dX7_layMet_60 (by decide) (Nat.le_of_ble_eq_true rfl) ?_
        rw [show ((k : Int) / 6) = ((k / 6 : Nat) : Int) from by omega, show ((k : Int) % 6) = ((k % 6 : Nat) : Int) from by omega]
        refine kX7_layTrace (hF.w hM (by decide) (by decide)).2 (by decide) (hF.w hM (by decide) (by decide)).1 (by omega) (by omega) (fun r ω1 r1 f1 => ?_)
        rw [trT_TQ hTQ] at r1
        have hF1 := hF.tr (f1.x.mono (by decide))
        have e51 : ω1 51 = ω 51 := f1.1 51 (by decide)
        have e43 : ω1 29 43 = missT (vw 0 ω0) k := by rw [f1.2 43 (by decide) (by decide) (by decide)]; exact h43
        refine J_if_eq 128 dX7_layMet_63 (by decide) (fun h63 => ?_) (fun h63 => ?_)
        · skip
          have hno : trT (vw 0 ω0) ((k / 6 : Nat) : Int) ((k % 6 : Nat) : Int) = none := by
            rcases RunM_ev r1 with ⟨_, q, _⟩ | ⟨q, _⟩
            · exact q
            · omega
          have hsk := MetI_skip hI (by rw [show evs (vw 0 ω0) ((k / 6 : Nat) : Int) ((k % 6 : Nat) : Int) = [] from by unfold evs; rw [hno]]; simp)
          refine J_iinc_1 dX7_layMet_128 (by decide) ⟨by omega, by omega⟩ rfl ?_
          refine J_goto 28 dX7_layMet_131 (by decide) ?_
          first
            | exact ih (k + 1) _ _ (by omega) hF1 (fun b b0 b1 => by rw [e51]; exact hsk.1 b b0 b1) (by rw [e43, hsk.2]) hQ
            | exact ih (k + 1) _ _ (by omega) hF hsk.1 (by rw [h43, hsk.2]) hQ
        · skip
          obtain ⟨s, hto, hTs, hws⟩ : ∃ s, trT (vw 0 ω0) ((k / 6 : Nat) : Int) ((k % 6 : Nat) : Int) = some s ∧ MT ω1 s ∧ TW s := by
            rcases RunM_ev r1 with ⟨q, _⟩ | ⟨_, q⟩
            · exact absurd q h63
            · exact q
          have hV := (tr_ok hM.1 (by omega) hto).2
          clear r1
          refine J_iconst 0 dX7_layMet_66 ⟨by decide, by decide⟩ ?_
          refine J_istore_2 dX7_layMet_67 (by decide) rfl ?_
          refine l_lm3 hTs hV hws.2.2.2.2 (by rw [e43]; omega) s.1.length 0 ω1 (by omega) (by rw [Nat.sub_zero, List.drop_length]; exact MtE_0 (fun b b0 b1 => by rw [e51]; exact (hI b b0 b1).1)) (fun ω2 x2 hE => ?_)
          have hst := MetI_step hI e51 e43 hto hV (hho.2 (by omega)) hE
          have hF2 : MPx [28, 31, 32, 43] ω0 ω2 := hF1.tr ⟨hE.1.mono (by decide), fun i q => hE.2.1 i (fun e => q (by rw [e]; decide)), fun q => by rw [hE.2.1 7 (by decide)]; exact q, fun i _ => by rw [hE.1 33 (by decide)], fun i _ => by rw [hE.1 34 (by decide)]⟩
          refine J_iinc_1 dX7_layMet_128 (by decide) ⟨by omega, by omega⟩ rfl ?_
          refine J_goto 28 dX7_layMet_131 (by decide) ?_
          exact ih (k + 1) _ _ (by omega) hF2 hst.1 hst.2 hQ

set_option maxRecDepth 100000 in
set_option maxHeartbeats 4000000 in
theorem l_lm1 {X : Cx} {d : Nat} {Q : Option MV → Om → Prop} {ω0 : Om} (hM : MW ω0) : ∀ (n k : Nat) (ω : Om), k + n = 40 → Fr [51] ω0 ω → (∀ b : Int, 0 ≤ b → b < k → ω 51 b = 0) → (∀ ω', MPx [28, 31, 32, 43] ω0 ω' → MetI (vw 0 ω0) ω' (6 * (ω0 29 2).toNat) → ω' 29 43 = missT (vw 0 ω0) (6 * (ω0 29 2).toNat) → Q none ω') → JM X mX7_layMet (d + 5) Q 2 [some (vR 29), some (vI k), none] [] ω := by
  intro n
  induction n with
  | zero =>
    intro k ω hk hF hI hQ
    refine J_iload_n 1 dX7_layMet_2 rfl ?_
    refine J_bipush 40 dX7_layMet_3 ⟨by decide, by decide⟩ (by decide) ?_
    refine J_icmp_ge 21 dX7_layMet_5 (by decide) (fun h5 => ?_) (fun h5 => ?_)
    · skip
      refine J_aload_n 0 dX7_layMet_21 rfl ?_
      refine J_iconst 0 dX7_layMet_22 ⟨by decide, by decide⟩ ?_
      refine J_putI 43 lkF_X7_277 rfl fp_7_43 rfl dX7_layMet_23 ?_
      refine J_iconst 0 dX7_layMet_26 ⟨by decide, by decide⟩ ?_
      refine J_istore_1 dX7_layMet_27 (by decide) rfl ?_
      refine l_lm2 hM (6 * (ω0 29 2).toNat) 0 _ _ (by omega) ?_ (fun b b0 b1 => ?_) (by rw [up_s]; rfl) hQ
      · exact MPx.u9 ⟨hF.mono (by decide), fun i _ => by rw [hF 29 (by decide)], fun q => by rw [hF 29 (by decide)]; exact q, fun i _ => by rw [hF 33 (by decide)], fun i _ => by rw [hF 34 (by decide)]⟩ (by decide) (by decide)
      · rw [up_k (by decide), hI b b0 (by omega)]
        simp [reachT]
    · skip
      exfalso; omega
  | succ n ih =>
    intro k ω hk hF hI hQ
    refine J_iload_n 1 dX7_layMet_2 rfl ?_
    refine J_bipush 40 dX7_layMet_3 ⟨by decide, by decide⟩ (by decide) ?_
    refine J_icmp_ge 21 dX7_layMet_5 (by decide) (fun h5 => ?_) (fun h5 => ?_)
    · skip
      exfalso; omega
    · skip
      refine J_aload_n 0 dX7_layMet_8 rfl ?_
      refine J_getR lkF_X7_74 rfl dX7_layMet_9 ?_
      refine J_iload_n 1 dX7_layMet_12 rfl ?_
      refine J_iconst 0 dX7_layMet_13 ⟨by decide, by decide⟩ ?_
      refine J_bastore _ rfl (by omega) (by omega) dX7_layMet_14 ?_
      refine J_iinc_1 dX7_layMet_15 (by decide) ⟨by omega, by omega⟩ rfl ?_
      refine J_goto 2 dX7_layMet_18 (by decide) ?_
      refine ih (k + 1) _ (by omega) (hF.up (by decide)) (fun b b0 b1 => ?_) hQ
      by_cases e : b = (k : Int)
      · rw [e, up_s]
      · rw [up_i e]; exact hI b b0 (by omega)

set_option maxRecDepth 100000 in
set_option maxHeartbeats 4000000 in
theorem kX7_layMet {X : Cx} {d : Nat} {ω : Om} {Q : Option MV → Om → Prop} (hM : MW ω) (hQ : ∀ ω', MPx [28, 31, 32, 43] ω ω' → MetI (vw 0 ω) ω' (6 * (ω 29 2).toNat) → ω' 29 43 = missT (vw 0 ω) (6 * (ω 29 2).toNat) → Q none ω') : Mc X mX7_layMet (d + 5) [vR 29] ω Q := by
  refine Mc_of [some (vR 29), none, none] (by decide +kernel) rfl (Nat.le_of_ble_eq_true rfl) ?_
  refine J_iconst 0 dX7_layMet_0 ⟨by decide, by decide⟩ ?_
  refine J_istore_1 dX7_layMet_1 (by decide) rfl ?_
  exact l_lm1 hM 40 0 ω (by omega) Fr.rf (fun b b0 b1 => by omega) hQ

set_option maxRecDepth 100000 in
set_option maxHeartbeats 4000000 in
theorem kX7_deadNow {X : Cx} {d : Nat} {ω : Om} {Q : Option MV → Om → Prop} {b : Int} {τ : Om} (hI : MetI τ ω (6 * (τ 3 7).toNat)) (hb : 0 ≤ b ∧ b < 40) (hQ : Q (some (vI (ddN τ b))) ω) : Mc X mX7_deadNow d [vR 29, vI b] ω Q := by
  have hB := hI b hb.1 hb.2
  unfold ddN at hQ
  by_cases q : reachT τ b (6 * (τ 3 7).toNat) = true
  · rw [if_pos q] at hQ
    have h1 := hB.2.2 q
    refine Mc_of [some (vR 29), some (vI b)] (by decide +kernel) rfl (Nat.le_of_ble_eq_true rfl) ?_
    refine J_aload_n 0 dX7_deadNow_0 rfl ?_
    refine J_getR lkF_X7_74 rfl dX7_deadNow_1 ?_
    refine J_iload_n 1 dX7_deadNow_4 rfl ?_
    refine J_baload _ rfl rfl (by omega) dX7_deadNow_5 ?_
    refine J_if_eq 13 dX7_deadNow_6 (by decide) (fun h6 => ?_) (fun h6 => ?_)
    · skip
      exfalso; omega
    · skip
      refine J_iconst 0 dX7_deadNow_9 ⟨by decide, by decide⟩ ?_
      refine J_goto 14 dX7_deadNow_10 (by decide) ?_
      refine JM_iret rfl dX7_deadNow_14 ?_
      exact hQ
  rw [if_neg q] at hQ
  have h0 : ω 51 b = 0 := hB.1.resolve_right (fun w => q (hB.2.1 w))
  refine Mc_of [some (vR 29), some (vI b)] (by decide +kernel) rfl (Nat.le_of_ble_eq_true rfl) ?_
  refine J_aload_n 0 dX7_deadNow_0 rfl ?_
  refine J_getR lkF_X7_74 rfl dX7_deadNow_1 ?_
  refine J_iload_n 1 dX7_deadNow_4 rfl ?_
  refine J_baload _ rfl rfl (by omega) dX7_deadNow_5 ?_
  refine J_if_eq 13 dX7_deadNow_6 (by decide) (fun h6 => ?_) (fun h6 => ?_)
  · skip
    refine J_iconst 1 dX7_deadNow_13 ⟨by decide, by decide⟩ ?_
    refine JM_iret rfl dX7_deadNow_14 ?_
    exact hQ
  · skip
    exfalso; omega

set_option maxRecDepth 100000 in
set_option maxHeartbeats 4000000 in
theorem kX7_dead {X : Cx} {d : Nat} {ω : Om} {Q : Option MV → Om → Prop} {b : Int} (hM : MW ω) (hQ : ∀ ω', MPx LA ω ω' → Q (some (vI (aDead (vw 0 ω) b))) ω') : Mc X mX7_dead (d + 6) [vR 29, vI b] ω Q := by
  have h8 : 0 ≤ ω 29 8 ∧ ω 29 8 ≤ 40 := hM.1.2.1
  unfold aDead at hQ
  rw [vw38] at hQ
  refine Mc_of [some (vR 29), some (vI b)] (by decide +kernel) rfl (Nat.le_of_ble_eq_true rfl) ?_
  refine J_iload_n 1 dX7_dead_0 rfl ?_
  refine J_iconst 0 dX7_dead_1 ⟨by decide, by decide⟩ ?_
  refine J_aload_n 0 dX7_dead_2 rfl ?_
  refine J_getI 8 lkF_X7_134 rfl rfl rfl dX7_dead_3 ?_
  refine J_iconst 1 dX7_dead_6 ⟨by decide, by decide⟩ ?_
  refine J_isub dX7_dead_7 ⟨by omega, by omega⟩ ?_
  refine JM_S3 lkM_X7_77 dX7_dead_8 (by decide) (Nat.le_of_ble_eq_true rfl) ?_
  refine kX7_within ?_
  generalize hg : (if 0 ≤ b ∧ b ≤ ω 29 8 - 1 then (1 : Int) else 0) = g
  have hg2 : (g = 1 ∧ (0 ≤ b ∧ b ≤ ω 29 8 - 1)) ∨ (g = 0 ∧ ¬ (0 ≤ b ∧ b ≤ ω 29 8 - 1)) := by
    subst hg
    split
    · left; exact ⟨rfl, by omega⟩
    · right; exact ⟨rfl, by omega⟩
  refine J_if_ne 18 dX7_dead_11 (by decide) (fun h11 => ?_) (fun h11 => ?_)
  · skip
    refine J_aload_n 0 dX7_dead_18 rfl ?_
    refine JM_V0 lkM_X7_280 rcv_29 dX7_dead_19 (by decide) (Nat.le_of_ble_eq_true rfl) ?_
    refine kX7_layMet hM (fun ω1 p1 i1 m1 => ?_)
    have e8 : ω1 29 8 = ω 29 8 := p1.2.1 8 (by decide)
    refine J_aload_n 0 dX7_dead_22 rfl ?_
    refine J_iload_n 1 dX7_dead_23 rfl ?_
    refine JM_V1 lkM_X7_283 rcv_29 dX7_dead_24 (by decide) (Nat.le_of_ble_eq_true rfl) ?_
    refine kX7_deadNow i1 (by omega) ?_
    refine JM_iret rfl dX7_dead_27 ?_
    have e := hQ ω1 (p1.mono (by decide))
    rw [if_pos (by omega)] at e; exact e
  · skip
    refine J_sipush (-1001) dX7_dead_14 ⟨by decide, by decide⟩ (by decide) ?_
    refine JM_iret rfl dX7_dead_17 ?_
    have e := hQ ω (MPx.rf _ ω)
    rw [if_neg (by omega)] at e; exact e

theorem ddS_R (τ : Om) : ∀ k : Nat, 0 ≤ ddS τ k ∧ ddS τ k ≤ k := by
  intro k
  induction k with
  | zero => exact ⟨Int.le_refl _, Int.le_refl _⟩
  | succ k ih =>
    have : ddN τ k = 0 ∨ ddN τ k = 1 := by unfold ddN; split <;> simp
    rw [ddS]
    omega
set_option maxRecDepth 100000 in
set_option maxHeartbeats 4000000 in
theorem l_ddm {X : Cx} {d : Nat} {Q : Option MV → Om → Prop} {τ ω : Om} (hI : MetI τ ω (6 * (τ 3 7).toNat)) (h8 : 0 ≤ ω 29 8 ∧ ω 29 8 ≤ 40) : ∀ (n k : Nat), k + n = (ω 29 8).toNat → Q (some (vI (ddS τ (ω 29 8).toNat))) ω → JM X mX7_deadMany (d + 6) Q 8 [some (vR 29), some (vI (ddS τ k)), some (vI k)] [] ω := by
  intro n
  induction n with
  | zero =>
    intro k hk hQ
    refine J_iload_n 2 dX7_deadMany_8 rfl ?_
    refine J_aload_n 0 dX7_deadMany_9 rfl ?_
    refine J_getI 8 lkF_X7_134 rfl rfl rfl dX7_deadMany_10 ?_
    refine J_icmp_ge 30 dX7_deadMany_13 (by decide) (fun h13 => ?_) (fun h13 => ?_)
    · skip
      refine J_iload_n 1 dX7_deadMany_30 rfl ?_
      refine JM_iret rfl dX7_deadMany_31 ?_
      obtain rfl : k = (ω 29 8).toNat := by omega
      exact hQ
    · skip
      exfalso; omega
  | succ n ih =>
    intro k hk hQ
    have hr := ddS_R τ k
    have h01 : ddN τ k = 0 ∨ ddN τ k = 1 := by unfold ddN; split <;> simp
    refine J_iload_n 2 dX7_deadMany_8 rfl ?_
    refine J_aload_n 0 dX7_deadMany_9 rfl ?_
    refine J_getI 8 lkF_X7_134 rfl rfl rfl dX7_deadMany_10 ?_
    refine J_icmp_ge 30 dX7_deadMany_13 (by decide) (fun h13 => ?_) (fun h13 => ?_)
    · skip
      exfalso; omega
    · skip
      refine J_iload_n 1 dX7_deadMany_16 rfl ?_
      refine J_aload_n 0 dX7_deadMany_17 rfl ?_
      refine J_iload_n 2 dX7_deadMany_18 rfl ?_
      refine JM_V1 lkM_X7_283 rcv_29 dX7_deadMany_19 (by decide) (Nat.le_of_ble_eq_true rfl) ?_
      refine kX7_deadNow hI (by omega) ?_
      refine J_iadd dX7_deadMany_22 ⟨by omega, by omega⟩ ?_
      refine J_istore_1 dX7_deadMany_23 (by decide) rfl ?_
      refine J_iinc_2 dX7_deadMany_24 (by decide) ⟨by omega, by omega⟩ rfl ?_
      refine J_goto 8 dX7_deadMany_27 (by decide) ?_
      exact ih (k + 1) (by omega) hQ

set_option maxRecDepth 100000 in
set_option maxHeartbeats 4000000 in
theorem kX7_deadMany {X : Cx} {d : Nat} {ω : Om} {Q : Option MV → Om → Prop} (hM : MW ω) (hQ : ∀ ω', MPx [28, 31, 32, 43] ω ω' → Q (some (vI (ddS (vw 0 ω) (ω 29 8).toNat))) ω') : Mc X mX7_deadMany (d + 6) [vR 29] ω Q := by
  have h8 : 0 ≤ ω 29 8 ∧ ω 29 8 ≤ 40 := hM.1.2.1
  refine Mc_of [some (vR 29), none, none] (by decide +kernel) rfl (Nat.le_of_ble_eq_true rfl) ?_
  refine J_aload_n 0 dX7_deadMany_0 rfl ?_
  refine JM_V0 lkM_X7_280 rcv_29 dX7_deadMany_1 (by decide) (Nat.le_of_ble_eq_true rfl) ?_
  refine kX7_layMet hM (fun ω1 p1 i1 m1 => ?_)
  have e8 : ω1 29 8 = ω 29 8 := p1.2.1 8 (by decide)
  refine J_iconst 0 dX7_deadMany_4 ⟨by decide, by decide⟩ ?_
  refine J_istore_1 dX7_deadMany_5 (by decide) rfl ?_
  refine J_iconst 0 dX7_deadMany_6 ⟨by decide, by decide⟩ ?_
  refine J_istore_2 dX7_deadMany_7 (by decide) rfl ?_
  exact l_ddm i1 (by omega) (ω1 29 8).toNat 0 (by omega) (by rw [e8]; exact hQ ω1 p1)

set_option maxRecDepth 100000 in
set_option maxHeartbeats 4000000 in
theorem kX7_missingMany {X : Cx} {d : Nat} {ω : Om} {Q : Option MV → Om → Prop} (hM : MW ω) (hQ : ∀ ω', MPx [28, 31, 32, 43] ω ω' → Q (some (vI (missT (vw 0 ω) (6 * (ω 29 2).toNat)))) ω') : Mc X mX7_missingMany (d + 6) [vR 29] ω Q := by
  refine Mc_of [some (vR 29)] (by decide +kernel) rfl (Nat.le_of_ble_eq_true rfl) ?_
  refine J_aload_n 0 dX7_missingMany_0 rfl ?_
  refine JM_V0 lkM_X7_280 rcv_29 dX7_missingMany_1 (by decide) (Nat.le_of_ble_eq_true rfl) ?_
  refine kX7_layMet hM (fun ω1 p1 i1 m1 => ?_)
  have e8 : ω1 29 8 = ω 29 8 := p1.2.1 8 (by decide)
  refine J_aload_n 0 dX7_missingMany_4 rfl ?_
  refine J_getI 43 lkF_X7_277 rfl rfl rfl dX7_missingMany_5 ?_
  refine JM_iret rfl dX7_missingMany_8 ?_
  rw [m1]; exact hQ ω1 p1

set_option maxRecDepth 100000 in
set_option maxHeartbeats 4000000 in
theorem kX7_howMany {X : Cx} {d : Nat} {ω : Om} {Q : Option MV → Om → Prop} {w : Int} (hM : MW ω) (hQ : ∀ ω', MPx [28, 31, 32, 43] ω ω' → Q (some (vI (cntN (vw 0 ω) (ω 29 0) (ω 29 12) (ω 29 15) (ω 29 17) (ω 29 18) w))) ω') : Mc X mX7_howMany (d + 7) [vR 29, vI w] ω Q := by
  refine Mc_of [some (vR 29), some (vI w)] (by decide +kernel) rfl (Nat.le_of_ble_eq_true rfl) ?_
  refine J_iload_n 1 dX7_howMany_0 rfl ?_
  refine J_switch dX7_howMany_1 97 (by decide) (fun h1 => ?_) (fun h1a h1b => ?_)
  · skip
    refine J_sipush (-1002) dX7_howMany_97 ⟨by decide, by decide⟩ (by decide) ?_
    refine JM_iret rfl dX7_howMany_100 ?_
    have e := hQ ω (MPx.rf _ ω)
    unfold cntN at e
    rw [if_neg (by omega), if_neg (by omega), if_neg (by omega), if_neg (by omega), if_neg (by omega), if_neg (by omega), if_neg (by omega), if_neg (by omega), if_neg (by omega)] at e
    exact e
  · skip
    rcases (show w = 0 ∨ w = 1 ∨ w = 2 ∨ w = 3 ∨ w = 4 ∨ w = 5 ∨ w = 6 ∨ w = 7 ∨ w = 8 by omega) with rfl | rfl | rfl | rfl | rfl | rfl | rfl | rfl | rfl
    · skip
      refine ⟨51, 52, rfl, by decide, ?_⟩
      refine J_aload_n 0 dX7_howMany_52 rfl ?_
      refine J_getI 0 lkF_X7_81 rfl rfl rfl dX7_howMany_53 ?_
      refine JM_iret rfl dX7_howMany_56 ?_
      have e := hQ ω (MPx.rf _ ω)
      unfold cntN at e
      rw [if_pos rfl] at e
      exact e
    · skip
      refine ⟨56, 57, rfl, by decide, ?_⟩
      refine J_aload_n 0 dX7_howMany_57 rfl ?_
      refine J_getI 2 lkF_X7_112 rfl rfl rfl dX7_howMany_58 ?_
      refine JM_iret rfl dX7_howMany_61 ?_
      have e := hQ ω (MPx.rf _ ω)
      unfold cntN at e
      rw [if_neg (by decide), if_pos rfl] at e
      exact e
    · skip
      refine ⟨61, 62, rfl, by decide, ?_⟩
      refine J_aload_n 0 dX7_howMany_62 rfl ?_
      refine J_getI 8 lkF_X7_134 rfl rfl rfl dX7_howMany_63 ?_
      refine JM_iret rfl dX7_howMany_66 ?_
      have e := hQ ω (MPx.rf _ ω)
      unfold cntN at e
      rw [if_neg (by decide), if_neg (by decide), if_pos rfl] at e
      exact e
    · skip
      refine ⟨66, 67, rfl, by decide, ?_⟩
      refine J_aload_n 0 dX7_howMany_67 rfl ?_
      refine J_getI 12 lkF_X7_137 rfl rfl rfl dX7_howMany_68 ?_
      refine JM_iret rfl dX7_howMany_71 ?_
      have e := hQ ω (MPx.rf _ ω)
      unfold cntN at e
      rw [if_neg (by decide), if_neg (by decide), if_neg (by decide), if_pos rfl] at e
      exact e
    · skip
      refine ⟨71, 72, rfl, by decide, ?_⟩
      refine J_aload_n 0 dX7_howMany_72 rfl ?_
      refine J_getI 15 lkF_X7_268 rfl rfl rfl dX7_howMany_73 ?_
      refine JM_iret rfl dX7_howMany_76 ?_
      have e := hQ ω (MPx.rf _ ω)
      unfold cntN at e
      rw [if_neg (by decide), if_neg (by decide), if_neg (by decide), if_neg (by decide), if_pos rfl] at e
      exact e
    · skip
      refine ⟨76, 77, rfl, by decide, ?_⟩
      refine J_aload_n 0 dX7_howMany_77 rfl ?_
      refine J_getI 17 lkF_X7_250 rfl rfl rfl dX7_howMany_78 ?_
      refine JM_iret rfl dX7_howMany_81 ?_
      have e := hQ ω (MPx.rf _ ω)
      unfold cntN at e
      rw [if_neg (by decide), if_neg (by decide), if_neg (by decide), if_neg (by decide), if_neg (by decide), if_pos rfl] at e
      exact e
    · skip
      refine ⟨81, 82, rfl, by decide, ?_⟩
      refine J_aload_n 0 dX7_howMany_82 rfl ?_
      refine J_getI 18 lkF_X7_253 rfl rfl rfl dX7_howMany_83 ?_
      refine JM_iret rfl dX7_howMany_86 ?_
      have e := hQ ω (MPx.rf _ ω)
      unfold cntN at e
      rw [if_neg (by decide), if_neg (by decide), if_neg (by decide), if_neg (by decide), if_neg (by decide), if_neg (by decide), if_pos rfl] at e
      exact e
    · skip
      refine ⟨86, 87, rfl, by decide, ?_⟩
      refine J_aload_n 0 dX7_howMany_87 rfl ?_
      refine JM_V0 lkM_X7_286 rcv_29 dX7_howMany_88 (by decide) (Nat.le_of_ble_eq_true rfl) ?_
      refine kX7_deadMany hM (fun ω1 p1 => ?_)
      refine JM_iret rfl dX7_howMany_91 ?_
      have e := hQ ω1 p1
      unfold cntN at e
      rw [if_neg (by decide), if_neg (by decide), if_neg (by decide), if_neg (by decide), if_neg (by decide), if_neg (by decide), if_neg (by decide), if_pos rfl] at e
      exact e
    · skip
      refine ⟨91, 92, rfl, by decide, ?_⟩
      refine J_aload_n 0 dX7_howMany_92 rfl ?_
      refine JM_V0 lkM_X7_289 rcv_29 dX7_howMany_93 (by decide) (Nat.le_of_ble_eq_true rfl) ?_
      refine kX7_missingMany hM (fun ω1 p1 => ?_)
      refine JM_iret rfl dX7_howMany_96 ?_
      have e := hQ ω1 p1
      unfold cntN at e
      rw [if_neg (by decide), if_neg (by decide), if_neg (by decide), if_neg (by decide), if_neg (by decide), if_neg (by decide), if_neg (by decide), if_neg (by decide), if_pos rfl] at e
      exact e

set_option maxRecDepth 100000 in
set_option maxHeartbeats 4000000 in
theorem kX7_count {X : Cx} {d : Nat} {ω : Om} {Q : Option MV → Om → Prop} {w : Int} (hM : MW ω) (hQ : ∀ ω', MPx LA ω ω' → Q (some (vI (cntN (vw 0 ω) (ω 29 0) (ω 29 12) (ω 29 15) (ω 29 17) (ω 29 18) w))) ω') : Mc X mX7_count (d + 8) [vR 29, vI w] ω Q := by
  refine Mc_of [some (vR 29), some (vI w)] (by decide +kernel) rfl (Nat.le_of_ble_eq_true rfl) ?_
  refine J_aload_n 0 dX7_count_0 rfl ?_
  refine J_iload_n 1 dX7_count_1 rfl ?_
  refine JM_V1 lkM_X7_292 rcv_29 dX7_count_2 (by decide) (Nat.le_of_ble_eq_true rfl) ?_
  refine kX7_howMany hM (fun ω1 p1 => ?_)
  refine JM_iret rfl dX7_count_5 ?_
  exact hQ ω1 (p1.mono (by decide))
