/-! the model keeps moves, counts them; contracts -/
/-- what a call of the model that only looks may change; L: fields -/
def MPx (L : List Int) (ω ω' : Om) : Prop := Fr [29, 33, 34, 44, 45, 46, 47, 48, 49, 50, 51] ω ω' ∧ (∀ i, i ∉ L → ω' 29 i = ω 29 i) ∧ (ω 29 7 = 0 → ω' 29 7 = 0) ∧ (∀ i, i < 96 → ω' 33 i = ω 33 i) ∧ (∀ i, i < 8 → ω' 34 i = ω 34 i)
theorem MPx.rf (L : List Int) (ω : Om) : MPx L ω ω := ⟨Fr.rf, fun _ _ => rfl, id, fun _ _ => rfl, fun _ _ => rfl⟩
theorem MPx.tr {L : List Int} {a b c : Om} (h : MPx L a b) (g : MPx L b c) : MPx L a c := ⟨h.1.tr g.1, fun i x => (g.2.1 i x).trans (h.2.1 i x), fun q => g.2.2.1 (h.2.2.1 q), fun i q => (g.2.2.2.1 i q).trans (h.2.2.2.1 i q), fun i q => (g.2.2.2.2 i q).trans (h.2.2.2.2 i q)⟩
theorem MPx.mono {L L' : List Int} {a b : Om} (h : MPx L a b) (hs : ∀ i ∈ L, i ∈ L') : MPx L' a b := ⟨h.1, fun i q => h.2.1 i (fun r => q (hs i r)), h.2.2⟩
abbrev LA : List Int := [7, 28, 31, 32, 36, 39, 40, 41, 43, 44]
theorem MP0.x {a b : Om} (h : MP0 a b) : MPx [7, 28, 31, 32, 36] a b := ⟨h.1.mono (by decide), fun i q => h.2.1 i (fun e => q (by rw [e]; decide)) (fun e => q (by rw [e]; decide)) (fun e => q (by rw [e]; decide)) (fun e => q (by rw [e]; decide)) (fun e => q (by rw [e]; decide)), h.2.2⟩
theorem TF.x {a b : Om} (h : TF a b) : MPx [28, 31, 32] a b := ⟨h.1.mono (by decide), fun i q => h.2 i (fun e => q (by rw [e]; decide)) (fun e => q (by rw [e]; decide)) (fun e => q (by rw [e]; decide)), fun q => by rw [h.2 7 (by decide) (by decide) (by decide)]; exact q, fun i _ => by rw [h.1 33 (by decide)], fun i _ => by rw [h.1 34 (by decide)]⟩
theorem MPx.u9 {L : List Int} {a b : Om} (h : MPx L a b) {i z : Int} (hi : i ∈ L) (h7 : i ≠ 7) : MPx L a (up b 29 i z) := ⟨h.1.up (by decide), fun j q => by rw [up_i (fun e => q (by rw [e]; exact hi))]; exact h.2.1 j q, fun q => by rw [up_i (fun e => h7 e.symm)]; exact h.2.2.1 q, fun j q => by rw [up_k (by decide)]; exact h.2.2.2.1 j q, fun j q => by rw [up_k (by decide)]; exact h.2.2.2.2 j q⟩
theorem MPx.q {L : List Int} {ω ω' : Om} (hn : ω 29 2 ≤ 8) (h2 : (2 : Int) ∉ L) (h8 : (8 : Int) ∉ L) (h : MPx L ω ω') : TQ (vw 0 ω) (vw 0 ω') := by
  obtain ⟨f, f9, _, f33, f34⟩ := h
  refine ⟨f9 2 h2, f9 8 h8, fun t t0 t1 => ⟨by rw [vw12, vw12, f 31 (by decide)], by rw [vw13, vw13, f 32 (by decide)], ?_⟩, fun t m t0 t1 m0 m1 => ?_, fun b _ _ => by rw [vw17, vw17, f 36 (by decide)], fun b k _ _ _ _ => by rw [vw18, vw18, f 37 (by decide)]⟩
  · rw [vw37] at t1
    rw [vw15, vw15]; exact f34 _ (by omega)
  · rw [vw37] at t1
    rw [vw14, vw14]; exact f33 _ (by omega)
theorem MPx.w {L : List Int} {ω ω' : Om} (hM : MW ω) (h2 : (2 : Int) ∉ L) (h8 : (8 : Int) ∉ L) (h : MPx L ω ω') : MW ω' := ⟨WfT_TQ (h.q (n8_vw hM.1).2 h2 h8) hM.1, h.2.2.1 hM.2⟩
/-- a move is done and kept -/
def MvP (ω ω' : Om) (t m u : Int) : Prop := Fr [29, 33, 34, 38, 39, 44, 45, 46, 47, 48, 49, 50] ω ω' ∧ (∀ i, i < 19 → i ≠ 7 → i ≠ 12 → i ≠ 17 → ω' 29 i = ω 29 i) ∧ (ω' 29 7 = 0 ∧ ω' 29 12 = ω 29 12 + 1 ∧ ω' 29 17 = ω 29 17 + 1) ∧ TQ (mvT (vw 0 ω) t m u) (vw 0 ω') ∧
  ((∀ i, 0 ≤ i → i < 96 → ω' 38 (96 * ω 29 12 + i) = ω 33 i) ∧ ∀ q, q < 96 * ω 29 12 → ω' 38 q = ω 38 q) ∧ (∀ i, 0 ≤ i → i < 8 → ω' 39 (8 * ω 29 12 + i) = ω 34 i) ∧ ∀ q, q < 8 * ω 29 12 → ω' 39 q = ω 39 q
set_option maxRecDepth 100000 in
set_option maxHeartbeats 4000000 in
theorem l_mv2 {X : Cx} {d : Nat} {Q : Option MV → Om → Prop} {ω2 : Om} {t m u : Int} (hk : 0 ≤ ω2 29 12 ∧ ω2 29 12 < 20) : ∀ (n k : Nat) (ω : Om), k + n = 8 → Fr [34, 39] ω2 ω → (∀ j : Int, 0 ≤ j → j < k → ω 39 (8 * ω2 29 12 + j) = ω2 34 j ∧ ω 34 j = ω2 34 (8 + j)) → (∀ j, (k : Int) ≤ j → ω 34 j = ω2 34 j) → (∀ q, q < 8 * ω2 29 12 → ω 39 q = ω2 39 q) → (∀ (ω' : Om) (x : Int), Fr [34, 39] ω2 ω' → (∀ j, 0 ≤ j → j < 8 → ω' 39 (8 * ω2 29 12 + j) = ω2 34 j ∧ ω' 34 j = ω2 34 (8 + j)) → (∀ q, q < 8 * ω2 29 12 → ω' 39 q = ω2 39 q) → JM X mX7_move (d + 9) Q 150 [some (vR 29), some (vI t), some (vI m), some (vI u), some (vI x)] [] ω') → JM X mX7_move (d + 9) Q 98 [some (vR 29), some (vI t), some (vI m), some (vI u), some (vI k)] [] ω := by
  intro n
  induction n with
  | zero =>
    intro k ω hkn hF ha hb hc hQ
    refine J_iload 4 dX7_move_98 rfl ?_
    refine J_bipush 8 dX7_move_100 ⟨by decide, by decide⟩ (by decide) ?_
    refine J_icmp_ge 150 dX7_move_102 (by decide) (fun h102 => ?_) (fun h102 => ?_)
    · skip
      exact hQ ω k hF (fun j q r => ha j q (by omega)) hc
    · skip
      exfalso; omega
  | succ n ih =>
    intro k ω hkn hF ha hb hc hQ
    have e29 : ω 29 = ω2 29 := hF 29 (by decide)
    refine J_iload 4 dX7_move_98 rfl ?_
    refine J_bipush 8 dX7_move_100 ⟨by decide, by decide⟩ (by decide) ?_
    refine J_icmp_ge 150 dX7_move_102 (by decide) (fun h102 => ?_) (fun h102 => ?_)
    · skip
      exfalso; omega
    · skip
      refine J_aload_n 0 dX7_move_105 rfl ?_
      refine J_getR lkF_X7_38 rfl dX7_move_106 ?_
      refine J_bipush 8 dX7_move_109 ⟨by decide, by decide⟩ (by decide) ?_
      refine J_aload_n 0 dX7_move_111 rfl ?_
      refine J_getI 12 lkF_X7_137 rfl rfl rfl dX7_move_112 ?_
      rw [e29]
      refine J_imul dX7_move_115 ⟨by omega, by omega⟩ ?_
      refine J_iload 4 dX7_move_116 rfl ?_
      refine J_iadd dX7_move_118 ⟨by omega, by omega⟩ ?_
      refine J_aload_n 0 dX7_move_119 rfl ?_
      refine J_getR lkF_X7_23 rfl dX7_move_120 ?_
      refine J_iload 4 dX7_move_123 rfl ?_
      refine J_iaload _ rfl rfl (by omega) dX7_move_125 ?_
      refine J_iastore _ rfl (by omega) dX7_move_126 ?_
      refine J_aload_n 0 dX7_move_127 rfl ?_
      refine J_getR lkF_X7_23 rfl dX7_move_128 ?_
      refine J_iload 4 dX7_move_131 rfl ?_
      refine J_aload_n 0 dX7_move_133 rfl ?_
      refine J_getR lkF_X7_23 rfl dX7_move_134 ?_
      refine J_bipush 8 dX7_move_137 ⟨by decide, by decide⟩ (by decide) ?_
      refine J_iload 4 dX7_move_139 rfl ?_
      refine J_iadd dX7_move_141 ⟨by omega, by omega⟩ ?_
      refine J_iaload _ rfl rfl (by omega) dX7_move_142 ?_
      try simp (config := {decide := true}) only [up_s, up_k, up_i]
      refine J_iastore _ rfl (by omega) dX7_move_143 ?_
      refine J_iinc_4 dX7_move_144 (by decide) ⟨by omega, by omega⟩ rfl ?_
      refine J_goto 98 dX7_move_147 (by decide) ?_
      refine ih (k + 1) _ (by omega) ((hF.up (by decide)).up (by decide)) (fun j j0 j1 => ?_) (fun j j1 => ?_) (fun q hq => ?_) hQ
      · by_cases e : j = (k : Int)
        · subst e
          rw [up_k (by decide), up_s, up_s, hb _ (by omega), hb _ (by omega)]
          exact ⟨rfl, rfl⟩
        · rw [up_k (by decide), up_i (by omega), up_i e, up_k (by decide)]
          exact ha j j0 (by omega)
      · rw [up_i (by omega), up_k (by decide)]; exact hb j (by omega)
      · rw [up_k (by decide), up_i (by omega)]; exact hc q hq

set_option maxRecDepth 100000 in
set_option maxHeartbeats 4000000 in
theorem l_mv1 {X : Cx} {d : Nat} {Q : Option MV → Om → Prop} {ω1 : Om} {t m u : Int} (hk : 0 ≤ ω1 29 12 ∧ ω1 29 12 < 20) : ∀ (n k : Nat) (ω : Om), k + n = 96 → Fr [33, 38] ω1 ω → (∀ j : Int, 0 ≤ j → j < k → ω 38 (96 * ω1 29 12 + j) = ω1 33 j ∧ ω 33 j = ω1 33 (96 + j)) → (∀ j, (k : Int) ≤ j → ω 33 j = ω1 33 j) → (∀ q, q < 96 * ω1 29 12 → ω 38 q = ω1 38 q) → (∀ (ω' : Om) (x : Int), Fr [33, 38] ω1 ω' → (∀ j, 0 ≤ j → j < 96 → ω' 38 (96 * ω1 29 12 + j) = ω1 33 j ∧ ω' 33 j = ω1 33 (96 + j)) → (∀ q, q < 96 * ω1 29 12 → ω' 38 q = ω1 38 q) → JM X mX7_move (d + 9) Q 95 [some (vR 29), some (vI t), some (vI m), some (vI u), some (vI x)] [] ω') → JM X mX7_move (d + 9) Q 43 [some (vR 29), some (vI t), some (vI m), some (vI u), some (vI k)] [] ω := by
  intro n
  induction n with
  | zero =>
    intro k ω hkn hF ha hb hc hQ
    refine J_iload 4 dX7_move_43 rfl ?_
    refine J_bipush 96 dX7_move_45 ⟨by decide, by decide⟩ (by decide) ?_
    refine J_icmp_ge 95 dX7_move_47 (by decide) (fun h47 => ?_) (fun h47 => ?_)
    · skip
      exact hQ ω k hF (fun j q r => ha j q (by omega)) hc
    · skip
      exfalso; omega
  | succ n ih =>
    intro k ω hkn hF ha hb hc hQ
    have e29 : ω 29 = ω1 29 := hF 29 (by decide)
    refine J_iload 4 dX7_move_43 rfl ?_
    refine J_bipush 96 dX7_move_45 ⟨by decide, by decide⟩ (by decide) ?_
    refine J_icmp_ge 95 dX7_move_47 (by decide) (fun h47 => ?_) (fun h47 => ?_)
    · skip
      exfalso; omega
    · skip
      refine J_aload_n 0 dX7_move_50 rfl ?_
      refine J_getR lkF_X7_35 rfl dX7_move_51 ?_
      refine J_bipush 96 dX7_move_54 ⟨by decide, by decide⟩ (by decide) ?_
      refine J_aload_n 0 dX7_move_56 rfl ?_
      refine J_getI 12 lkF_X7_137 rfl rfl rfl dX7_move_57 ?_
      rw [e29]
      refine J_imul dX7_move_60 ⟨by omega, by omega⟩ ?_
      refine J_iload 4 dX7_move_61 rfl ?_
      refine J_iadd dX7_move_63 ⟨by omega, by omega⟩ ?_
      refine J_aload_n 0 dX7_move_64 rfl ?_
      refine J_getR lkF_X7_20 rfl dX7_move_65 ?_
      refine J_iload 4 dX7_move_68 rfl ?_
      refine J_iaload _ rfl rfl (by omega) dX7_move_70 ?_
      refine J_iastore _ rfl (by omega) dX7_move_71 ?_
      refine J_aload_n 0 dX7_move_72 rfl ?_
      refine J_getR lkF_X7_20 rfl dX7_move_73 ?_
      refine J_iload 4 dX7_move_76 rfl ?_
      refine J_aload_n 0 dX7_move_78 rfl ?_
      refine J_getR lkF_X7_20 rfl dX7_move_79 ?_
      refine J_bipush 96 dX7_move_82 ⟨by decide, by decide⟩ (by decide) ?_
      refine J_iload 4 dX7_move_84 rfl ?_
      refine J_iadd dX7_move_86 ⟨by omega, by omega⟩ ?_
      refine J_iaload _ rfl rfl (by omega) dX7_move_87 ?_
      try simp (config := {decide := true}) only [up_s, up_k, up_i]
      refine J_iastore _ rfl (by omega) dX7_move_88 ?_
      refine J_iinc_4 dX7_move_89 (by decide) ⟨by omega, by omega⟩ rfl ?_
      refine J_goto 43 dX7_move_92 (by decide) ?_
      refine ih (k + 1) _ (by omega) ((hF.up (by decide)).up (by decide)) (fun j j0 j1 => ?_) (fun j j1 => ?_) (fun q hq => ?_) hQ
      · by_cases e : j = (k : Int)
        · subst e
          rw [up_k (by decide), up_s, up_s, hb _ (by omega), hb _ (by omega)]
          exact ⟨rfl, rfl⟩
        · rw [up_k (by decide), up_i (by omega), up_i e, up_k (by decide)]
          exact ha j j0 (by omega)
      · rw [up_i (by omega), up_k (by decide)]; exact hb j (by omega)
      · rw [up_k (by decide), up_i (by omega)]; exact hc q hq

set_option maxRecDepth 100000 in
set_option maxHeartbeats 4000000 in
theorem kX7_move {X : Cx} {d : Nat} {ω : Om} {Q : Option MV → Om → Prop} {t m u : Int} (hM : MW ω) (hk : 0 ≤ ω 29 12 ∧ ω 29 12 ≤ 20) (hdn : 0 ≤ ω 29 17 ∧ ω 29 17 < 1000000) (hQ : if (0 ≤ t ∧ t < ω 29 2) ∧ 0 ≤ m ∧ m < 12 then (if whyT (vw 0 ω) t m u = 0 then (if ω 29 12 < 20 then (∀ ω', MvP ω ω' t m u → Q (some (vI (ω 29 12 + 1))) ω') else (∀ ω', MP0 ω ω' → Q (some (vI (-1004))) ω')) else (∀ ω', MP0 ω ω' → Q (some (vI (-1003))) ω')) else Q (some (vI (-1001))) ω) : Mc X mX7_move (d + 9) [vR 29, vI t, vI m, vI u] ω Q := by
  have n8 := n8_vw hM.1
  refine Mc_of [some (vR 29), some (vI t), some (vI m), some (vI u), none] (by decide +kernel) rfl (Nat.le_of_ble_eq_true rfl) ?_
  refine J_aload_n 0 dX7_move_0 rfl ?_
  refine J_iload_n 1 dX7_move_1 rfl ?_
  refine J_iload_n 2 dX7_move_2 rfl ?_
  refine JM_V2 lkM_X7_173 rcv_29 dX7_move_3 (by decide) (Nat.le_of_ble_eq_true rfl) ?_
  refine kX7_isMember n8 ?_
  generalize hg : (if (0 ≤ t ∧ t < ω 29 2) ∧ 0 ≤ m ∧ m < 12 then (1 : Int) else 0) = g
  have hg2 : (g = 1 ∧ ((0 ≤ t ∧ t < ω 29 2) ∧ 0 ≤ m ∧ m < 12)) ∨ (g = 0 ∧ ¬ ((0 ≤ t ∧ t < ω 29 2) ∧ 0 ≤ m ∧ m < 12)) := by
    subst hg
    split
    · left; exact ⟨rfl, by omega⟩
    · right; exact ⟨rfl, by omega⟩
  refine J_if_ne 13 dX7_move_6 (by decide) (fun h6 => ?_) (fun h6 => ?_)
  · skip
    refine J_aload_n 0 dX7_move_13 rfl ?_
    refine J_iload_n 1 dX7_move_14 rfl ?_
    refine J_iload_n 2 dX7_move_15 rfl ?_
    refine J_iload_n 3 dX7_move_16 rfl ?_
    refine JM_V3 lkM_X7_247 rcv_29 dX7_move_17 (by decide) (Nat.le_of_ble_eq_true rfl) ?_
    rw [if_pos (by omega)] at hQ
    refine kX7_whyNow hM (by omega) (by omega) (fun ω1 p1 q1 => ?_)
    have k12 : ω1 29 12 = ω 29 12 := p1.2.1 12 (by decide) (by decide) (by decide) (by decide) (by decide)
    have k2 : ω1 29 2 = ω 29 2 := p1.2.1 2 (by decide) (by decide) (by decide) (by decide) (by decide)
    have k17 : ω1 29 17 = ω 29 17 := p1.2.1 17 (by decide) (by decide) (by decide) (by decide) (by decide)
    refine J_if_eq 27 dX7_move_20 (by decide) (fun h20 => ?_) (fun h20 => ?_)
    · skip
      rw [if_pos h20] at hQ
      have hpl : plainT (vw 0 ω) t m u = 0 := by
        unfold whyT at h20
        by_cases q : plainT (vw 0 ω) t m u = 0
        · exact q
        · rw [if_neg q] at h20; exact absurd h20 q
      refine J_aload_n 0 dX7_move_27 rfl ?_
      refine J_getI 12 lkF_X7_137 rfl rfl rfl dX7_move_28 ?_
      refine J_bipush 20 dX7_move_31 ⟨by decide, by decide⟩ (by decide) ?_
      refine J_icmp_ne 40 dX7_move_33 (by decide) (fun h33 => ?_) (fun h33 => ?_)
      · skip
        refine J_iconst 0 dX7_move_40 ⟨by decide, by decide⟩ ?_
        refine J_istore_4 dX7_move_41 (by decide) rfl ?_
        refine l_mv1 (by omega) 96 0 ω1 (by omega) Fr.rf (fun j q r => by omega) (fun j _ => rfl) (fun q _ => rfl) (fun ω2 x f2 a2 b2 => ?_)
        refine J_iconst 0 dX7_move_95 ⟨by decide, by decide⟩ ?_
        refine J_istore_4 dX7_move_96 (by decide) rfl ?_
        refine l_mv2 (by rw [f2 29 (by decide)]; omega) 8 0 ω2 (by omega) Fr.rf (fun j q r => by omega) (fun j _ => rfl) (fun q _ => rfl) (fun ω3 x f3 a3 b3 => ?_)
        have r12 : ω3 29 12 = ω 29 12 := by rw [f3 29 (by decide), f2 29 (by decide), k12]
        have r17 : ω3 29 17 = ω 29 17 := by rw [f3 29 (by decide), f2 29 (by decide), k17]
        refine J_aload_n 0 dX7_move_150 rfl ?_
        first | refine J_dupR dX7_move_151 ?_ | refine J_dupI dX7_move_151 ?_
        refine J_getI 12 lkF_X7_137 rfl rfl rfl dX7_move_152 ?_
        refine J_iconst 1 dX7_move_155 ⟨by decide, by decide⟩ ?_
        refine J_iadd dX7_move_156 ⟨by omega, by omega⟩ ?_
        refine J_putI 12 lkF_X7_137 rfl fp_7_12 rfl dX7_move_157 ?_
        refine J_aload_n 0 dX7_move_160 rfl ?_
        first | refine J_dupR dX7_move_161 ?_ | refine J_dupI dX7_move_161 ?_
        refine J_getI 17 lkF_X7_250 rfl rfl rfl dX7_move_162 ?_
        try simp (config := {decide := true}) only [up_s, up_k, up_i]
        refine J_iconst 1 dX7_move_165 ⟨by decide, by decide⟩ ?_
        refine J_iadd dX7_move_166 ⟨by omega, by omega⟩ ?_
        refine J_putI 17 lkF_X7_250 rfl fp_7_17 rfl dX7_move_167 ?_
        refine J_aload_n 0 dX7_move_170 rfl ?_
        refine J_getI 12 lkF_X7_137 rfl rfl rfl dX7_move_171 ?_
        try simp (config := {decide := true}) only [up_s, up_k, up_i]
        refine JM_iret rfl dX7_move_174 ?_
        rw [if_pos (by omega)] at hQ
        have e12 : ω3 29 12 = ω1 29 12 := by rw [f3 29 (by decide), f2 29 (by decide)]
        have e17 : ω3 29 17 = ω1 29 17 := by rw [f3 29 (by decide), f2 29 (by decide)]
        rw [e12, k12]
        refine hQ _ ⟨?_, ?_, ?_, ?_, ?_, ?_⟩
        · exact (((p1.1.mono (by decide)).tr (f2.mono (by decide))).tr (f3.mono (by decide)) |>.up (by decide)).up (by decide)
        · intro i i19 i7 i12 i17
          rw [up_i (by omega), up_i (by omega), f3 29 (by decide), f2 29 (by decide), p1.2.1 i (by omega) (by omega) (by omega) (by omega) (by omega)]
        · refine ⟨?_, ?_, ?_⟩
          · rw [up_i (by decide), up_i (by decide), f3 29 (by decide), f2 29 (by decide)]; exact p1.2.2.1 hM.2
          · rw [up_i (by decide), up_s]
          · rw [up_s, e17, p1.2.1 17 (by decide) (by decide) (by decide) (by decide) (by decide)]
        · refine (q1 hpl).tr ⟨?_, ?_, fun c c0 c1 => ⟨?_, ?_, ?_⟩, fun c n c0 c1 n0 n1 => ?_, fun b _ _ => ?_, fun b k _ _ _ _ => ?_⟩
          · rw [vw37, vw37, up_i (by decide), up_i (by decide), f3 29 (by decide), f2 29 (by decide)]
          · rw [vw38, vw38, up_i (by decide), up_i (by decide), f3 29 (by decide), f2 29 (by decide)]
          · rw [vw12, vw12, up_k (by decide), up_k (by decide), f3 31 (by decide), f2 31 (by decide)]
          · rw [vw13, vw13, up_k (by decide), up_k (by decide), f3 32 (by decide), f2 32 (by decide)]
          · rw [vw37] at c1
            rw [vw15, vw15, up_k (by decide), up_k (by decide), show (8 : Int) * 0 + c = c from by omega, (a3 c c0 (by omega)).2, f2 34 (by decide), show (8 : Int) * 1 + c = 8 + c from by omega]
          · rw [vw37] at c1
            rw [vw14, vw14, up_k (by decide), up_k (by decide), f3 33 (by decide), show (96 : Int) * 0 + (c * 12 + n) = c * 12 + n from by omega, (a2 _ (by omega) (by omega)).2, show (96 : Int) * 1 + (c * 12 + n) = 96 + (c * 12 + n) from by omega]
          · rw [vw17, vw17, up_k (by decide), up_k (by decide), f3 36 (by decide), f2 36 (by decide)]
          · rw [vw18, vw18, up_k (by decide), up_k (by decide), f3 37 (by decide), f2 37 (by decide)]
        · refine ⟨fun i i0 i1 => ?_, fun q hq => ?_⟩
          · rw [up_k (by decide), up_k (by decide), f3 38 (by decide), ← k12, (a2 i i0 i1).1, p1.2.2.2.1 i i1]
          · rw [up_k (by decide), up_k (by decide), f3 38 (by decide), b2 q (by rw [k12]; exact hq), p1.1 38 (by decide)]
        · refine ⟨fun i i0 i1 => ?_, fun q hq => ?_⟩
          · rw [up_k (by decide), up_k (by decide), ← k12, show ω1 29 12 = ω2 29 12 from by rw [f2 29 (by decide)], (a3 i i0 i1).1, f2 34 (by decide), p1.2.2.2.2 i i1]
          · rw [up_k (by decide), up_k (by decide), b3 q (by rw [f2 29 (by decide), k12]; exact hq), f2 39 (by decide), p1.1 39 (by decide)]
      · skip
        refine J_sipush (-1004) dX7_move_36 ⟨by decide, by decide⟩ (by decide) ?_
        refine JM_iret rfl dX7_move_39 ?_
        rw [if_neg (by omega)] at hQ; exact hQ ω1 p1
    · skip
      rw [if_neg h20] at hQ
      refine J_sipush (-1003) dX7_move_23 ⟨by decide, by decide⟩ (by decide) ?_
      refine JM_iret rfl dX7_move_26 ?_
      exact hQ ω1 p1
  · skip
    refine J_sipush (-1001) dX7_move_9 ⟨by decide, by decide⟩ (by decide) ?_
    refine JM_iret rfl dX7_move_12 ?_
    rw [if_neg (by omega)] at hQ; exact hQ

/-- the last move is taken back -/
def UnP (ω ω' : Om) : Prop := Fr [29, 33, 34] ω ω' ∧ (∀ i, i ≠ 12 → i ≠ 18 → ω' 29 i = ω 29 i) ∧ (ω' 29 12 = ω 29 12 - 1 ∧ ω' 29 18 = ω 29 18 + 1) ∧ (∀ i, 0 ≤ i → i < 96 → ω' 33 i = ω 38 (96 * (ω 29 12 - 1) + i)) ∧ ∀ i, 0 ≤ i → i < 8 → ω' 34 i = ω 39 (8 * (ω 29 12 - 1) + i)
set_option maxRecDepth 100000 in
set_option maxHeartbeats 4000000 in
theorem l_un2 {X : Cx} {d : Nat} {Q : Option MV → Om → Prop} {ω1 : Om} (hk : 0 ≤ ω1 29 12 ∧ ω1 29 12 < 20) : ∀ (n k : Nat) (ω : Om), k + n = 8 → Fr [34] ω1 ω → (∀ j : Int, 0 ≤ j → j < k → ω 34 j = ω1 39 (8 * ω1 29 12 + j)) → (∀ (ω' : Om) (x : Int), Fr [34] ω1 ω' → (∀ j, 0 ≤ j → j < 8 → ω' 34 j = ω1 39 (8 * ω1 29 12 + j)) → JM X mX7_undo d Q 89 [some (vR 29), some (vI x)] [] ω') → JM X mX7_undo d Q 57 [some (vR 29), some (vI k)] [] ω := by
  intro n
  induction n with
  | zero =>
    intro k ω hkn hF ha hQ
    refine J_iload_n 1 dX7_undo_57 rfl ?_
    refine J_bipush 8 dX7_undo_58 ⟨by decide, by decide⟩ (by decide) ?_
    refine J_icmp_ge 89 dX7_undo_60 (by decide) (fun h60 => ?_) (fun h60 => ?_)
    · skip
      exact hQ ω k hF (fun j q r => ha j q (by omega))
    · skip
      exfalso; omega
  | succ n ih =>
    intro k ω hkn hF ha hQ
    have e29 : ω 29 = ω1 29 := hF 29 (by decide)
    refine J_iload_n 1 dX7_undo_57 rfl ?_
    refine J_bipush 8 dX7_undo_58 ⟨by decide, by decide⟩ (by decide) ?_
    refine J_icmp_ge 89 dX7_undo_60 (by decide) (fun h60 => ?_) (fun h60 => ?_)
    · skip
      exfalso; omega
    · skip
      refine J_aload_n 0 dX7_undo_63 rfl ?_
      refine J_getR lkF_X7_23 rfl dX7_undo_64 ?_
      refine J_iload_n 1 dX7_undo_67 rfl ?_
      refine J_aload_n 0 dX7_undo_68 rfl ?_
      refine J_getR lkF_X7_38 rfl dX7_undo_69 ?_
      refine J_bipush 8 dX7_undo_72 ⟨by decide, by decide⟩ (by decide) ?_
      refine J_aload_n 0 dX7_undo_74 rfl ?_
      refine J_getI 12 lkF_X7_137 rfl rfl rfl dX7_undo_75 ?_
      rw [e29]
      refine J_imul dX7_undo_78 ⟨by omega, by omega⟩ ?_
      refine J_iload_n 1 dX7_undo_79 rfl ?_
      refine J_iadd dX7_undo_80 ⟨by omega, by omega⟩ ?_
      refine J_iaload _ rfl rfl (by omega) dX7_undo_81 ?_
      refine J_iastore _ rfl (by omega) dX7_undo_82 ?_
      refine J_iinc_1 dX7_undo_83 (by decide) ⟨by omega, by omega⟩ rfl ?_
      refine J_goto 57 dX7_undo_86 (by decide) ?_
      refine ih (k + 1) _ (by omega) (hF.up (by decide)) (fun j j0 j1 => ?_) hQ
      by_cases e : j = (k : Int)
      · subst e; rw [up_s, hF 39 (by decide)]
      · rw [up_i e]; exact ha j j0 (by omega)

set_option maxRecDepth 100000 in
set_option maxHeartbeats 4000000 in
theorem l_un1 {X : Cx} {d : Nat} {Q : Option MV → Om → Prop} {ω1 : Om} (hk : 0 ≤ ω1 29 12 ∧ ω1 29 12 < 20) : ∀ (n k : Nat) (ω : Om), k + n = 96 → Fr [33] ω1 ω → (∀ j : Int, 0 ≤ j → j < k → ω 33 j = ω1 38 (96 * ω1 29 12 + j)) → (∀ (ω' : Om) (x : Int), Fr [33] ω1 ω' → (∀ j, 0 ≤ j → j < 96 → ω' 33 j = ω1 38 (96 * ω1 29 12 + j)) → JM X mX7_undo d Q 55 [some (vR 29), some (vI x)] [] ω') → JM X mX7_undo d Q 23 [some (vR 29), some (vI k)] [] ω := by
  intro n
  induction n with
  | zero =>
    intro k ω hkn hF ha hQ
    refine J_iload_n 1 dX7_undo_23 rfl ?_
    refine J_bipush 96 dX7_undo_24 ⟨by decide, by decide⟩ (by decide) ?_
    refine J_icmp_ge 55 dX7_undo_26 (by decide) (fun h26 => ?_) (fun h26 => ?_)
    · skip
      exact hQ ω k hF (fun j q r => ha j q (by omega))
    · skip
      exfalso; omega
  | succ n ih =>
    intro k ω hkn hF ha hQ
    have e29 : ω 29 = ω1 29 := hF 29 (by decide)
    refine J_iload_n 1 dX7_undo_23 rfl ?_
    refine J_bipush 96 dX7_undo_24 ⟨by decide, by decide⟩ (by decide) ?_
    refine J_icmp_ge 55 dX7_undo_26 (by decide) (fun h26 => ?_) (fun h26 => ?_)
    · skip
      exfalso; omega
    · skip
      refine J_aload_n 0 dX7_undo_29 rfl ?_
      refine J_getR lkF_X7_20 rfl dX7_undo_30 ?_
      refine J_iload_n 1 dX7_undo_33 rfl ?_
      refine J_aload_n 0 dX7_undo_34 rfl ?_
      refine J_getR lkF_X7_35 rfl dX7_undo_35 ?_
      refine J_bipush 96 dX7_undo_38 ⟨by decide, by decide⟩ (by decide) ?_
      refine J_aload_n 0 dX7_undo_40 rfl ?_
      refine J_getI 12 lkF_X7_137 rfl rfl rfl dX7_undo_41 ?_
      rw [e29]
      refine J_imul dX7_undo_44 ⟨by omega, by omega⟩ ?_
      refine J_iload_n 1 dX7_undo_45 rfl ?_
      refine J_iadd dX7_undo_46 ⟨by omega, by omega⟩ ?_
      refine J_iaload _ rfl rfl (by omega) dX7_undo_47 ?_
      refine J_iastore _ rfl (by omega) dX7_undo_48 ?_
      refine J_iinc_1 dX7_undo_49 (by decide) ⟨by omega, by omega⟩ rfl ?_
      refine J_goto 23 dX7_undo_52 (by decide) ?_
      refine ih (k + 1) _ (by omega) (hF.up (by decide)) (fun j j0 j1 => ?_) hQ
      by_cases e : j = (k : Int)
      · subst e; rw [up_s, hF 38 (by decide)]
      · rw [up_i e]; exact ha j j0 (by omega)

set_option maxRecDepth 100000 in
set_option maxHeartbeats 4000000 in
theorem kX7_undo {X : Cx} {d : Nat} {ω : Om} {Q : Option MV → Om → Prop} (hk : 0 ≤ ω 29 12 ∧ ω 29 12 ≤ 20) (hdn : 0 ≤ ω 29 18 ∧ ω 29 18 < 1000000) (hQ : if ω 29 12 ≤ 0 then Q (some (vI (-1003))) ω else (∀ ω', UnP ω ω' → Q (some (vI (ω 29 12 - 1))) ω')) : Mc X mX7_undo d [vR 29] ω Q := by
  refine Mc_of [some (vR 29), none] (by decide +kernel) rfl (Nat.le_of_ble_eq_true rfl) ?_
  refine J_aload_n 0 dX7_undo_0 rfl ?_
  refine J_getI 12 lkF_X7_137 rfl rfl rfl dX7_undo_1 ?_
  refine J_if_ne 11 dX7_undo_4 (by decide) (fun h4 => ?_) (fun h4 => ?_)
  · skip
    refine J_aload_n 0 dX7_undo_11 rfl ?_
    first | refine J_dupR dX7_undo_12 ?_ | refine J_dupI dX7_undo_12 ?_
    refine J_getI 12 lkF_X7_137 rfl rfl rfl dX7_undo_13 ?_
    refine J_iconst 1 dX7_undo_16 ⟨by decide, by decide⟩ ?_
    refine J_isub dX7_undo_17 ⟨by omega, by omega⟩ ?_
    refine J_putI 12 lkF_X7_137 rfl fp_7_12 rfl dX7_undo_18 ?_
    refine J_iconst 0 dX7_undo_21 ⟨by decide, by decide⟩ ?_
    refine J_istore_1 dX7_undo_22 (by decide) rfl ?_
    rw [if_neg (by omega)] at hQ
    obtain ⟨ω1, hω1⟩ : ∃ w, w = up ω 29 12 (ω 29 12 - 1) := ⟨_, rfl⟩
    rw [← hω1]
    have k12 : ω1 29 12 = ω 29 12 - 1 := by rw [hω1, up_s]
    have ff : Fr [29] ω ω1 := by rw [hω1]; exact Fr.up Fr.rf (by decide)
    have f9 : ∀ i, i ≠ 12 → ω1 29 i = ω 29 i := fun i q => by rw [hω1, up_i q]
    refine l_un1 (by omega) 96 0 ω1 (by omega) Fr.rf (fun j q r => by omega) (fun ω2 x f2 a2 => ?_)
    refine J_iconst 0 dX7_undo_55 ⟨by decide, by decide⟩ ?_
    refine J_istore_1 dX7_undo_56 (by decide) rfl ?_
    refine l_un2 (by rw [f2 29 (by decide)]; omega) 8 0 ω2 (by omega) Fr.rf (fun j q r => by omega) (fun ω3 x f3 a3 => ?_)
    have r12 : ω3 29 12 = ω 29 12 - 1 := by rw [f3 29 (by decide), f2 29 (by decide), k12]
    have r18 : ω3 29 18 = ω 29 18 := by rw [f3 29 (by decide), f2 29 (by decide), f9 18 (by decide)]
    refine J_aload_n 0 dX7_undo_89 rfl ?_
    first | refine J_dupR dX7_undo_90 ?_ | refine J_dupI dX7_undo_90 ?_
    refine J_getI 18 lkF_X7_253 rfl rfl rfl dX7_undo_91 ?_
    refine J_iconst 1 dX7_undo_94 ⟨by decide, by decide⟩ ?_
    refine J_iadd dX7_undo_95 ⟨by omega, by omega⟩ ?_
    refine J_putI 18 lkF_X7_253 rfl fp_7_18 rfl dX7_undo_96 ?_
    refine J_aload_n 0 dX7_undo_99 rfl ?_
    refine J_getI 12 lkF_X7_137 rfl rfl rfl dX7_undo_100 ?_
    try simp (config := {decide := true}) only [up_s, up_k, up_i]
    refine JM_iret rfl dX7_undo_103 ?_
    rw [r12]
    refine hQ _ ⟨?_, ?_, ⟨?_, ?_⟩, ?_, ?_⟩
    · exact (((ff.mono (by decide)).tr (f2.mono (by decide))).tr (f3.mono (by decide))).up (by decide)
    · intro i i12 i18
      rw [up_i i18, f3 29 (by decide), f2 29 (by decide), f9 i i12]
    · rw [up_i (by decide), r12]
    · rw [up_s, r18]
    · intro i i0 i1
      rw [up_k (by decide), f3 33 (by decide), a2 i i0 i1, k12, ff 38 (by decide)]
    · intro i i0 i1
      rw [up_k (by decide), a3 i i0 i1, f2 29 (by decide), k12, f2 39 (by decide), ff 39 (by decide)]
  · skip
    refine J_sipush (-1003) dX7_undo_7 ⟨by decide, by decide⟩ (by decide) ?_
    refine JM_iret rfl dX7_undo_10 ?_
    rw [if_pos (by omega)] at hQ; exact hQ

theorem whyT_vw {ω0 ω : Om} (hM : MW ω0) (h : MPx [7, 28, 31, 32, 36, 39, 40, 41] ω0 ω) (k : Nat) (u : Int) : whyT (vw 0 ω) ((k / 12 : Nat) : Int) ((k % 12 : Nat) : Int) u = whyT (vw 0 ω0) ((k / 12 : Nat) : Int) ((k % 12 : Nat) : Int) u := whyT_TQ (h.q (n8_vw hM.1).2 (by decide) (by decide)) u (by omega)
set_option maxRecDepth 100000 in
set_option maxHeartbeats 4000000 in
theorem l_lym {X : Cx} {d : Nat} {Q : Option MV → Om → Prop} {ω0 : Om} (hM : MW ω0) : ∀ (n k : Nat) (ω : Om) (x y : Option MV), k + n = 12 * (ω0 29 2).toNat → MPx [7, 28, 31, 32, 36, 39, 40, 41] ω0 ω → ω 29 39 = upsT (vw 0 ω0) k → ω 29 40 = downsT (vw 0 ω0) k → ω 29 41 = stopT (vw 0 ω0) k → (∀ ω', MPx [7, 28, 31, 32, 36, 39, 40, 41] ω0 ω' → ω' 29 39 = upsT (vw 0 ω0) (12 * (ω0 29 2).toNat) → ω' 29 40 = downsT (vw 0 ω0) (12 * (ω0 29 2).toNat) → ω' 29 41 = stopT (vw 0 ω0) (12 * (ω0 29 2).toNat) → Q none ω') → JM X mX7_layMoves (d + 9) Q 17 [some (vR 29), some (vI k), x, y] [] ω := by
  have n8 := n8_vw hM.1
  intro n
  induction n with
  | zero =>
    intro k ω x y hk hF h1 h2 h3 hQ
    have e2 : ω 29 2 = ω0 29 2 := hF.2.1 2 (by decide)
    refine J_iload_n 1 dX7_layMoves_17 rfl ?_
    refine J_bipush 12 dX7_layMoves_18 ⟨by decide, by decide⟩ (by decide) ?_
    refine J_aload_n 0 dX7_layMoves_20 rfl ?_
    refine J_getI 2 lkF_X7_112 rfl rfl rfl dX7_layMoves_21 ?_
    refine J_imul dX7_layMoves_24 ⟨by omega, by omega⟩ ?_
    refine J_icmp_ge 128 dX7_layMoves_25 (by decide) (fun h25 => ?_) (fun h25 => ?_)
    · skip
      refine JM_vret rfl dX7_layMoves_128 ?_
      obtain rfl : k = 12 * (ω0 29 2).toNat := by omega
      exact hQ ω hF h1 h2 h3
    · skip
      exfalso; omega
  | succ n ih =>
    intro k ω x y hk hF h1 h2 h3 hQ
    have e2 : ω 29 2 = ω0 29 2 := hF.2.1 2 (by decide)
    have hR := mvs_R (vw 0 ω0) k
    refine J_iload_n 1 dX7_layMoves_17 rfl ?_
    refine J_bipush 12 dX7_layMoves_18 ⟨by decide, by decide⟩ (by decide) ?_
    refine J_aload_n 0 dX7_layMoves_20 rfl ?_
    refine J_getI 2 lkF_X7_112 rfl rfl rfl dX7_layMoves_21 ?_
    refine J_imul dX7_layMoves_24 ⟨by omega, by omega⟩ ?_
    refine J_icmp_ge 128 dX7_layMoves_25 (by decide) (fun h25 => ?_) (fun h25 => ?_)
    · skip
      exfalso; omega
    · skip
      refine J_aload_n 0 dX7_layMoves_28 rfl ?_
      refine J_iload_n 1 dX7_layMoves_29 rfl ?_
      refine J_bipush 12 dX7_layMoves_30 ⟨by decide, by decide⟩ (by decide) ?_
      refine J_idiv dX7_layMoves_32 (by omega) (by omega) ?_
      refine J_iload_n 1 dX7_layMoves_33 rfl ?_
      refine J_bipush 12 dX7_layMoves_34 ⟨by decide, by decide⟩ (by decide) ?_
      refine J_irem dX7_layMoves_36 (by omega) (by omega) ?_
      refine J_iconst 1 dX7_layMoves_37 ⟨by decide, by decide⟩ ?_
      refine JM_V3 lkM_X7_247 rcv_29 dX7_layMoves_38 (by decide) (Nat.le_of_ble_eq_true rfl) ?_
      rw [show ((k : Int) / 12) = ((k / 12 : Nat) : Int) from by omega, show ((k : Int) % 12) = ((k % 12 : Nat) : Int) from by omega]
      refine kX7_whyNow (hF.w hM (by decide) (by decide)) (by omega) (by omega) (fun ω1 p1 _ => ?_)
      rw [whyT_vw hM hF]
      have hF1 := hF.tr (p1.x.mono (by decide))
      have e21 : ω1 29 2 = ω0 29 2 := hF1.2.1 2 (by decide)
      refine J_istore_2 dX7_layMoves_41 (by decide) rfl ?_
      refine J_aload_n 0 dX7_layMoves_42 rfl ?_
      refine J_iload_n 1 dX7_layMoves_43 rfl ?_
      refine J_bipush 12 dX7_layMoves_44 ⟨by decide, by decide⟩ (by decide) ?_
      refine J_idiv dX7_layMoves_46 (by omega) (by omega) ?_
      refine J_iload_n 1 dX7_layMoves_47 rfl ?_
      refine J_bipush 12 dX7_layMoves_48 ⟨by decide, by decide⟩ (by decide) ?_
      refine J_irem dX7_layMoves_50 (by omega) (by omega) ?_
      refine J_iconst 0 dX7_layMoves_51 ⟨by decide, by decide⟩ ?_
      refine JM_V3 lkM_X7_247 rcv_29 dX7_layMoves_52 (by decide) (Nat.le_of_ble_eq_true rfl) ?_
      rw [show ((k : Int) / 12) = ((k / 12 : Nat) : Int) from by omega, show ((k : Int) % 12) = ((k % 12 : Nat) : Int) from by omega]
      refine kX7_whyNow (hF1.w hM (by decide) (by decide)) (by omega) (by omega) (fun ω2 p2 _ => ?_)
      rw [whyT_vw hM hF1]
      have hF2 := hF1.tr (p2.x.mono (by decide))
      have g1 : ω2 29 39 = upsT (vw 0 ω0) k := by rw [p2.2.1 39 (by decide) (by decide) (by decide) (by decide) (by decide), p1.2.1 39 (by decide) (by decide) (by decide) (by decide) (by decide)]; exact h1
      have g2 : ω2 29 40 = downsT (vw 0 ω0) k := by rw [p2.2.1 40 (by decide) (by decide) (by decide) (by decide) (by decide), p1.2.1 40 (by decide) (by decide) (by decide) (by decide) (by decide)]; exact h2
      have g3 : ω2 29 41 = stopT (vw 0 ω0) k := by rw [p2.2.1 41 (by decide) (by decide) (by decide) (by decide) (by decide), p1.2.1 41 (by decide) (by decide) (by decide) (by decide) (by decide)]; exact h3
      generalize hwu : whyT (vw 0 ω0) ((k / 12 : Nat) : Int) ((k % 12 : Nat) : Int) 1 = wu
      generalize hwd : whyT (vw 0 ω0) ((k / 12 : Nat) : Int) ((k % 12 : Nat) : Int) 0 = wd
      refine J_istore_3 dX7_layMoves_55 (by decide) rfl ?_
      refine J_aload_n 0 dX7_layMoves_56 rfl ?_
      first | refine J_dupR dX7_layMoves_57 ?_ | refine J_dupI dX7_layMoves_57 ?_
      refine J_getI 39 lkF_X7_256 rfl rfl rfl dX7_layMoves_58 ?_
      refine J_iload_n 2 dX7_layMoves_61 rfl ?_
      refine J_if_ne 69 dX7_layMoves_62 (by decide) (fun h62 => ?_) (fun h62 => ?_)
      · skip
        refine J_iconst 0 dX7_layMoves_69 ⟨by decide, by decide⟩ ?_
        refine J_iadd dX7_layMoves_70 ⟨by omega, by omega⟩ ?_
        refine J_putI 39 lkF_X7_256 rfl fp_7_39 rfl dX7_layMoves_71 ?_
        refine J_aload_n 0 dX7_layMoves_74 rfl ?_
        first | refine J_dupR dX7_layMoves_75 ?_ | refine J_dupI dX7_layMoves_75 ?_
        refine J_getI 40 lkF_X7_259 rfl rfl rfl dX7_layMoves_76 ?_
        try simp (config := {decide := true}) only [up_s, up_k, up_i]
        refine J_iload_n 3 dX7_layMoves_79 rfl ?_
        refine J_if_ne 87 dX7_layMoves_80 (by decide) (fun h80 => ?_) (fun h80 => ?_)
        · skip
          refine J_iconst 0 dX7_layMoves_87 ⟨by decide, by decide⟩ ?_
          refine J_iadd dX7_layMoves_88 ⟨by omega, by omega⟩ ?_
          refine J_putI 40 lkF_X7_259 rfl fp_7_40 rfl dX7_layMoves_89 ?_
          refine J_aload_n 0 dX7_layMoves_92 rfl ?_
          first | refine J_dupR dX7_layMoves_93 ?_ | refine J_dupI dX7_layMoves_93 ?_
          refine J_getI 41 lkF_X7_262 rfl rfl rfl dX7_layMoves_94 ?_
          try simp (config := {decide := true}) only [up_s, up_k, up_i]
          refine J_iload_n 2 dX7_layMoves_97 rfl ?_
          refine J_iconst 4 dX7_layMoves_98 ⟨by decide, by decide⟩ ?_
          refine J_icmp_ne 106 dX7_layMoves_99 (by decide) (fun h99 => ?_) (fun h99 => ?_)
          · skip
            refine J_iconst 0 dX7_layMoves_106 ⟨by decide, by decide⟩ ?_
            refine J_iload_n 3 dX7_layMoves_107 rfl ?_
            refine J_iconst 4 dX7_layMoves_108 ⟨by decide, by decide⟩ ?_
            refine J_icmp_ne 116 dX7_layMoves_109 (by decide) (fun h109 => ?_) (fun h109 => ?_)
            · skip
              refine J_iconst 0 dX7_layMoves_116 ⟨by decide, by decide⟩ ?_
              refine J_iadd dX7_layMoves_117 ⟨by omega, by omega⟩ ?_
              refine J_iadd dX7_layMoves_118 ⟨by omega, by omega⟩ ?_
              refine J_putI 41 lkF_X7_262 rfl fp_7_41 rfl dX7_layMoves_119 ?_
              refine J_iinc_1 dX7_layMoves_122 (by decide) ⟨by omega, by omega⟩ rfl ?_
              refine J_goto 17 dX7_layMoves_125 (by decide) ?_
              first
                | (exfalso; omega)
                | (refine ih (k + 1) _ _ _ (by omega) (((hF2.u9 (by decide) (by decide)).u9 (by decide) (by decide)).u9 (by decide) (by decide)) ?_ ?_ ?_ hQ
                   · rw [up_i (by decide), up_i (by decide), up_s, g1, upsT, hwu]
                     first | rw [if_pos (by omega)] | rw [if_neg (by omega)]
                   · rw [up_i (by decide), up_s, g2, downsT, hwd]
                     first | rw [if_pos (by omega)] | rw [if_neg (by omega)]
                   · rw [up_s, g3, stopT, hwu, hwd]
                     first
                       | rw [if_pos (by omega), if_pos (by omega)]
                       | rw [if_pos (by omega), if_neg (by omega)]
                       | rw [if_neg (by omega), if_pos (by omega)]
                       | rw [if_neg (by omega), if_neg (by omega)])
            · skip
              refine J_iconst 1 dX7_layMoves_112 ⟨by decide, by decide⟩ ?_
              refine J_goto 117 dX7_layMoves_113 (by decide) ?_
              refine J_iadd dX7_layMoves_117 ⟨by omega, by omega⟩ ?_
              refine J_iadd dX7_layMoves_118 ⟨by omega, by omega⟩ ?_
              refine J_putI 41 lkF_X7_262 rfl fp_7_41 rfl dX7_layMoves_119 ?_
              refine J_iinc_1 dX7_layMoves_122 (by decide) ⟨by omega, by omega⟩ rfl ?_
              refine J_goto 17 dX7_layMoves_125 (by decide) ?_
              first
                | (exfalso; omega)
                | (refine ih (k + 1) _ _ _ (by omega) (((hF2.u9 (by decide) (by decide)).u9 (by decide) (by decide)).u9 (by decide) (by decide)) ?_ ?_ ?_ hQ
                   · rw [up_i (by decide), up_i (by decide), up_s, g1, upsT, hwu]
                     first | rw [if_pos (by omega)] | rw [if_neg (by omega)]
                   · rw [up_i (by decide), up_s, g2, downsT, hwd]
                     first | rw [if_pos (by omega)] | rw [if_neg (by omega)]
                   · rw [up_s, g3, stopT, hwu, hwd]
                     first
                       | rw [if_pos (by omega), if_pos (by omega)]
                       | rw [if_pos (by omega), if_neg (by omega)]
                       | rw [if_neg (by omega), if_pos (by omega)]
                       | rw [if_neg (by omega), if_neg (by omega)])
          · skip
            refine J_iconst 1 dX7_layMoves_102 ⟨by decide, by decide⟩ ?_
            refine J_goto 107 dX7_layMoves_103 (by decide) ?_
            refine J_iload_n 3 dX7_layMoves_107 rfl ?_
            refine J_iconst 4 dX7_layMoves_108 ⟨by decide, by decide⟩ ?_
            refine J_icmp_ne 116 dX7_layMoves_109 (by decide) (fun h109 => ?_) (fun h109 => ?_)
            · skip
              refine J_iconst 0 dX7_layMoves_116 ⟨by decide, by decide⟩ ?_
              refine J_iadd dX7_layMoves_117 ⟨by omega, by omega⟩ ?_
              refine J_iadd dX7_layMoves_118 ⟨by omega, by omega⟩ ?_
              refine J_putI 41 lkF_X7_262 rfl fp_7_41 rfl dX7_layMoves_119 ?_
              refine J_iinc_1 dX7_layMoves_122 (by decide) ⟨by omega, by omega⟩ rfl ?_
              refine J_goto 17 dX7_layMoves_125 (by decide) ?_
              first
                | (exfalso; omega)
                | (refine ih (k + 1) _ _ _ (by omega) (((hF2.u9 (by decide) (by decide)).u9 (by decide) (by decide)).u9 (by decide) (by decide)) ?_ ?_ ?_ hQ
                   · rw [up_i (by decide), up_i (by decide), up_s, g1, upsT, hwu]
                     first | rw [if_pos (by omega)] | rw [if_neg (by omega)]
                   · rw [up_i (by decide), up_s, g2, downsT, hwd]
                     first | rw [if_pos (by omega)] | rw [if_neg (by omega)]
                   · rw [up_s, g3, stopT, hwu, hwd]
                     first
                       | rw [if_pos (by omega), if_pos (by omega)]
                       | rw [if_pos (by omega), if_neg (by omega)]
                       | rw [if_neg (by omega), if_pos (by omega)]
                       | rw [if_neg (by omega), if_neg (by omega)])
            · skip
              refine J_iconst 1 dX7_layMoves_112 ⟨by decide, by decide⟩ ?_
              refine J_goto 117 dX7_layMoves_113 (by decide) ?_
              refine J_iadd dX7_layMoves_117 ⟨by omega, by omega⟩ ?_
              refine J_iadd dX7_layMoves_118 ⟨by omega, by omega⟩ ?_
              refine J_putI 41 lkF_X7_262 rfl fp_7_41 rfl dX7_layMoves_119 ?_
              refine J_iinc_1 dX7_layMoves_122 (by decide) ⟨by omega, by omega⟩ rfl ?_
              refine J_goto 17 dX7_layMoves_125 (by decide) ?_
              first
                | (exfalso; omega)
                | (refine ih (k + 1) _ _ _ (by omega) (((hF2.u9 (by decide) (by decide)).u9 (by decide) (by decide)).u9 (by decide) (by decide)) ?_ ?_ ?_ hQ
                   · rw [up_i (by decide), up_i (by decide), up_s, g1, upsT, hwu]
                     first | rw [if_pos (by omega)] | rw [if_neg (by omega)]
                   · rw [up_i (by decide), up_s, g2, downsT, hwd]
                     first | rw [if_pos (by omega)] | rw [if_neg (by omega)]
                   · rw [up_s, g3, stopT, hwu, hwd]
                     first
                       | rw [if_pos (by omega), if_pos (by omega)]
                       | rw [if_pos (by omega), if_neg (by omega)]
                       | rw [if_neg (by omega), if_pos (by omega)]
                       | rw [if_neg (by omega), if_neg (by omega)])
        · skip
          refine J_iconst 1 dX7_layMoves_83 ⟨by decide, by decide⟩ ?_
          refine J_goto 88 dX7_layMoves_84 (by decide) ?_
          refine J_iadd dX7_layMoves_88 ⟨by omega, by omega⟩ ?_
          refine J_putI 40 lkF_X7_259 rfl fp_7_40 rfl dX7_layMoves_89 ?_
          refine J_aload_n 0 dX7_layMoves_92 rfl ?_
          first | refine J_dupR dX7_layMoves_93 ?_ | refine J_dupI dX7_layMoves_93 ?_
          refine J_getI 41 lkF_X7_262 rfl rfl rfl dX7_layMoves_94 ?_
          try simp (config := {decide := true}) only [up_s, up_k, up_i]
          refine J_iload_n 2 dX7_layMoves_97 rfl ?_
          refine J_iconst 4 dX7_layMoves_98 ⟨by decide, by decide⟩ ?_
          refine J_icmp_ne 106 dX7_layMoves_99 (by decide) (fun h99 => ?_) (fun h99 => ?_)
          · skip
            refine J_iconst 0 dX7_layMoves_106 ⟨by decide, by decide⟩ ?_
            refine J_iload_n 3 dX7_layMoves_107 rfl ?_
            refine J_iconst 4 dX7_layMoves_108 ⟨by decide, by decide⟩ ?_
            refine J_icmp_ne 116 dX7_layMoves_109 (by decide) (fun h109 => ?_) (fun h109 => ?_)
            · skip
              refine J_iconst 0 dX7_layMoves_116 ⟨by decide, by decide⟩ ?_
              refine J_iadd dX7_layMoves_117 ⟨by omega, by omega⟩ ?_
              refine J_iadd dX7_layMoves_118 ⟨by omega, by omega⟩ ?_
              refine J_putI 41 lkF_X7_262 rfl fp_7_41 rfl dX7_layMoves_119 ?_
              refine J_iinc_1 dX7_layMoves_122 (by decide) ⟨by omega, by omega⟩ rfl ?_
              refine J_goto 17 dX7_layMoves_125 (by decide) ?_
              first
                | (exfalso; omega)
                | (refine ih (k + 1) _ _ _ (by omega) (((hF2.u9 (by decide) (by decide)).u9 (by decide) (by decide)).u9 (by decide) (by decide)) ?_ ?_ ?_ hQ
                   · rw [up_i (by decide), up_i (by decide), up_s, g1, upsT, hwu]
                     first | rw [if_pos (by omega)] | rw [if_neg (by omega)]
                   · rw [up_i (by decide), up_s, g2, downsT, hwd]
                     first | rw [if_pos (by omega)] | rw [if_neg (by omega)]
                   · rw [up_s, g3, stopT, hwu, hwd]
                     first
                       | rw [if_pos (by omega), if_pos (by omega)]
                       | rw [if_pos (by omega), if_neg (by omega)]
                       | rw [if_neg (by omega), if_pos (by omega)]
                       | rw [if_neg (by omega), if_neg (by omega)])
            · skip
              refine J_iconst 1 dX7_layMoves_112 ⟨by decide, by decide⟩ ?_
              refine J_goto 117 dX7_layMoves_113 (by decide) ?_
              refine J_iadd dX7_layMoves_117 ⟨by omega, by omega⟩ ?_
              refine J_iadd dX7_layMoves_118 ⟨by omega, by omega⟩ ?_
              refine J_putI 41 lkF_X7_262 rfl fp_7_41 rfl dX7_layMoves_119 ?_
              refine J_iinc_1 dX7_layMoves_122 (by decide) ⟨by omega, by omega⟩ rfl ?_
              refine J_goto 17 dX7_layMoves_125 (by decide) ?_
              first
                | (exfalso; omega)
                | (refine ih (k + 1) _ _ _ (by omega) (((hF2.u9 (by decide) (by decide)).u9 (by decide) (by decide)).u9 (by decide) (by decide)) ?_ ?_ ?_ hQ
                   · rw [up_i (by decide), up_i (by decide), up_s, g1, upsT, hwu]
                     first | rw [if_pos (by omega)] | rw [if_neg (by omega)]
                   · rw [up_i (by decide), up_s, g2, downsT, hwd]
                     first | rw [if_pos (by omega)] | rw [if_neg (by omega)]
                   · rw [up_s, g3, stopT, hwu, hwd]
                     first
                       | rw [if_pos (by omega), if_pos (by omega)]
                       | rw [if_pos (by omega), if_neg (by omega)]
                       | rw [if_neg (by omega), if_pos (by omega)]
                       | rw [if_neg (by omega), if_neg (by omega)])
          · skip
            refine J_iconst 1 dX7_layMoves_102 ⟨by decide, by decide⟩ ?_
            refine J_goto 107 dX7_layMoves_103 (by decide) ?_
            refine J_iload_n 3 dX7_layMoves_107 rfl ?_
            refine J_iconst 4 dX7_layMoves_108 ⟨by decide, by decide⟩ ?_
            refine J_icmp_ne 116 dX7_layMoves_109 (by decide) (fun h109 => ?_) (fun h109 => ?_)
            · skip
              refine J_iconst 0 dX7_layMoves_116 ⟨by decide, by decide⟩ ?_
              refine J_iadd dX7_layMoves_117 ⟨by omega, by omega⟩ ?_
              refine J_iadd dX7_layMoves_118 ⟨by omega, by omega⟩ ?_
              refine J_putI 41 lkF_X7_262 rfl fp_7_41 rfl dX7_layMoves_119 ?_
              refine J_iinc_1 dX7_layMoves_122 (by decide) ⟨by omega, by omega⟩ rfl ?_
              refine J_goto 17 dX7_layMoves_125 (by decide) ?_
              first
                | (exfalso; omega)
                | (refine ih (k + 1) _ _ _ (by omega) (((hF2.u9 (by decide) (by decide)).u9 (by decide) (by decide)).u9 (by decide) (by decide)) ?_ ?_ ?_ hQ
                   · rw [up_i (by decide), up_i (by decide), up_s, g1, upsT, hwu]
                     first | rw [if_pos (by omega)] | rw [if_neg (by omega)]
                   · rw [up_i (by decide), up_s, g2, downsT, hwd]
                     first | rw [if_pos (by omega)] | rw [if_neg (by omega)]
                   · rw [up_s, g3, stopT, hwu, hwd]
                     first
                       | rw [if_pos (by omega), if_pos (by omega)]
                       | rw [if_pos (by omega), if_neg (by omega)]
                       | rw [if_neg (by omega), if_pos (by omega)]
                       | rw [if_neg (by omega), if_neg (by omega)])
            · skip
              refine J_iconst 1 dX7_layMoves_112 ⟨by decide, by decide⟩ ?_
              refine J_goto 117 dX7_layMoves_113 (by decide) ?_
              refine J_iadd dX7_layMoves_117 ⟨by omega, by omega⟩ ?_
              refine J_iadd dX7_layMoves_118 ⟨by omega, by omega⟩ ?_
              refine J_putI 41 lkF_X7_262 rfl fp_7_41 rfl dX7_layMoves_119 ?_
              refine J_iinc_1 dX7_layMoves_122 (by decide) ⟨by omega, by omega⟩ rfl ?_
              refine J_goto 17 dX7_layMoves_125 (by decide) ?_
              first
                | (exfalso; omega)
                | (refine ih (k + 1) _ _ _ (by omega) (((hF2.u9 (by decide) (by decide)).u9 (by decide) (by decide)).u9 (by decide) (by decide)) ?_ ?_ ?_ hQ
                   · rw [up_i (by decide), up_i (by decide), up_s, g1, upsT, hwu]
                     first | rw [if_pos (by omega)] | rw [if_neg (by omega)]
                   · rw [up_i (by decide), up_s, g2, downsT, hwd]
                     first | rw [if_pos (by omega)] | rw [if_neg (by omega)]
                   · rw [up_s, g3, stopT, hwu, hwd]
                     first
                       | rw [if_pos (by omega), if_pos (by omega)]
                       | rw [if_pos (by omega), if_neg (by omega)]
                       | rw [if_neg (by omega), if_pos (by omega)]
                       | rw [if_neg (by omega), if_neg (by omega)])
      · skip
        refine J_iconst 1 dX7_layMoves_65 ⟨by decide, by decide⟩ ?_
        refine J_goto 70 dX7_layMoves_66 (by decide) ?_
        refine J_iadd dX7_layMoves_70 ⟨by omega, by omega⟩ ?_
        refine J_putI 39 lkF_X7_256 rfl fp_7_39 rfl dX7_layMoves_71 ?_
        refine J_aload_n 0 dX7_layMoves_74 rfl ?_
        first | refine J_dupR dX7_layMoves_75 ?_ | refine J_dupI dX7_layMoves_75 ?_
        refine J_getI 40 lkF_X7_259 rfl rfl rfl dX7_layMoves_76 ?_
        try simp (config := {decide := true}) only [up_s, up_k, up_i]
        refine J_iload_n 3 dX7_layMoves_79 rfl ?_
        refine J_if_ne 87 dX7_layMoves_80 (by decide) (fun h80 => ?_) (fun h80 => ?_)
        · skip
          refine J_iconst 0 dX7_layMoves_87 ⟨by decide, by decide⟩ ?_
          refine J_iadd dX7_layMoves_88 ⟨by omega, by omega⟩ ?_
          refine J_putI 40 lkF_X7_259 rfl fp_7_40 rfl dX7_layMoves_89 ?_
          refine J_aload_n 0 dX7_layMoves_92 rfl ?_
          first | refine J_dupR dX7_layMoves_93 ?_ | refine J_dupI dX7_layMoves_93 ?_
          refine J_getI 41 lkF_X7_262 rfl rfl rfl dX7_layMoves_94 ?_
          try simp (config := {decide := true}) only [up_s, up_k, up_i]
          refine J_iload_n 2 dX7_layMoves_97 rfl ?_
          refine J_iconst 4 dX7_layMoves_98 ⟨by decide, by decide⟩ ?_
          refine J_icmp_ne 106 dX7_layMoves_99 (by decide) (fun h99 => ?_) (fun h99 => ?_)
          · skip
            refine J_iconst 0 dX7_layMoves_106 ⟨by decide, by decide⟩ ?_
            refine J_iload_n 3 dX7_layMoves_107 rfl ?_
            refine J_iconst 4 dX7_layMoves_108 ⟨by decide, by decide⟩ ?_
            refine J_icmp_ne 116 dX7_layMoves_109 (by decide) (fun h109 => ?_) (fun h109 => ?_)
            · skip
              refine J_iconst 0 dX7_layMoves_116 ⟨by decide, by decide⟩ ?_
              refine J_iadd dX7_layMoves_117 ⟨by omega, by omega⟩ ?_
              refine J_iadd dX7_layMoves_118 ⟨by omega, by omega⟩ ?_
              refine J_putI 41 lkF_X7_262 rfl fp_7_41 rfl dX7_layMoves_119 ?_
              refine J_iinc_1 dX7_layMoves_122 (by decide) ⟨by omega, by omega⟩ rfl ?_
              refine J_goto 17 dX7_layMoves_125 (by decide) ?_
              first
                | (exfalso; omega)
                | (refine ih (k + 1) _ _ _ (by omega) (((hF2.u9 (by decide) (by decide)).u9 (by decide) (by decide)).u9 (by decide) (by decide)) ?_ ?_ ?_ hQ
                   · rw [up_i (by decide), up_i (by decide), up_s, g1, upsT, hwu]
                     first | rw [if_pos (by omega)] | rw [if_neg (by omega)]
                   · rw [up_i (by decide), up_s, g2, downsT, hwd]
                     first | rw [if_pos (by omega)] | rw [if_neg (by omega)]
                   · rw [up_s, g3, stopT, hwu, hwd]
                     first
                       | rw [if_pos (by omega), if_pos (by omega)]
                       | rw [if_pos (by omega), if_neg (by omega)]
                       | rw [if_neg (by omega), if_pos (by omega)]
                       | rw [if_neg (by omega), if_neg (by omega)])
            · skip
              refine J_iconst 1 dX7_layMoves_112 ⟨by decide, by decide⟩ ?_
              refine J_goto 117 dX7_layMoves_113 (by decide) ?_
              refine J_iadd dX7_layMoves_117 ⟨by omega, by omega⟩ ?_
              refine J_iadd dX7_layMoves_118 ⟨by omega, by omega⟩ ?_
              refine J_putI 41 lkF_X7_262 rfl fp_7_41 rfl dX7_layMoves_119 ?_
              refine J_iinc_1 dX7_layMoves_122 (by decide) ⟨by omega, by omega⟩ rfl ?_
              refine J_goto 17 dX7_layMoves_125 (by decide) ?_
              first
                | (exfalso; omega)
                | (refine ih (k + 1) _ _ _ (by omega) (((hF2.u9 (by decide) (by decide)).u9 (by decide) (by decide)).u9 (by decide) (by decide)) ?_ ?_ ?_ hQ
                   · rw [up_i (by decide), up_i (by decide), up_s, g1, upsT, hwu]
                     first | rw [if_pos (by omega)] | rw [if_neg (by omega)]
                   · rw [up_i (by decide), up_s, g2, downsT, hwd]
                     first | rw [if_pos (by omega)] | rw [if_neg (by omega)]
                   · rw [up_s, g3, stopT, hwu, hwd]
                     first
                       | rw [if_pos (by omega), if_pos (by omega)]
                       | rw [if_pos (by omega), if_neg (by omega)]
                       | rw [if_neg (by omega), if_pos (by omega)]
                       | rw [if_neg (by omega), if_neg (by omega)])
          · skip
            refine J_iconst 1 dX7_layMoves_102 ⟨by decide, by decide⟩ ?_
            refine J_goto 107 dX7_layMoves_103 (by decide) ?_
            refine J_iload_n 3 dX7_layMoves_107 rfl ?_
            refine J_iconst 4 dX7_layMoves_108 ⟨by decide, by decide⟩ ?_
            refine J_icmp_ne 116 dX7_layMoves_109 (by decide) (fun h109 => ?_) (fun h109 => ?_)
            · skip
              refine J_iconst 0 dX7_layMoves_116 ⟨by decide, by decide⟩ ?_
              refine J_iadd dX7_layMoves_117 ⟨by omega, by omega⟩ ?_
              refine J_iadd dX7_layMoves_118 ⟨by omega, by omega⟩ ?_
              refine J_putI 41 lkF_X7_262 rfl fp_7_41 rfl dX7_layMoves_119 ?_
              refine J_iinc_1 dX7_layMoves_122 (by decide) ⟨by omega, by omega⟩ rfl ?_
              refine J_goto 17 dX7_layMoves_125 (by decide) ?_
              first
                | (exfalso; omega)
                | (refine ih (k + 1) _ _ _ (by omega) (((hF2.u9 (by decide) (by decide)).u9 (by decide) (by decide)).u9 (by decide) (by decide)) ?_ ?_ ?_ hQ
                   · rw [up_i (by decide), up_i (by decide), up_s, g1, upsT, hwu]
                     first | rw [if_pos (by omega)] | rw [if_neg (by omega)]
                   · rw [up_i (by decide), up_s, g2, downsT, hwd]
                     first | rw [if_pos (by omega)] | rw [if_neg (by omega)]
                   · rw [up_s, g3, stopT, hwu, hwd]
                     first
                       | rw [if_pos (by omega), if_pos (by omega)]
                       | rw [if_pos (by omega), if_neg (by omega)]
                       | rw [if_neg (by omega), if_pos (by omega)]
                       | rw [if_neg (by omega), if_neg (by omega)])
            · skip
              refine J_iconst 1 dX7_layMoves_112 ⟨by decide, by decide⟩ ?_
              refine J_goto 117 dX7_layMoves_113 (by decide) ?_
              refine J_iadd dX7_layMoves_117 ⟨by omega, by omega⟩ ?_
              refine J_iadd dX7_layMoves_118 ⟨by omega, by omega⟩ ?_
              refine J_putI 41 lkF_X7_262 rfl fp_7_41 rfl dX7_layMoves_119 ?_
              refine J_iinc_1 dX7_layMoves_122 (by decide) ⟨by omega, by omega⟩ rfl ?_
              refine J_goto 17 dX7_layMoves_125 (by decide) ?_
              first
                | (exfalso; omega)
                | (refine ih (k + 1) _ _ _ (by omega) (((hF2.u9 (by decide) (by decide)).u9 (by decide) (by decide)).u9 (by decide) (by decide)) ?_ ?_ ?_ hQ
                   · rw [up_i (by decide), up_i (by decide), up_s, g1, upsT, hwu]
                     first | rw [if_pos (by omega)] | rw [if_neg (by omega)]
                   · rw [up_i (by decide), up_s, g2, downsT, hwd]
                     first | rw [if_pos (by omega)] | rw [if_neg (by omega)]
                   · rw [up_s, g3, stopT, hwu, hwd]
                     first
                       | rw [if_pos (by omega), if_pos (by omega)]
                       | rw [if_pos (by omega), if_neg (by omega)]
                       | rw [if_neg (by omega), if_pos (by omega)]
                       | rw [if_neg (by omega), if_neg (by omega)])
        · skip
          refine J_iconst 1 dX7_layMoves_83 ⟨by decide, by decide⟩ ?_
          refine J_goto 88 dX7_layMoves_84 (by decide) ?_
          refine J_iadd dX7_layMoves_88 ⟨by omega, by omega⟩ ?_
          refine J_putI 40 lkF_X7_259 rfl fp_7_40 rfl dX7_layMoves_89 ?_
          refine J_aload_n 0 dX7_layMoves_92 rfl ?_
          first | refine J_dupR dX7_layMoves_93 ?_ | refine J_dupI dX7_layMoves_93 ?_
          refine J_getI 41 lkF_X7_262 rfl rfl rfl dX7_layMoves_94 ?_
          try simp (config := {decide := true}) only [up_s, up_k, up_i]
          refine J_iload_n 2 dX7_layMoves_97 rfl ?_
          refine J_iconst 4 dX7_layMoves_98 ⟨by decide, by decide⟩ ?_
          refine J_icmp_ne 106 dX7_layMoves_99 (by decide) (fun h99 => ?_) (fun h99 => ?_)
          · skip
            refine J_iconst 0 dX7_layMoves_106 ⟨by decide, by decide⟩ ?_
            refine J_iload_n 3 dX7_layMoves_107 rfl ?_
            refine J_iconst 4 dX7_layMoves_108 ⟨by decide, by decide⟩ ?_
            refine J_icmp_ne 116 dX7_layMoves_109 (by decide) (fun h109 => ?_) (fun h109 => ?_)
            · skip
              refine J_iconst 0 dX7_layMoves_116 ⟨by decide, by decide⟩ ?_
              refine J_iadd dX7_layMoves_117 ⟨by omega, by omega⟩ ?_
              refine J_iadd dX7_layMoves_118 ⟨by omega, by omega⟩ ?_
              refine J_putI 41 lkF_X7_262 rfl fp_7_41 rfl dX7_layMoves_119 ?_
              refine J_iinc_1 dX7_layMoves_122 (by decide) ⟨by omega, by omega⟩ rfl ?_
              refine J_goto 17 dX7_layMoves_125 (by decide) ?_
              first
                | (exfalso; omega)
                | (refine ih (k + 1) _ _ _ (by omega) (((hF2.u9 (by decide) (by decide)).u9 (by decide) (by decide)).u9 (by decide) (by decide)) ?_ ?_ ?_ hQ
                   · rw [up_i (by decide), up_i (by decide), up_s, g1, upsT, hwu]
                     first | rw [if_pos (by omega)] | rw [if_neg (by omega)]
                   · rw [up_i (by decide), up_s, g2, downsT, hwd]
                     first | rw [if_pos (by omega)] | rw [if_neg (by omega)]
                   · rw [up_s, g3, stopT, hwu, hwd]
                     first
                       | rw [if_pos (by omega), if_pos (by omega)]
                       | rw [if_pos (by omega), if_neg (by omega)]
                       | rw [if_neg (by omega), if_pos (by omega)]
                       | rw [if_neg (by omega), if_neg (by omega)])
            · skip
              refine J_iconst 1 dX7_layMoves_112 ⟨by decide, by decide⟩ ?_
              refine J_goto 117 dX7_layMoves_113 (by decide) ?_
              refine J_iadd dX7_layMoves_117 ⟨by omega, by omega⟩ ?_
              refine J_iadd dX7_layMoves_118 ⟨by omega, by omega⟩ ?_
              refine J_putI 41 lkF_X7_262 rfl fp_7_41 rfl dX7_layMoves_119 ?_
              refine J_iinc_1 dX7_layMoves_122 (by decide) ⟨by omega, by omega⟩ rfl ?_
              refine J_goto 17 dX7_layMoves_125 (by decide) ?_
              first
                | (exfalso; omega)
                | (refine ih (k + 1) _ _ _ (by omega) (((hF2.u9 (by decide) (by decide)).u9 (by decide) (by decide)).u9 (by decide) (by decide)) ?_ ?_ ?_ hQ
                   · rw [up_i (by decide), up_i (by decide), up_s, g1, upsT, hwu]
                     first | rw [if_pos (by omega)] | rw [if_neg (by omega)]
                   · rw [up_i (by decide), up_s, g2, downsT, hwd]
                     first | rw [if_pos (by omega)] | rw [if_neg (by omega)]
                   · rw [up_s, g3, stopT, hwu, hwd]
                     first
                       | rw [if_pos (by omega), if_pos (by omega)]
                       | rw [if_pos (by omega), if_neg (by omega)]
                       | rw [if_neg (by omega), if_pos (by omega)]
                       | rw [if_neg (by omega), if_neg (by omega)])
          · skip
            refine J_iconst 1 dX7_layMoves_102 ⟨by decide, by decide⟩ ?_
            refine J_goto 107 dX7_layMoves_103 (by decide) ?_
            refine J_iload_n 3 dX7_layMoves_107 rfl ?_
            refine J_iconst 4 dX7_layMoves_108 ⟨by decide, by decide⟩ ?_
            refine J_icmp_ne 116 dX7_layMoves_109 (by decide) (fun h109 => ?_) (fun h109 => ?_)
            · skip
              refine J_iconst 0 dX7_layMoves_116 ⟨by decide, by decide⟩ ?_
              refine J_iadd dX7_layMoves_117 ⟨by omega, by omega⟩ ?_
              refine J_iadd dX7_layMoves_118 ⟨by omega, by omega⟩ ?_
              refine J_putI 41 lkF_X7_262 rfl fp_7_41 rfl dX7_layMoves_119 ?_
              refine J_iinc_1 dX7_layMoves_122 (by decide) ⟨by omega, by omega⟩ rfl ?_
              refine J_goto 17 dX7_layMoves_125 (by decide) ?_
              first
                | (exfalso; omega)
                | (refine ih (k + 1) _ _ _ (by omega) (((hF2.u9 (by decide) (by decide)).u9 (by decide) (by decide)).u9 (by decide) (by decide)) ?_ ?_ ?_ hQ
                   · rw [up_i (by decide), up_i (by decide), up_s, g1, upsT, hwu]
                     first | rw [if_pos (by omega)] | rw [if_neg (by omega)]
                   · rw [up_i (by decide), up_s, g2, downsT, hwd]
                     first | rw [if_pos (by omega)] | rw [if_neg (by omega)]
                   · rw [up_s, g3, stopT, hwu, hwd]
                     first
                       | rw [if_pos (by omega), if_pos (by omega)]
                       | rw [if_pos (by omega), if_neg (by omega)]
                       | rw [if_neg (by omega), if_pos (by omega)]
                       | rw [if_neg (by omega), if_neg (by omega)])
            · skip
              refine J_iconst 1 dX7_layMoves_112 ⟨by decide, by decide⟩ ?_
              refine J_goto 117 dX7_layMoves_113 (by decide) ?_
              refine J_iadd dX7_layMoves_117 ⟨by omega, by omega⟩ ?_
              refine J_iadd dX7_layMoves_118 ⟨by omega, by omega⟩ ?_
              refine J_putI 41 lkF_X7_262 rfl fp_7_41 rfl dX7_layMoves_119 ?_
              refine J_iinc_1 dX7_layMoves_122 (by decide) ⟨by omega, by omega⟩ rfl ?_
              refine J_goto 17 dX7_layMoves_125 (by decide) ?_
              first
                | (exfalso; omega)
                | (refine ih (k + 1) _ _ _ (by omega) (((hF2.u9 (by decide) (by decide)).u9 (by decide) (by decide)).u9 (by decide) (by decide)) ?_ ?_ ?_ hQ
                   · rw [up_i (by decide), up_i (by decide), up_s, g1, upsT, hwu]
                     first | rw [if_pos (by omega)] | rw [if_neg (by omega)]
                   · rw [up_i (by decide), up_s, g2, downsT, hwd]
                     first | rw [if_pos (by omega)] | rw [if_neg (by omega)]
                   · rw [up_s, g3, stopT, hwu, hwd]
                     first
                       | rw [if_pos (by omega), if_pos (by omega)]
                       | rw [if_pos (by omega), if_neg (by omega)]
                       | rw [if_neg (by omega), if_pos (by omega)]
                       | rw [if_neg (by omega), if_neg (by omega)])

set_option maxRecDepth 100000 in
set_option maxHeartbeats 4000000 in
theorem kX7_layMoves {X : Cx} {d : Nat} {ω : Om} {Q : Option MV → Om → Prop} (hM : MW ω) (hQ : ∀ ω', MPx [7, 28, 31, 32, 36, 39, 40, 41] ω ω' → ω' 29 39 = upsT (vw 0 ω) (12 * (ω 29 2).toNat) → ω' 29 40 = downsT (vw 0 ω) (12 * (ω 29 2).toNat) → ω' 29 41 = stopT (vw 0 ω) (12 * (ω 29 2).toNat) → Q none ω') : Mc X mX7_layMoves (d + 9) [vR 29] ω Q := by
  refine Mc_of [some (vR 29), none, none, none] (by decide +kernel) rfl (Nat.le_of_ble_eq_true rfl) ?_
  refine J_aload_n 0 dX7_layMoves_0 rfl ?_
  refine J_iconst 0 dX7_layMoves_1 ⟨by decide, by decide⟩ ?_
  refine J_putI 39 lkF_X7_256 rfl fp_7_39 rfl dX7_layMoves_2 ?_
  refine J_aload_n 0 dX7_layMoves_5 rfl ?_
  refine J_iconst 0 dX7_layMoves_6 ⟨by decide, by decide⟩ ?_
  refine J_putI 40 lkF_X7_259 rfl fp_7_40 rfl dX7_layMoves_7 ?_
  refine J_aload_n 0 dX7_layMoves_10 rfl ?_
  refine J_iconst 0 dX7_layMoves_11 ⟨by decide, by decide⟩ ?_
  refine J_putI 41 lkF_X7_262 rfl fp_7_41 rfl dX7_layMoves_12 ?_
  refine J_iconst 0 dX7_layMoves_15 ⟨by decide, by decide⟩ ?_
  refine J_istore_1 dX7_layMoves_16 (by decide) rfl ?_
  exact l_lym hM (12 * (ω 29 2).toNat) 0 _ none none (by omega) ((((MPx.rf _ ω).u9 (by decide) (by decide)).u9 (by decide) (by decide)).u9 (by decide) (by decide)) (by rw [up_i (by decide), up_i (by decide), up_s]; rfl) (by rw [up_i (by decide), up_s]; rfl) (by rw [up_s]; rfl) hQ

set_option maxRecDepth 100000 in
set_option maxHeartbeats 4000000 in
theorem kX7_moves {X : Cx} {d : Nat} {ω : Om} {Q : Option MV → Om → Prop} {w : Int} (hM : MW ω) (hQ : ∀ ω', MPx LA ω ω' → Q (some (vI (aMoves (vw 0 ω) w))) ω') : Mc X mX7_moves (d + 10) [vR 29, vI w] ω Q := by
  unfold aMoves mvN at hQ
  rw [vw37] at hQ
  refine Mc_of [some (vR 29), some (vI w)] (by decide +kernel) rfl (Nat.le_of_ble_eq_true rfl) ?_
  refine J_iload_n 1 dX7_moves_0 rfl ?_
  refine J_iconst 0 dX7_moves_1 ⟨by decide, by decide⟩ ?_
  refine J_iconst 2 dX7_moves_2 ⟨by decide, by decide⟩ ?_
  refine JM_S3 lkM_X7_77 dX7_moves_3 (by decide) (Nat.le_of_ble_eq_true rfl) ?_
  refine kX7_within ?_
  generalize hg : (if 0 ≤ w ∧ w ≤ 2 then (1 : Int) else 0) = g
  have hg2 : (g = 1 ∧ (0 ≤ w ∧ w ≤ 2)) ∨ (g = 0 ∧ ¬ (0 ≤ w ∧ w ≤ 2)) := by
    subst hg
    split
    · left; exact ⟨rfl, by omega⟩
    · right; exact ⟨rfl, by omega⟩
  refine J_if_ne 13 dX7_moves_6 (by decide) (fun h6 => ?_) (fun h6 => ?_)
  · skip
    refine J_aload_n 0 dX7_moves_13 rfl ?_
    refine JM_V0 lkM_X7_265 rcv_29 dX7_moves_14 (by decide) (Nat.le_of_ble_eq_true rfl) ?_
    refine kX7_layMoves hM (fun ω1 p1 r4 r5 r6 => ?_)
    have e := hQ ω1 (p1.mono (by decide))
    rw [if_pos (by omega)] at e
    refine J_iload_n 1 dX7_moves_17 rfl ?_
    refine J_if_ne 28 dX7_moves_18 (by decide) (fun h18 => ?_) (fun h18 => ?_)
    · skip
      refine J_iload_n 1 dX7_moves_28 rfl ?_
      refine J_iconst 1 dX7_moves_29 ⟨by decide, by decide⟩ ?_
      refine J_icmp_ne 40 dX7_moves_30 (by decide) (fun h30 => ?_) (fun h30 => ?_)
      · skip
        refine J_aload_n 0 dX7_moves_40 rfl ?_
        refine J_getI 41 lkF_X7_262 rfl rfl rfl dX7_moves_41 ?_
        refine JM_iret rfl dX7_moves_44 ?_
        first | (rw [if_pos (by omega)] at e; rw [r4]; exact e) | (rw [if_neg (by omega), if_pos (by omega)] at e; rw [r5]; exact e) | (rw [if_neg (by omega), if_neg (by omega)] at e; rw [r6]; exact e)
      · skip
        refine J_aload_n 0 dX7_moves_33 rfl ?_
        refine J_getI 40 lkF_X7_259 rfl rfl rfl dX7_moves_34 ?_
        refine J_goto 44 dX7_moves_37 (by decide) ?_
        refine JM_iret rfl dX7_moves_44 ?_
        first | (rw [if_pos (by omega)] at e; rw [r4]; exact e) | (rw [if_neg (by omega), if_pos (by omega)] at e; rw [r5]; exact e) | (rw [if_neg (by omega), if_neg (by omega)] at e; rw [r6]; exact e)
    · skip
      refine J_aload_n 0 dX7_moves_21 rfl ?_
      refine J_getI 39 lkF_X7_256 rfl rfl rfl dX7_moves_22 ?_
      refine J_goto 44 dX7_moves_25 (by decide) ?_
      refine JM_iret rfl dX7_moves_44 ?_
      first | (rw [if_pos (by omega)] at e; rw [r4]; exact e) | (rw [if_neg (by omega), if_pos (by omega)] at e; rw [r5]; exact e) | (rw [if_neg (by omega), if_neg (by omega)] at e; rw [r6]; exact e)
  · skip
    refine J_sipush (-1002) dX7_moves_9 ⟨by decide, by decide⟩ (by decide) ?_
    refine JM_iret rfl dX7_moves_12 ?_
    have e := hQ ω (MPx.rf _ ω)
    rw [if_neg (by omega)] at e; exact e

/-- the model's contracts -/
def KM (ω : Om) : Prop := (0 ≤ ω 29 15 ∧ ω 29 15 ≤ 6) ∧ ∀ i, 0 ≤ i → i < ω 29 15 → 1 ≤ ω 40 i ∧ ω 40 i ≤ 63
def zsum (x : Int) : Nat → Int
  | 0 => 0
  | k + 1 => zsum x k + zb x k
theorem zsum_R (x : Int) : ∀ k : Nat, 0 ≤ zsum x k ∧ zsum x k ≤ k := by
  intro k
  induction k with
  | zero => exact ⟨Int.le_refl _, Int.le_refl _⟩
  | succ k ih => have := zb01 x k; rw [zsum]; omega
theorem zsum12 {x : Int} (hx : 0 ≤ x ∧ x < 64) : zsum x 12 = pc6 x := by
  have h6 : zsum x 6 = pc6 x := by
    show 0 + zb x 0 + zb x 1 + zb x 2 + zb x 3 + zb x 4 + zb x 5 = _
    unfold pc6
    omega
  have e : ∀ j : Nat, 6 ≤ j → j < 12 → zb x j = 0 := fun j a b => zb_high hx (by omega)
  show zsum x 6 + zb x (6 : Nat) + zb x (7 : Nat) + zb x (8 : Nat) + zb x (9 : Nat) + zb x (10 : Nat) + zb x (11 : Nat) = _
  rw [e 6 (by decide) (by decide), e 7 (by decide) (by decide), e 8 (by decide) (by decide), e 9 (by decide) (by decide), e 10 (by decide) (by decide), e 11 (by decide) (by decide), h6]
  omega
theorem pc6_tab : ∀ x : Fin 64, (pc6 x.val = 0 ↔ x.val = 0) ∧ 0 ≤ pc6 x.val ∧ pc6 x.val ≤ 6 := by decide +kernel
theorem pc6_0 {x : Int} (hx : 0 ≤ x ∧ x < 64) : (pc6 x = 0 ↔ x = 0) ∧ 0 ≤ pc6 x ∧ pc6 x ≤ 6 := by
  have := pc6_tab ⟨x.toNat, by omega⟩
  simp only [show ((x.toNat : Nat) : Int) = x from by omega] at this
  refine ⟨?_, this.2⟩
  rw [this.1]
  omega
theorem and63_tab : ∀ x : Fin 64, zAnd x.val 63 = x.val := by decide +kernel
theorem and63_id {x : Int} (hx : 0 ≤ x ∧ x < 64) : zAnd x 63 = x := by
  have := and63_tab ⟨x.toNat, by omega⟩
  simp only [show ((x.toNat : Nat) : Int) = x from by omega] at this
  exact this
theorem comT_R (τ : Om) (ts : Int) : ∀ k : Nat, 0 ≤ comT τ ts k ∧ comT τ ts k < 64 := by
  intro k
  induction k with
  | zero => rw [comT]; exact ⟨by decide, by decide⟩
  | succ k ih =>
    rw [comT]
    split
    · exact ih
    · have := zAnd_le (x := comT τ ts k) (y := ansB τ k) ih.1 (by omega)
      omega
theorem shl_tab : ∀ n : Fin 9, 1 ≤ zShl 1 n.val ∧ zShl 1 n.val ≤ 256 := by decide +kernel
theorem shl_R {n : Int} (hn : 0 ≤ n ∧ n ≤ 8) : 1 ≤ zShl 1 n ∧ zShl 1 n ≤ 256 := by
  have := shl_tab ⟨n.toNat, by omega⟩
  simp only [show ((n.toNat : Nat) : Int) = n from by omega] at this
  exact this
set_option maxRecDepth 100000 in
set_option maxHeartbeats 4000000 in
theorem kX7_contract {X : Cx} {d : Nat} {ω : Om} {Q : Option MV → Om → Prop} {ms : Int} (hK : KM ω) (hQ : if 1 ≤ ms ∧ ms ≤ 63 then (if ω 29 15 < 6 then Q (some (vI (ω 29 15))) (up (up ω 40 (ω 29 15) ms) 29 15 (ω 29 15 + 1)) else Q (some (vI (-1004))) ω) else Q (some (vI (-1002))) ω) : Mc X mX7_contract (d + 1) [vR 29, vI ms] ω Q := by
  have k6 := hK.1
  refine Mc_of [some (vR 29), some (vI ms)] (by decide +kernel) rfl (Nat.le_of_ble_eq_true rfl) ?_
  refine J_iload_n 1 dX7_contract_0 rfl ?_
  refine J_iconst 1 dX7_contract_1 ⟨by decide, by decide⟩ ?_
  refine J_bipush 63 dX7_contract_2 ⟨by decide, by decide⟩ (by decide) ?_
  refine JM_S3 lkM_X7_77 dX7_contract_4 (by decide) (Nat.le_of_ble_eq_true rfl) ?_
  refine kX7_within ?_
  generalize hg : (if 1 ≤ ms ∧ ms ≤ 63 then (1 : Int) else 0) = g
  have hg2 : (g = 1 ∧ (1 ≤ ms ∧ ms ≤ 63)) ∨ (g = 0 ∧ ¬ (1 ≤ ms ∧ ms ≤ 63)) := by
    subst hg
    split
    · left; exact ⟨rfl, by omega⟩
    · right; exact ⟨rfl, by omega⟩
  refine J_if_ne 14 dX7_contract_7 (by decide) (fun h7 => ?_) (fun h7 => ?_)
  · skip
    refine J_aload_n 0 dX7_contract_14 rfl ?_
    refine J_getI 15 lkF_X7_268 rfl rfl rfl dX7_contract_15 ?_
    refine J_bipush 6 dX7_contract_18 ⟨by decide, by decide⟩ (by decide) ?_
    refine J_icmp_ne 27 dX7_contract_20 (by decide) (fun h20 => ?_) (fun h20 => ?_)
    · skip
      refine J_aload_n 0 dX7_contract_27 rfl ?_
      refine J_getR lkF_X7_41 rfl dX7_contract_28 ?_
      refine J_aload_n 0 dX7_contract_31 rfl ?_
      refine J_getI 15 lkF_X7_268 rfl rfl rfl dX7_contract_32 ?_
      refine J_iload_n 1 dX7_contract_35 rfl ?_
      refine J_iastore _ rfl (by omega) dX7_contract_36 ?_
      refine J_aload_n 0 dX7_contract_37 rfl ?_
      first | refine J_dupR dX7_contract_38 ?_ | refine J_dupI dX7_contract_38 ?_
      refine J_getI 15 lkF_X7_268 rfl rfl rfl dX7_contract_39 ?_
      try simp (config := {decide := true}) only [up_s, up_k, up_i]
      refine J_iconst 1 dX7_contract_42 ⟨by decide, by decide⟩ ?_
      refine J_iadd dX7_contract_43 ⟨by omega, by omega⟩ ?_
      refine J_putI 15 lkF_X7_268 rfl fp_7_15 rfl dX7_contract_44 ?_
      refine J_aload_n 0 dX7_contract_47 rfl ?_
      refine J_getI 15 lkF_X7_268 rfl rfl rfl dX7_contract_48 ?_
      try simp (config := {decide := true}) only [up_s, up_k, up_i]
      refine J_iconst 1 dX7_contract_51 ⟨by decide, by decide⟩ ?_
      refine J_isub dX7_contract_52 ⟨by omega, by omega⟩ ?_
      refine JM_iret rfl dX7_contract_53 ?_
      rw [if_pos (by omega), if_pos (by omega)] at hQ; rw [show ω 29 15 + 1 - 1 = ω 29 15 from by omega]; exact hQ
    · skip
      refine J_sipush (-1004) dX7_contract_23 ⟨by decide, by decide⟩ (by decide) ?_
      refine JM_iret rfl dX7_contract_26 ?_
      rw [if_pos (by omega), if_neg (by omega)] at hQ; exact hQ
  · skip
    refine J_sipush (-1002) dX7_contract_10 ⟨by decide, by decide⟩ (by decide) ?_
    refine JM_iret rfl dX7_contract_13 ?_
    rw [if_neg (by omega)] at hQ; exact hQ

set_option maxRecDepth 100000 in
set_option maxHeartbeats 4000000 in
theorem l_one {X : Cx} {d : Nat} {Q : Option MV → Om → Prop} {ω : Om} {x : Int} : ∀ (n k : Nat), k + n = 12 → Q (some (vI (zsum x 12))) ω → JM X mX7_ones d Q 4 [some (vI x), some (vI (zsum x k)), some (vI k)] [] ω := by
  intro n
  induction n with
  | zero =>
    intro k hk hQ
    refine J_iload_n 2 dX7_ones_4 rfl ?_
    refine J_bipush 12 dX7_ones_5 ⟨by decide, by decide⟩ (by decide) ?_
    refine J_icmp_ge 24 dX7_ones_7 (by decide) (fun h7 => ?_) (fun h7 => ?_)
    · skip
      refine J_iload_n 1 dX7_ones_24 rfl ?_
      refine JM_iret rfl dX7_ones_25 ?_
      obtain rfl : k = 12 := by omega
      exact hQ
    · skip
      exfalso; omega
  | succ n ih =>
    intro k hk hQ
    have hz := zb01 x k
    have hr := zsum_R x k
    refine J_iload_n 2 dX7_ones_4 rfl ?_
    refine J_bipush 12 dX7_ones_5 ⟨by decide, by decide⟩ (by decide) ?_
    refine J_icmp_ge 24 dX7_ones_7 (by decide) (fun h7 => ?_) (fun h7 => ?_)
    · skip
      exfalso; omega
    · skip
      refine J_iload_n 1 dX7_ones_10 rfl ?_
      refine J_iload_n 0 dX7_ones_11 rfl ?_
      refine J_iload_n 2 dX7_ones_12 rfl ?_
      refine J_ishr dX7_ones_13 ?_
      refine J_iconst 1 dX7_ones_14 ⟨by decide, by decide⟩ ?_
      refine J_iand dX7_ones_15 ?_
      rw [zb_and]
      refine J_iadd dX7_ones_16 ⟨by omega, by omega⟩ ?_
      refine J_istore_1 dX7_ones_17 (by decide) rfl ?_
      refine J_iinc_2 dX7_ones_18 (by decide) ⟨by omega, by omega⟩ rfl ?_
      refine J_goto 4 dX7_ones_21 (by decide) ?_
      exact ih (k + 1) (by omega) hQ

set_option maxRecDepth 100000 in
set_option maxHeartbeats 4000000 in
theorem kX7_ones {X : Cx} {d : Nat} {ω : Om} {Q : Option MV → Om → Prop} {x : Int} (hx : 0 ≤ x ∧ x < 64) (hQ : Q (some (vI (pc6 x))) ω) : Mc X mX7_ones d [vI x] ω Q := by
  refine Mc_of [some (vI x), none, none] (by decide +kernel) rfl (Nat.le_of_ble_eq_true rfl) ?_
  refine J_iconst 0 dX7_ones_0 ⟨by decide, by decide⟩ ?_
  refine J_istore_1 dX7_ones_1 (by decide) rfl ?_
  refine J_iconst 0 dX7_ones_2 ⟨by decide, by decide⟩ ?_
  refine J_istore_2 dX7_ones_3 (by decide) rfl ?_
  exact l_one 12 0 (by omega) (by rw [zsum12 hx]; exact hQ)

set_option maxRecDepth 100000 in
set_option maxHeartbeats 4000000 in
theorem l_fit {X : Cx} {d : Nat} {Q : Option MV → Om → Prop} {ω : Om} {c w : Int} (hM : MW ω) (hc : 0 ≤ c ∧ c < 6) (hms : 0 ≤ ω 40 c ∧ ω 40 c < 64) : ∀ (n k : Nat) (a b : Int) (x : Option MV), k + n = (ω 29 2).toNat → (a, b) = misT (vw 0 ω) (ω 40 c) k → Q (some (vI (if w = 1 then bitsF (fun t => decide (lackT (vw 0 ω) (ω 40 c) t = 0)) (ω 29 2).toNat else (misT (vw 0 ω) (ω 40 c) (ω 29 2).toNat).1))) ω → JM X mX7_fitNow (d + 4) Q 23 [some (vR 29), some (vI c), some (vI w), some (vI (bitsF (fun t => decide (lackT (vw 0 ω) (ω 40 c) t = 0)) k)), some (vI a), some (vI b), some (vI k), x] [] ω := by
  have n8 := n8_vw hM.1
  intro n
  induction n with
  | zero =>
    intro k a b x hk hab hQ
    have ha : a = (misT (vw 0 ω) (ω 40 c) k).1 := by rw [← hab]
    refine J_iload 6 dX7_fitNow_23 rfl ?_
    refine J_aload_n 0 dX7_fitNow_25 rfl ?_
    refine J_getI 2 lkF_X7_112 rfl rfl rfl dX7_fitNow_26 ?_
    refine J_icmp_ge 116 dX7_fitNow_29 (by decide) (fun h29 => ?_) (fun h29 => ?_)
    · skip
      refine J_iload_n 2 dX7_fitNow_116 rfl ?_
      refine J_iconst 1 dX7_fitNow_117 ⟨by decide, by decide⟩ ?_
      refine J_icmp_ne 125 dX7_fitNow_118 (by decide) (fun h118 => ?_) (fun h118 => ?_)
      · skip
        refine J_iload 4 dX7_fitNow_125 rfl ?_
        refine JM_iret rfl dX7_fitNow_127 ?_
        rw [show (ω 29 2).toNat = k from by omega] at hQ
        first | (rw [if_pos (by omega)] at hQ; exact hQ) | (rw [if_neg (by omega), ← ha] at hQ; exact hQ)
      · skip
        refine J_iload_n 3 dX7_fitNow_121 rfl ?_
        refine J_goto 127 dX7_fitNow_122 (by decide) ?_
        refine JM_iret rfl dX7_fitNow_127 ?_
        rw [show (ω 29 2).toNat = k from by omega] at hQ
        first | (rw [if_pos (by omega)] at hQ; exact hQ) | (rw [if_neg (by omega), ← ha] at hQ; exact hQ)
    · skip
      exfalso; omega
  | succ n ih =>
    intro k a b x hk hab hQ
    have hlr := zAnd_le (x := ω 40 c) (y := zXor (ansB (vw 0 ω) k) (-1)) hms.1 (by omega)
    have hpc := pc6_0 (x := lackT (vw 0 ω) (ω 40 c) k) (by unfold lackT; omega)
    have hbz := (bitsF_zb (p := fun t => decide (lackT (vw 0 ω) (ω 40 c) t = 0)) k (by omega)).1
    refine J_iload 6 dX7_fitNow_23 rfl ?_
    refine J_aload_n 0 dX7_fitNow_25 rfl ?_
    refine J_getI 2 lkF_X7_112 rfl rfl rfl dX7_fitNow_26 ?_
    refine J_icmp_ge 116 dX7_fitNow_29 (by decide) (fun h29 => ?_) (fun h29 => ?_)
    · skip
      exfalso; omega
    · skip
      refine J_aload_n 0 dX7_fitNow_32 rfl ?_
      refine J_getR lkF_X7_41 rfl dX7_fitNow_33 ?_
      refine J_iload_n 1 dX7_fitNow_36 rfl ?_
      refine J_iaload _ rfl rfl (by omega) dX7_fitNow_37 ?_
      refine J_aload_n 0 dX7_fitNow_38 rfl ?_
      refine J_iload 6 dX7_fitNow_39 rfl ?_
      refine JM_V1 lkM_X7_164 rcv_29 dX7_fitNow_41 (by decide) (Nat.le_of_ble_eq_true rfl) ?_
      refine kX7_answered hM.2 (by decide) hM.1 (by omega) ?_
      refine J_iconst (-1) dX7_fitNow_44 ⟨by decide, by decide⟩ ?_
      refine J_ixor dX7_fitNow_45 ?_
      refine J_iand dX7_fitNow_46 ?_
      refine JM_S1 lkM_X7_271 dX7_fitNow_47 (by decide) (Nat.le_of_ble_eq_true rfl) ?_
      refine kX7_ones (by omega) ?_
      rw [show pc6 (zAnd (ω 40 c) (zXor (ansB (vw 0 ω) k) (-1))) = pc6 (lackT (vw 0 ω) (ω 40 c) k) from rfl]
      generalize hpl : pc6 (lackT (vw 0 ω) (ω 40 c) k) = pl at hpc
      refine J_istore_7 dX7_fitNow_50 (by decide) rfl ?_
      refine J_iload_n 3 dX7_fitNow_52 rfl ?_
      refine J_iload 7 dX7_fitNow_53 rfl ?_
      refine J_if_ne 65 dX7_fitNow_55 (by decide) (fun h55 => ?_) (fun h55 => ?_)
      · skip
        have hbits : zOr (bitsF (fun t => decide (lackT (vw 0 ω) (ω 40 c) t = 0)) k) 0 = bitsF (fun t => decide (lackT (vw 0 ω) (ω 40 c) t = 0)) (k + 1) := by
          rw [zOr0 hbz, bitsF, if_neg (by simp only [decide_eq_true_eq]; omega)]
        refine J_iconst 0 dX7_fitNow_65 ⟨by decide, by decide⟩ ?_
        refine J_ior dX7_fitNow_66 ?_
        rw [hbits]
        refine J_istore_3 dX7_fitNow_67 (by decide) rfl ?_
        refine J_iload 7 dX7_fitNow_68 rfl ?_
        refine J_if_le 85 dX7_fitNow_70 (by decide) (fun h70 => ?_) (fun h70 => ?_)
        · skip
          refine J_iload 4 dX7_fitNow_85 rfl ?_
          refine J_istore_4 dX7_fitNow_87 (by decide) rfl ?_
          refine J_iload 7 dX7_fitNow_89 rfl ?_
          refine J_if_le 106 dX7_fitNow_91 (by decide) (fun h91 => ?_) (fun h91 => ?_)
          · skip
            refine J_iload 5 dX7_fitNow_106 rfl ?_
            refine J_istore_5 dX7_fitNow_108 (by decide) rfl ?_
            refine J_iinc_6 dX7_fitNow_110 (by decide) ⟨by omega, by omega⟩ rfl ?_
            refine J_goto 23 dX7_fitNow_113 (by decide) ?_
            refine ih (k + 1) _ _ _ (by omega) ?_ hQ
            rw [misT, hpl, ← hab]
            first | (rw [if_pos ⟨by omega, by omega⟩]; done) | (rw [if_neg (by simp only; omega)]; done)
          · skip
            exfalso; omega
        · skip
          refine J_iload 7 dX7_fitNow_73 rfl ?_
          refine J_iload 5 dX7_fitNow_75 rfl ?_
          refine J_icmp_ge 85 dX7_fitNow_77 (by decide) (fun h77 => ?_) (fun h77 => ?_)
          · skip
            refine J_iload 4 dX7_fitNow_85 rfl ?_
            refine J_istore_4 dX7_fitNow_87 (by decide) rfl ?_
            refine J_iload 7 dX7_fitNow_89 rfl ?_
            refine J_if_le 106 dX7_fitNow_91 (by decide) (fun h91 => ?_) (fun h91 => ?_)
            · skip
              exfalso; omega
            · skip
              refine J_iload 7 dX7_fitNow_94 rfl ?_
              refine J_iload 5 dX7_fitNow_96 rfl ?_
              refine J_icmp_ge 106 dX7_fitNow_98 (by decide) (fun h98 => ?_) (fun h98 => ?_)
              · skip
                refine J_iload 5 dX7_fitNow_106 rfl ?_
                refine J_istore_5 dX7_fitNow_108 (by decide) rfl ?_
                refine J_iinc_6 dX7_fitNow_110 (by decide) ⟨by omega, by omega⟩ rfl ?_
                refine J_goto 23 dX7_fitNow_113 (by decide) ?_
                refine ih (k + 1) _ _ _ (by omega) ?_ hQ
                rw [misT, hpl, ← hab]
                first | (rw [if_pos ⟨by omega, by omega⟩]; done) | (rw [if_neg (by simp only; omega)]; done)
              · skip
                exfalso; omega
          · skip
            refine J_iload 6 dX7_fitNow_80 rfl ?_
            refine J_goto 87 dX7_fitNow_82 (by decide) ?_
            refine J_istore_4 dX7_fitNow_87 (by decide) rfl ?_
            refine J_iload 7 dX7_fitNow_89 rfl ?_
            refine J_if_le 106 dX7_fitNow_91 (by decide) (fun h91 => ?_) (fun h91 => ?_)
            · skip
              exfalso; omega
            · skip
              refine J_iload 7 dX7_fitNow_94 rfl ?_
              refine J_iload 5 dX7_fitNow_96 rfl ?_
              refine J_icmp_ge 106 dX7_fitNow_98 (by decide) (fun h98 => ?_) (fun h98 => ?_)
              · skip
                exfalso; omega
              · skip
                refine J_iload 7 dX7_fitNow_101 rfl ?_
                refine J_goto 108 dX7_fitNow_103 (by decide) ?_
                refine J_istore_5 dX7_fitNow_108 (by decide) rfl ?_
                refine J_iinc_6 dX7_fitNow_110 (by decide) ⟨by omega, by omega⟩ rfl ?_
                refine J_goto 23 dX7_fitNow_113 (by decide) ?_
                refine ih (k + 1) _ _ _ (by omega) ?_ hQ
                rw [misT, hpl, ← hab]
                first | (rw [if_pos ⟨by omega, by omega⟩]; done) | (rw [if_neg (by simp only; omega)]; done)
      · skip
        have hbits : zOr (bitsF (fun t => decide (lackT (vw 0 ω) (ω 40 c) t = 0)) k) (zShl 1 k) = bitsF (fun t => decide (lackT (vw 0 ω) (ω 40 c) t = 0)) (k + 1) := by
          rw [bitsF, if_pos (by simp only [decide_eq_true_eq]; omega)]
        refine J_iconst 1 dX7_fitNow_58 ⟨by decide, by decide⟩ ?_
        refine J_iload 6 dX7_fitNow_59 rfl ?_
        refine J_ishl dX7_fitNow_61 ?_
        refine J_goto 66 dX7_fitNow_62 (by decide) ?_
        refine J_ior dX7_fitNow_66 ?_
        rw [hbits]
        refine J_istore_3 dX7_fitNow_67 (by decide) rfl ?_
        refine J_iload 7 dX7_fitNow_68 rfl ?_
        refine J_if_le 85 dX7_fitNow_70 (by decide) (fun h70 => ?_) (fun h70 => ?_)
        · skip
          refine J_iload 4 dX7_fitNow_85 rfl ?_
          refine J_istore_4 dX7_fitNow_87 (by decide) rfl ?_
          refine J_iload 7 dX7_fitNow_89 rfl ?_
          refine J_if_le 106 dX7_fitNow_91 (by decide) (fun h91 => ?_) (fun h91 => ?_)
          · skip
            refine J_iload 5 dX7_fitNow_106 rfl ?_
            refine J_istore_5 dX7_fitNow_108 (by decide) rfl ?_
            refine J_iinc_6 dX7_fitNow_110 (by decide) ⟨by omega, by omega⟩ rfl ?_
            refine J_goto 23 dX7_fitNow_113 (by decide) ?_
            refine ih (k + 1) _ _ _ (by omega) ?_ hQ
            rw [misT, hpl, ← hab]
            first | (rw [if_pos ⟨by omega, by omega⟩]; done) | (rw [if_neg (by simp only; omega)]; done)
          · skip
            exfalso; omega
        · skip
          refine J_iload 7 dX7_fitNow_73 rfl ?_
          refine J_iload 5 dX7_fitNow_75 rfl ?_
          refine J_icmp_ge 85 dX7_fitNow_77 (by decide) (fun h77 => ?_) (fun h77 => ?_)
          · skip
            refine J_iload 4 dX7_fitNow_85 rfl ?_
            refine J_istore_4 dX7_fitNow_87 (by decide) rfl ?_
            refine J_iload 7 dX7_fitNow_89 rfl ?_
            refine J_if_le 106 dX7_fitNow_91 (by decide) (fun h91 => ?_) (fun h91 => ?_)
            · skip
              exfalso; omega
            · skip
              refine J_iload 7 dX7_fitNow_94 rfl ?_
              refine J_iload 5 dX7_fitNow_96 rfl ?_
              refine J_icmp_ge 106 dX7_fitNow_98 (by decide) (fun h98 => ?_) (fun h98 => ?_)
              · skip
                refine J_iload 5 dX7_fitNow_106 rfl ?_
                refine J_istore_5 dX7_fitNow_108 (by decide) rfl ?_
                refine J_iinc_6 dX7_fitNow_110 (by decide) ⟨by omega, by omega⟩ rfl ?_
                refine J_goto 23 dX7_fitNow_113 (by decide) ?_
                refine ih (k + 1) _ _ _ (by omega) ?_ hQ
                rw [misT, hpl, ← hab]
                first | (rw [if_pos ⟨by omega, by omega⟩]; done) | (rw [if_neg (by simp only; omega)]; done)
              · skip
                exfalso; omega
          · skip
            refine J_iload 6 dX7_fitNow_80 rfl ?_
            refine J_goto 87 dX7_fitNow_82 (by decide) ?_
            refine J_istore_4 dX7_fitNow_87 (by decide) rfl ?_
            refine J_iload 7 dX7_fitNow_89 rfl ?_
            refine J_if_le 106 dX7_fitNow_91 (by decide) (fun h91 => ?_) (fun h91 => ?_)
            · skip
              exfalso; omega
            · skip
              refine J_iload 7 dX7_fitNow_94 rfl ?_
              refine J_iload 5 dX7_fitNow_96 rfl ?_
              refine J_icmp_ge 106 dX7_fitNow_98 (by decide) (fun h98 => ?_) (fun h98 => ?_)
              · skip
                exfalso; omega
              · skip
                refine J_iload 7 dX7_fitNow_101 rfl ?_
                refine J_goto 108 dX7_fitNow_103 (by decide) ?_
                refine J_istore_5 dX7_fitNow_108 (by decide) rfl ?_
                refine J_iinc_6 dX7_fitNow_110 (by decide) ⟨by omega, by omega⟩ rfl ?_
                refine J_goto 23 dX7_fitNow_113 (by decide) ?_
                refine ih (k + 1) _ _ _ (by omega) ?_ hQ
                rw [misT, hpl, ← hab]
                first | (rw [if_pos ⟨by omega, by omega⟩]; done) | (rw [if_neg (by simp only; omega)]; done)

set_option maxRecDepth 100000 in
set_option maxHeartbeats 4000000 in
theorem kX7_fitNow {X : Cx} {d : Nat} {ω : Om} {Q : Option MV → Om → Prop} {c w : Int} (hM : MW ω) (hK : KM ω) (hc : 0 ≤ c ∧ c < ω 29 15) (hw : 0 ≤ w ∧ w ≤ 2) (hQ : Q (some (vI (fitN (vw 0 ω) (ω 40 c) w))) ω) : Mc X mX7_fitNow (d + 4) [vR 29, vI c, vI w] ω Q := by
  have n8 := n8_vw hM.1
  have k6 := hK.1
  have hms := hK.2 c hc.1 hc.2
  unfold fitN at hQ
  rw [vw37] at hQ
  refine Mc_of [some (vR 29), some (vI c), some (vI w), none, none, none, none, none] (by decide +kernel) rfl (Nat.le_of_ble_eq_true rfl) ?_
  refine J_iload_n 2 dX7_fitNow_0 rfl ?_
  refine J_if_ne 11 dX7_fitNow_1 (by decide) (fun h1 => ?_) (fun h1 => ?_)
  · skip
    refine J_iconst 0 dX7_fitNow_11 ⟨by decide, by decide⟩ ?_
    refine J_istore_3 dX7_fitNow_12 (by decide) rfl ?_
    refine J_iconst (-1) dX7_fitNow_13 ⟨by decide, by decide⟩ ?_
    refine J_istore_4 dX7_fitNow_14 (by decide) rfl ?_
    refine J_bipush 7 dX7_fitNow_16 ⟨by decide, by decide⟩ (by decide) ?_
    refine J_istore_5 dX7_fitNow_18 (by decide) rfl ?_
    refine J_iconst 0 dX7_fitNow_20 ⟨by decide, by decide⟩ ?_
    refine J_istore_6 dX7_fitNow_21 (by decide) rfl ?_
    rw [if_neg (by omega)] at hQ
    exact l_fit hM (by omega) (by omega) (ω 29 2).toNat 0 (-1) 7 none (by omega) rfl hQ
  · skip
    refine J_aload_n 0 dX7_fitNow_4 rfl ?_
    refine J_getR lkF_X7_41 rfl dX7_fitNow_5 ?_
    refine J_iload_n 1 dX7_fitNow_8 rfl ?_
    refine J_iaload _ rfl rfl (by omega) dX7_fitNow_9 ?_
    refine JM_iret rfl dX7_fitNow_10 ?_
    rw [if_pos (by omega)] at hQ; exact hQ

set_option maxRecDepth 100000 in
set_option maxHeartbeats 4000000 in
theorem kX7_fit {X : Cx} {d : Nat} {ω : Om} {Q : Option MV → Om → Prop} {c w : Int} (hM : MW ω) (hK : KM ω) (hQ : Q (some (vI (aFit (vw 0 ω) (ω 29 15) (ω 40) c w))) ω) : Mc X mX7_fit (d + 5) [vR 29, vI c, vI w] ω Q := by
  have k6 := hK.1
  unfold aFit at hQ
  refine Mc_of [some (vR 29), some (vI c), some (vI w)] (by decide +kernel) rfl (Nat.le_of_ble_eq_true rfl) ?_
  refine J_iload_n 1 dX7_fit_0 rfl ?_
  refine J_iconst 0 dX7_fit_1 ⟨by decide, by decide⟩ ?_
  refine J_aload_n 0 dX7_fit_2 rfl ?_
  refine J_getI 15 lkF_X7_268 rfl rfl rfl dX7_fit_3 ?_
  refine J_iconst 1 dX7_fit_6 ⟨by decide, by decide⟩ ?_
  refine J_isub dX7_fit_7 ⟨by omega, by omega⟩ ?_
  refine JM_S3 lkM_X7_77 dX7_fit_8 (by decide) (Nat.le_of_ble_eq_true rfl) ?_
  refine kX7_within ?_
  generalize hg : (if 0 ≤ c ∧ c ≤ ω 29 15 - 1 then (1 : Int) else 0) = g
  have hg2 : (g = 1 ∧ (0 ≤ c ∧ c ≤ ω 29 15 - 1)) ∨ (g = 0 ∧ ¬ (0 ≤ c ∧ c ≤ ω 29 15 - 1)) := by
    subst hg
    split
    · left; exact ⟨rfl, by omega⟩
    · right; exact ⟨rfl, by omega⟩
  refine J_if_ne 18 dX7_fit_11 (by decide) (fun h11 => ?_) (fun h11 => ?_)
  · skip
    refine J_iload_n 2 dX7_fit_18 rfl ?_
    refine J_iconst 0 dX7_fit_19 ⟨by decide, by decide⟩ ?_
    refine J_iconst 2 dX7_fit_20 ⟨by decide, by decide⟩ ?_
    refine JM_S3 lkM_X7_77 dX7_fit_21 (by decide) (Nat.le_of_ble_eq_true rfl) ?_
    refine kX7_within ?_
    generalize hg1 : (if 0 ≤ w ∧ w ≤ 2 then (1 : Int) else 0) = g1
    have hg12 : (g1 = 1 ∧ (0 ≤ w ∧ w ≤ 2)) ∨ (g1 = 0 ∧ ¬ (0 ≤ w ∧ w ≤ 2)) := by
      subst hg1
      split
      · left; exact ⟨rfl, by omega⟩
      · right; exact ⟨rfl, by omega⟩
    refine J_if_eq 36 dX7_fit_24 (by decide) (fun h24 => ?_) (fun h24 => ?_)
    · skip
      refine J_sipush (-1002) dX7_fit_36 ⟨by decide, by decide⟩ (by decide) ?_
      refine JM_iret rfl dX7_fit_39 ?_
      first | (rw [if_neg (by omega)] at hQ; exact hQ) | (rw [if_pos (by omega), if_neg (by omega)] at hQ; exact hQ) | (rw [if_pos (by omega), if_pos (by omega)] at hQ; exact hQ)
    · skip
      refine J_aload_n 0 dX7_fit_27 rfl ?_
      refine J_iload_n 1 dX7_fit_28 rfl ?_
      refine J_iload_n 2 dX7_fit_29 rfl ?_
      refine JM_V2 lkM_X7_274 rcv_29 dX7_fit_30 (by decide) (Nat.le_of_ble_eq_true rfl) ?_
      refine kX7_fitNow hM hK (by omega) (by omega) ?_
      refine J_goto 39 dX7_fit_33 (by decide) ?_
      refine JM_iret rfl dX7_fit_39 ?_
      first | (rw [if_neg (by omega)] at hQ; exact hQ) | (rw [if_pos (by omega), if_neg (by omega)] at hQ; exact hQ) | (rw [if_pos (by omega), if_pos (by omega)] at hQ; exact hQ)
  · skip
    refine J_sipush (-1001) dX7_fit_14 ⟨by decide, by decide⟩ (by decide) ?_
    refine JM_iret rfl dX7_fit_17 ?_
    first | (rw [if_neg (by omega)] at hQ; exact hQ) | (rw [if_pos (by omega), if_neg (by omega)] at hQ; exact hQ) | (rw [if_pos (by omega), if_pos (by omega)] at hQ; exact hQ)

set_option maxRecDepth 100000 in
set_option maxHeartbeats 4000000 in
theorem l_cmn {X : Cx} {d : Nat} {Q : Option MV → Om → Prop} {ω : Om} {ts : Int} (hM : MW ω) : ∀ (n k : Nat), k + n = (ω 29 2).toNat → Q (some (vI (comT (vw 0 ω) ts (ω 29 2).toNat))) ω → JM X mX7_common (d + 4) Q 25 [some (vR 29), some (vI ts), some (vI (comT (vw 0 ω) ts k)), some (vI k)] [] ω := by
  have n8 := n8_vw hM.1
  intro n
  induction n with
  | zero =>
    intro k hk hQ
    refine J_iload_n 3 dX7_common_25 rfl ?_
    refine J_aload_n 0 dX7_common_26 rfl ?_
    refine J_getI 2 lkF_X7_112 rfl rfl rfl dX7_common_27 ?_
    refine J_icmp_ge 60 dX7_common_30 (by decide) (fun h30 => ?_) (fun h30 => ?_)
    · skip
      refine J_iload_n 2 dX7_common_60 rfl ?_
      refine JM_iret rfl dX7_common_61 ?_
      rw [show k = (ω 29 2).toNat from by omega]; exact hQ
    · skip
      exfalso; omega
  | succ n ih =>
    intro k hk hQ
    have hcr := comT_R (vw 0 ω) ts k
    refine J_iload_n 3 dX7_common_25 rfl ?_
    refine J_aload_n 0 dX7_common_26 rfl ?_
    refine J_getI 2 lkF_X7_112 rfl rfl rfl dX7_common_27 ?_
    refine J_icmp_ge 60 dX7_common_30 (by decide) (fun h30 => ?_) (fun h30 => ?_)
    · skip
      exfalso; omega
    · skip
      refine J_iload_n 2 dX7_common_33 rfl ?_
      refine J_iload_n 1 dX7_common_34 rfl ?_
      refine J_iload_n 3 dX7_common_35 rfl ?_
      refine JM_S2 lkM_X7_92 dX7_common_36 (by decide) (Nat.le_of_ble_eq_true rfl) ?_
      refine kX7_hasBit ?_
      refine J_if_eq 50 dX7_common_39 (by decide) (fun h39 => ?_) (fun h39 => ?_)
      · skip
        refine J_bipush 63 dX7_common_50 ⟨by decide, by decide⟩ (by decide) ?_
        refine J_iand dX7_common_52 ?_
        refine J_istore_2 dX7_common_53 (by decide) rfl ?_
        refine J_iinc_3 dX7_common_54 (by decide) ⟨by omega, by omega⟩ rfl ?_
        refine J_goto 25 dX7_common_57 (by decide) ?_
        have e := ih (k + 1) (by omega) hQ
        rw [comT] at e
        first | (rw [if_pos h39] at e; rw [and63_id hcr]; exact e) | (rw [if_neg h39] at e; exact e)
      · skip
        refine J_aload_n 0 dX7_common_42 rfl ?_
        refine J_iload_n 3 dX7_common_43 rfl ?_
        refine JM_V1 lkM_X7_164 rcv_29 dX7_common_44 (by decide) (Nat.le_of_ble_eq_true rfl) ?_
        refine kX7_answered hM.2 (by decide) hM.1 (by omega) ?_
        refine J_goto 52 dX7_common_47 (by decide) ?_
        refine J_iand dX7_common_52 ?_
        refine J_istore_2 dX7_common_53 (by decide) rfl ?_
        refine J_iinc_3 dX7_common_54 (by decide) ⟨by omega, by omega⟩ rfl ?_
        refine J_goto 25 dX7_common_57 (by decide) ?_
        have e := ih (k + 1) (by omega) hQ
        rw [comT] at e
        first | (rw [if_pos h39] at e; rw [and63_id hcr]; exact e) | (rw [if_neg h39] at e; exact e)

set_option maxRecDepth 100000 in
set_option maxHeartbeats 4000000 in
theorem kX7_common {X : Cx} {d : Nat} {ω : Om} {Q : Option MV → Om → Prop} {ts : Int} (hM : MW ω) (hQ : Q (some (vI (aCom (vw 0 ω) ts))) ω) : Mc X mX7_common (d + 4) [vR 29, vI ts] ω Q := by
  have n8 := n8_vw hM.1
  have hsh := shl_R n8
  unfold aCom at hQ
  rw [vw37] at hQ
  refine Mc_of [some (vR 29), some (vI ts), none, none] (by decide +kernel) rfl (Nat.le_of_ble_eq_true rfl) ?_
  refine J_iload_n 1 dX7_common_0 rfl ?_
  refine J_iconst 1 dX7_common_1 ⟨by decide, by decide⟩ ?_
  refine J_iconst 1 dX7_common_2 ⟨by decide, by decide⟩ ?_
  refine J_aload_n 0 dX7_common_3 rfl ?_
  refine J_getI 2 lkF_X7_112 rfl rfl rfl dX7_common_4 ?_
  refine J_ishl dX7_common_7 ?_
  refine J_iconst 1 dX7_common_8 ⟨by decide, by decide⟩ ?_
  refine J_isub dX7_common_9 ⟨by omega, by omega⟩ ?_
  refine JM_S3 lkM_X7_77 dX7_common_10 (by decide) (Nat.le_of_ble_eq_true rfl) ?_
  refine kX7_within ?_
  generalize hg : (if 1 ≤ ts ∧ ts ≤ zShl 1 (ω 29 2) - 1 then (1 : Int) else 0) = g
  have hg2 : (g = 1 ∧ (1 ≤ ts ∧ ts ≤ zShl 1 (ω 29 2) - 1)) ∨ (g = 0 ∧ ¬ (1 ≤ ts ∧ ts ≤ zShl 1 (ω 29 2) - 1)) := by
    subst hg
    split
    · left; exact ⟨rfl, by omega⟩
    · right; exact ⟨rfl, by omega⟩
  refine J_if_ne 20 dX7_common_13 (by decide) (fun h13 => ?_) (fun h13 => ?_)
  · skip
    refine J_bipush 63 dX7_common_20 ⟨by decide, by decide⟩ (by decide) ?_
    refine J_istore_2 dX7_common_22 (by decide) rfl ?_
    refine J_iconst 0 dX7_common_23 ⟨by decide, by decide⟩ ?_
    refine J_istore_3 dX7_common_24 (by decide) rfl ?_
    rw [if_pos (by omega)] at hQ
    exact l_cmn hM (ω 29 2).toNat 0 (by omega) hQ
  · skip
    refine J_sipush (-1002) dX7_common_16 ⟨by decide, by decide⟩ (by decide) ?_
    refine JM_iret rfl dX7_common_19 ?_
    rw [if_neg (by omega)] at hQ; exact hQ
