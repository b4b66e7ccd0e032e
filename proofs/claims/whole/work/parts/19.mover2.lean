def RefF (ω ω' : Om) : Prop := Fr [4, 5, 6, 14, 15, 19, 20, 21, 22, 23, 24, 25, 26, 27, 28] ω ω' ∧ (∀ i, i < 9 → ω' 6 i = ω 6 i) ∧ (∀ q, q < 160 → ω' 26 q = ω 26 q) ∧ ((∀ r, r < 20 → ω' 27 r = ω 27 r ∧ ω' 28 r = ω 28 r) ∧ (GW ω → GW ω') ∧ (ω 5 7 = ω 3 9 → ω' 5 7 = ω' 3 9)) ∧ TQ ω ω'
theorem RefF.rf (ω : Om) : RefF ω ω := ⟨Fr.rf, fun _ _ => rfl, fun _ _ => rfl, ⟨fun _ _ => ⟨rfl, rfl⟩, id, id⟩, TQ.rf ω⟩
theorem RefF.tr {a b c : Om} (h : RefF a b) (g : RefF b c) : RefF a c := ⟨h.1.tr g.1, fun i hi => (g.2.1 i hi).trans (h.2.1 i hi), fun q hq => (g.2.2.1 q hq).trans (h.2.2.1 q hq), ⟨fun r hr => ⟨(g.2.2.2.1.1 r hr).1.trans (h.2.2.2.1.1 r hr).1, (g.2.2.2.1.1 r hr).2.trans (h.2.2.2.1.1 r hr).2⟩, fun q => g.2.2.2.1.2.1 (h.2.2.2.1.2.1 q), fun q => g.2.2.2.1.2.2 (h.2.2.2.1.2.2 q)⟩, h.2.2.2.2.tr g.2.2.2.2⟩
theorem ReaF.r {ω ω' : Om} (h : ReaF ω ω') : RefF ω ω' := ⟨h.1, fun i hi => h.2.1 i (by omega), h.2.2⟩
theorem RefF_up (ω : Om) {i z : Int} (hi : 9 ≤ i) : RefF ω (up ω 6 i z) := ⟨Fr.up Fr.rf (by decide), fun j hj => up_i (by omega), fun q _ => up_k (by decide), ⟨fun r _ => ⟨up_k (by decide), up_k (by decide)⟩, fun q t t0 t1 => by rw [up_k (by decide)]; exact q t t0 t1, fun q => by rw [up_k (by decide), up_k (by decide)]; exact q⟩, (tree_fr (K := [6]) (Fr.up Fr.rf (by decide)) rfl).q⟩
theorem SC_up6 {ω : Om} {i z : Int} (h : SC ω) : SC (up ω 6 i z) := by
  refine ⟨by rw [up_k (by decide), up_k (by decide)]; exact h.1, fun e => ?_⟩
  rw [up_k (by decide), up_k (by decide)] at e
  exact SVv_TQ (tree_fr (K := [6]) (Fr.up Fr.rf (by decide)) rfl).q (SVv_fr (h.2 e) (up_f (by decide)) (up_f (by decide)) (up_f (by decide)) (up_f (by decide)))
def MCv (ω : Om) : Prop := ω 6 10 = upsT ω (12 * (ω 3 7).toNat) ∧ ω 6 11 = downsT ω (12 * (ω 3 7).toNat) ∧ ω 6 12 = stopT ω (12 * (ω 3 7).toNat)
/-- the counts of moves, if they are as new as the tree, are right -/
def MC (ω : Om) : Prop := ω 6 13 ≤ ω 3 9 ∧ (ω 6 13 = ω 3 9 → MCv ω)
theorem mvs_R (τ : Om) : ∀ k : Nat, (0 ≤ upsT τ k ∧ upsT τ k ≤ k) ∧ (0 ≤ downsT τ k ∧ downsT τ k ≤ k) ∧ (0 ≤ stopT τ k ∧ stopT τ k ≤ 2 * k) := by
  intro k
  induction k with
  | zero => exact ⟨⟨Int.le_refl 0, Int.le_refl 0⟩, ⟨Int.le_refl 0, Int.le_refl 0⟩, ⟨Int.le_refl 0, Int.le_refl 0⟩⟩
  | succ k ih =>
    simp only [upsT, downsT, stopT]
    refine ⟨?_, ?_, ?_⟩
    · split <;> omega
    · split <;> omega
    · split <;> split <;> omega
set_option maxRecDepth 100000 in
set_option maxHeartbeats 4000000 in
theorem kX0_forgetKept {X : Cx} {d : Nat} {ω : Om} {Q : Option MV → Om → Prop} (hQ : Q none (up ω 6 6 0)) : Mc X mX0_forgetKept d [vR 6] ω Q := by
  refine Mc_of [some (vR 6)] (by decide +kernel) rfl (Nat.le_of_ble_eq_true rfl) ?_
  refine J_aload_n 0 dX0_forgetKept_0 rfl ?_
  refine J_iconst 0 dX0_forgetKept_1 ⟨by decide, by decide⟩ ?_
  refine J_putI 6 lkF_X0_21 rfl fp_0_6 rfl dX0_forgetKept_2 ?_
  refine JM_vret rfl dX0_forgetKept_5 ?_
  exact hQ

set_option maxRecDepth 100000 in
set_option maxHeartbeats 4000000 in
theorem l_mr1 {X : Cx} {d : Nat} {Q : Option MV → Om → Prop} {ω0 : Om} {t : Nat} {ver : Int} (hW : WfT ω0) (ht : (t : Int) < ω0 3 7) : ∀ (n m : Nat) (ω : Om) (x y : Option MV), m + n = 12 → RefF ω0 ω → SC ω → ω 6 13 = ver → ω 6 10 = upsT ω0 (12 * t + m) → ω 6 11 = downsT ω0 (12 * t + m) → ω 6 12 = stopT ω0 (12 * t + m) → (∀ (ω' : Om) (x y : Option MV), RefF ω0 ω' → SC ω' → ω' 6 13 = ver → ω' 6 10 = upsT ω0 (12 * t + 12) → ω' 6 11 = downsT ω0 (12 * t + 12) → ω' 6 12 = stopT ω0 (12 * t + 12) → JM X mX0_refresh (d + 5) Q 153 [some (vR 6), some (vI t), some (vI 12), x, y] [] ω') → JM X mX0_refresh (d + 5) Q 56 [some (vR 6), some (vI t), some (vI m), x, y] [] ω := by
  intro n
  have n8 := hW.1
  induction n with
  | zero =>
    intro m ω x y hm hF hS hv hu hd hs hK
    have e12 : m = 12 := by omega
    subst e12
    refine J_iload_n 2 dX0_refresh_56 rfl ?_
    refine J_bipush 12 dX0_refresh_57 ⟨by decide, by decide⟩ (by decide) ?_
    refine J_icmp_ge 153 dX0_refresh_59 (by decide) (fun h59 => ?_) (fun h59 => ?_)
    · skip
      exact hK ω _ _ hF hS hv hu hd hs
    · skip
      exfalso; omega
  | succ n ih =>
    intro m ω x y hm hF hS hv hu hd hs hK
    have hk6 : (12 * t + m) / 12 = t := by omega
    have hm6 : (12 * t + m) % 12 = m := by omega
    have hW1 := WfT_TQ hF.2.2.2.2 hW
    have n1 := hF.2.2.2.2.1
    have hR := mvs_R ω0 (12 * t + m)
    refine J_iload_n 2 dX0_refresh_56 rfl ?_
    refine J_bipush 12 dX0_refresh_57 ⟨by decide, by decide⟩ (by decide) ?_
    refine J_icmp_ge 153 dX0_refresh_59 (by decide) (fun h59 => ?_) (fun h59 => ?_)
    · skip
      exfalso; omega
    · skip
      refine J_aload_n 0 dX0_refresh_62 rfl ?_
      refine J_iload_n 1 dX0_refresh_63 rfl ?_
      refine J_iload_n 2 dX0_refresh_64 rfl ?_
      refine J_iconst 1 dX0_refresh_65 ⟨by decide, by decide⟩ ?_
      refine JM_V3 lkM_X0_100 rcv_6 dX0_refresh_66 (by decide) (Nat.le_of_ble_eq_true rfl) ?_
      refine kX0_reason hW1 hS (by omega) (by omega) (fun ω1 r1 s1 _ => ?_)
      rw [whyT_TQ hF.2.2.2.2 1 (by omega)]
      have hF1 := hF.tr r1.r
      have hW2 := WfT_TQ hF1.2.2.2.2 hW
      have n2 := hF1.2.2.2.2.1
      refine J_istore_3 dX0_refresh_69 (by decide) rfl ?_
      refine J_aload_n 0 dX0_refresh_70 rfl ?_
      refine J_iload_n 1 dX0_refresh_71 rfl ?_
      refine J_iload_n 2 dX0_refresh_72 rfl ?_
      refine J_iconst 0 dX0_refresh_73 ⟨by decide, by decide⟩ ?_
      refine JM_V3 lkM_X0_100 rcv_6 dX0_refresh_74 (by decide) (Nat.le_of_ble_eq_true rfl) ?_
      refine kX0_reason hW2 s1 (by omega) (by omega) (fun ω2 r2 s2 _ => ?_)
      rw [whyT_TQ hF1.2.2.2.2 0 (by omega)]
      have hF2 := hF1.tr r2.r
      have e6 : ∀ i, i ≠ 9 → ω2 6 i = ω 6 i := fun i hi => (r2.2.1 i hi).trans (r1.2.1 i hi)
      have e10 := e6 10 (by decide)
      have e11 := e6 11 (by decide)
      have e12 := e6 12 (by decide)
      have e13 := e6 13 (by decide)
      generalize hw1 : whyT ω0 (t : Int) (m : Int) 1 = w1
      generalize hw0 : whyT ω0 (t : Int) (m : Int) 0 = w0
      refine J_istore_4 dX0_refresh_77 (by decide) rfl ?_
      refine J_aload_n 0 dX0_refresh_79 rfl ?_
      first | refine J_dupR dX0_refresh_80 ?_ | refine J_dupI dX0_refresh_80 ?_
      refine J_getI 10 lkF_X0_88 rfl rfl rfl dX0_refresh_81 ?_
      refine J_iload_n 3 dX0_refresh_84 rfl ?_
      refine J_if_ne 92 dX0_refresh_85 (by decide) (fun h85 => ?_) (fun h85 => ?_)
      · skip
        refine J_iconst 0 dX0_refresh_92 ⟨by decide, by decide⟩ ?_
        refine J_iadd dX0_refresh_93 ⟨by omega, by omega⟩ ?_
        refine J_putI 10 lkF_X0_88 rfl fp_0_10 rfl dX0_refresh_94 ?_
        refine J_aload_n 0 dX0_refresh_97 rfl ?_
        first | refine J_dupR dX0_refresh_98 ?_ | refine J_dupI dX0_refresh_98 ?_
        refine J_getI 11 lkF_X0_91 rfl rfl rfl dX0_refresh_99 ?_
        try simp (config := {decide := true}) only [up_s, up_k, up_i]
        refine J_iload 4 dX0_refresh_102 rfl ?_
        refine J_if_ne 111 dX0_refresh_104 (by decide) (fun h104 => ?_) (fun h104 => ?_)
        · skip
          refine J_iconst 0 dX0_refresh_111 ⟨by decide, by decide⟩ ?_
          refine J_iadd dX0_refresh_112 ⟨by omega, by omega⟩ ?_
          refine J_putI 11 lkF_X0_91 rfl fp_0_11 rfl dX0_refresh_113 ?_
          refine J_aload_n 0 dX0_refresh_116 rfl ?_
          first | refine J_dupR dX0_refresh_117 ?_ | refine J_dupI dX0_refresh_117 ?_
          refine J_getI 12 lkF_X0_94 rfl rfl rfl dX0_refresh_118 ?_
          try simp (config := {decide := true}) only [up_s, up_k, up_i]
          refine J_iload_n 3 dX0_refresh_121 rfl ?_
          refine J_iconst 4 dX0_refresh_122 ⟨by decide, by decide⟩ ?_
          refine J_icmp_ne 130 dX0_refresh_123 (by decide) (fun h123 => ?_) (fun h123 => ?_)
          · skip
            refine J_iconst 0 dX0_refresh_130 ⟨by decide, by decide⟩ ?_
            refine J_iload 4 dX0_refresh_131 rfl ?_
            refine J_iconst 4 dX0_refresh_133 ⟨by decide, by decide⟩ ?_
            refine J_icmp_ne 141 dX0_refresh_134 (by decide) (fun h134 => ?_) (fun h134 => ?_)
            · skip
              refine J_iconst 0 dX0_refresh_141 ⟨by decide, by decide⟩ ?_
              refine J_iadd dX0_refresh_142 ⟨by omega, by omega⟩ ?_
              refine J_iadd dX0_refresh_143 ⟨by omega, by omega⟩ ?_
              refine J_putI 12 lkF_X0_94 rfl fp_0_12 rfl dX0_refresh_144 ?_
              refine J_iinc_2 dX0_refresh_147 (by decide) ⟨by omega, by omega⟩ rfl ?_
              refine J_goto 56 dX0_refresh_150 (by decide) ?_
              refine ih (m + 1) _ _ _ (by omega) (hF2.tr ((RefF_up _ (by decide)).tr ((RefF_up _ (by decide)).tr (RefF_up _ (by decide))))) (SC_up6 (SC_up6 (SC_up6 s2))) ?_ ?_ ?_ ?_ hK
              · rw [up_i (by decide), up_i (by decide), up_i (by decide), e13]; exact hv
              · rw [up_i (by decide), up_i (by decide), up_s]
                rw [← Nat.add_assoc]
                simp only [upsT]
                rw [hk6, hm6, hw1, e10, hu]
                first | rw [if_pos h85] | rw [if_neg h85]
              · rw [up_i (by decide), up_s]
                rw [← Nat.add_assoc]
                simp only [downsT]
                rw [hk6, hm6, hw0, e11, hd]
                first | rw [if_pos h104] | rw [if_neg h104]
              · rw [up_s]
                rw [← Nat.add_assoc]
                simp only [stopT]
                rw [hk6, hm6, hw1, hw0, e12, hs]
                first
                  | rw [if_pos h123, if_pos h134]
                  | rw [if_pos h123, if_neg h134]
                  | rw [if_neg h123, if_pos h134]
                  | rw [if_neg h123, if_neg h134]
            · skip
              refine J_iconst 1 dX0_refresh_137 ⟨by decide, by decide⟩ ?_
              refine J_goto 142 dX0_refresh_138 (by decide) ?_
              refine J_iadd dX0_refresh_142 ⟨by omega, by omega⟩ ?_
              refine J_iadd dX0_refresh_143 ⟨by omega, by omega⟩ ?_
              refine J_putI 12 lkF_X0_94 rfl fp_0_12 rfl dX0_refresh_144 ?_
              refine J_iinc_2 dX0_refresh_147 (by decide) ⟨by omega, by omega⟩ rfl ?_
              refine J_goto 56 dX0_refresh_150 (by decide) ?_
              refine ih (m + 1) _ _ _ (by omega) (hF2.tr ((RefF_up _ (by decide)).tr ((RefF_up _ (by decide)).tr (RefF_up _ (by decide))))) (SC_up6 (SC_up6 (SC_up6 s2))) ?_ ?_ ?_ ?_ hK
              · rw [up_i (by decide), up_i (by decide), up_i (by decide), e13]; exact hv
              · rw [up_i (by decide), up_i (by decide), up_s]
                rw [← Nat.add_assoc]
                simp only [upsT]
                rw [hk6, hm6, hw1, e10, hu]
                first | rw [if_pos h85] | rw [if_neg h85]
              · rw [up_i (by decide), up_s]
                rw [← Nat.add_assoc]
                simp only [downsT]
                rw [hk6, hm6, hw0, e11, hd]
                first | rw [if_pos h104] | rw [if_neg h104]
              · rw [up_s]
                rw [← Nat.add_assoc]
                simp only [stopT]
                rw [hk6, hm6, hw1, hw0, e12, hs]
                first
                  | rw [if_pos h123, if_pos h134]
                  | rw [if_pos h123, if_neg h134]
                  | rw [if_neg h123, if_pos h134]
                  | rw [if_neg h123, if_neg h134]
          · skip
            refine J_iconst 1 dX0_refresh_126 ⟨by decide, by decide⟩ ?_
            refine J_goto 131 dX0_refresh_127 (by decide) ?_
            refine J_iload 4 dX0_refresh_131 rfl ?_
            refine J_iconst 4 dX0_refresh_133 ⟨by decide, by decide⟩ ?_
            refine J_icmp_ne 141 dX0_refresh_134 (by decide) (fun h134 => ?_) (fun h134 => ?_)
            · skip
              refine J_iconst 0 dX0_refresh_141 ⟨by decide, by decide⟩ ?_
              refine J_iadd dX0_refresh_142 ⟨by omega, by omega⟩ ?_
              refine J_iadd dX0_refresh_143 ⟨by omega, by omega⟩ ?_
              refine J_putI 12 lkF_X0_94 rfl fp_0_12 rfl dX0_refresh_144 ?_
              refine J_iinc_2 dX0_refresh_147 (by decide) ⟨by omega, by omega⟩ rfl ?_
              refine J_goto 56 dX0_refresh_150 (by decide) ?_
              refine ih (m + 1) _ _ _ (by omega) (hF2.tr ((RefF_up _ (by decide)).tr ((RefF_up _ (by decide)).tr (RefF_up _ (by decide))))) (SC_up6 (SC_up6 (SC_up6 s2))) ?_ ?_ ?_ ?_ hK
              · rw [up_i (by decide), up_i (by decide), up_i (by decide), e13]; exact hv
              · rw [up_i (by decide), up_i (by decide), up_s]
                rw [← Nat.add_assoc]
                simp only [upsT]
                rw [hk6, hm6, hw1, e10, hu]
                first | rw [if_pos h85] | rw [if_neg h85]
              · rw [up_i (by decide), up_s]
                rw [← Nat.add_assoc]
                simp only [downsT]
                rw [hk6, hm6, hw0, e11, hd]
                first | rw [if_pos h104] | rw [if_neg h104]
              · rw [up_s]
                rw [← Nat.add_assoc]
                simp only [stopT]
                rw [hk6, hm6, hw1, hw0, e12, hs]
                first
                  | rw [if_pos h123, if_pos h134]
                  | rw [if_pos h123, if_neg h134]
                  | rw [if_neg h123, if_pos h134]
                  | rw [if_neg h123, if_neg h134]
            · skip
              refine J_iconst 1 dX0_refresh_137 ⟨by decide, by decide⟩ ?_
              refine J_goto 142 dX0_refresh_138 (by decide) ?_
              refine J_iadd dX0_refresh_142 ⟨by omega, by omega⟩ ?_
              refine J_iadd dX0_refresh_143 ⟨by omega, by omega⟩ ?_
              refine J_putI 12 lkF_X0_94 rfl fp_0_12 rfl dX0_refresh_144 ?_
              refine J_iinc_2 dX0_refresh_147 (by decide) ⟨by omega, by omega⟩ rfl ?_
              refine J_goto 56 dX0_refresh_150 (by decide) ?_
              refine ih (m + 1) _ _ _ (by omega) (hF2.tr ((RefF_up _ (by decide)).tr ((RefF_up _ (by decide)).tr (RefF_up _ (by decide))))) (SC_up6 (SC_up6 (SC_up6 s2))) ?_ ?_ ?_ ?_ hK
              · rw [up_i (by decide), up_i (by decide), up_i (by decide), e13]; exact hv
              · rw [up_i (by decide), up_i (by decide), up_s]
                rw [← Nat.add_assoc]
                simp only [upsT]
                rw [hk6, hm6, hw1, e10, hu]
                first | rw [if_pos h85] | rw [if_neg h85]
              · rw [up_i (by decide), up_s]
                rw [← Nat.add_assoc]
                simp only [downsT]
                rw [hk6, hm6, hw0, e11, hd]
                first | rw [if_pos h104] | rw [if_neg h104]
              · rw [up_s]
                rw [← Nat.add_assoc]
                simp only [stopT]
                rw [hk6, hm6, hw1, hw0, e12, hs]
                first
                  | rw [if_pos h123, if_pos h134]
                  | rw [if_pos h123, if_neg h134]
                  | rw [if_neg h123, if_pos h134]
                  | rw [if_neg h123, if_neg h134]
        · skip
          refine J_iconst 1 dX0_refresh_107 ⟨by decide, by decide⟩ ?_
          refine J_goto 112 dX0_refresh_108 (by decide) ?_
          refine J_iadd dX0_refresh_112 ⟨by omega, by omega⟩ ?_
          refine J_putI 11 lkF_X0_91 rfl fp_0_11 rfl dX0_refresh_113 ?_
          refine J_aload_n 0 dX0_refresh_116 rfl ?_
          first | refine J_dupR dX0_refresh_117 ?_ | refine J_dupI dX0_refresh_117 ?_
          refine J_getI 12 lkF_X0_94 rfl rfl rfl dX0_refresh_118 ?_
          try simp (config := {decide := true}) only [up_s, up_k, up_i]
          refine J_iload_n 3 dX0_refresh_121 rfl ?_
          refine J_iconst 4 dX0_refresh_122 ⟨by decide, by decide⟩ ?_
          refine J_icmp_ne 130 dX0_refresh_123 (by decide) (fun h123 => ?_) (fun h123 => ?_)
          · skip
            refine J_iconst 0 dX0_refresh_130 ⟨by decide, by decide⟩ ?_
            refine J_iload 4 dX0_refresh_131 rfl ?_
            refine J_iconst 4 dX0_refresh_133 ⟨by decide, by decide⟩ ?_
            refine J_icmp_ne 141 dX0_refresh_134 (by decide) (fun h134 => ?_) (fun h134 => ?_)
            · skip
              refine J_iconst 0 dX0_refresh_141 ⟨by decide, by decide⟩ ?_
              refine J_iadd dX0_refresh_142 ⟨by omega, by omega⟩ ?_
              refine J_iadd dX0_refresh_143 ⟨by omega, by omega⟩ ?_
              refine J_putI 12 lkF_X0_94 rfl fp_0_12 rfl dX0_refresh_144 ?_
              refine J_iinc_2 dX0_refresh_147 (by decide) ⟨by omega, by omega⟩ rfl ?_
              refine J_goto 56 dX0_refresh_150 (by decide) ?_
              refine ih (m + 1) _ _ _ (by omega) (hF2.tr ((RefF_up _ (by decide)).tr ((RefF_up _ (by decide)).tr (RefF_up _ (by decide))))) (SC_up6 (SC_up6 (SC_up6 s2))) ?_ ?_ ?_ ?_ hK
              · rw [up_i (by decide), up_i (by decide), up_i (by decide), e13]; exact hv
              · rw [up_i (by decide), up_i (by decide), up_s]
                rw [← Nat.add_assoc]
                simp only [upsT]
                rw [hk6, hm6, hw1, e10, hu]
                first | rw [if_pos h85] | rw [if_neg h85]
              · rw [up_i (by decide), up_s]
                rw [← Nat.add_assoc]
                simp only [downsT]
                rw [hk6, hm6, hw0, e11, hd]
                first | rw [if_pos h104] | rw [if_neg h104]
              · rw [up_s]
                rw [← Nat.add_assoc]
                simp only [stopT]
                rw [hk6, hm6, hw1, hw0, e12, hs]
                first
                  | rw [if_pos h123, if_pos h134]
                  | rw [if_pos h123, if_neg h134]
                  | rw [if_neg h123, if_pos h134]
                  | rw [if_neg h123, if_neg h134]
            · skip
              refine J_iconst 1 dX0_refresh_137 ⟨by decide, by decide⟩ ?_
              refine J_goto 142 dX0_refresh_138 (by decide) ?_
              refine J_iadd dX0_refresh_142 ⟨by omega, by omega⟩ ?_
              refine J_iadd dX0_refresh_143 ⟨by omega, by omega⟩ ?_
              refine J_putI 12 lkF_X0_94 rfl fp_0_12 rfl dX0_refresh_144 ?_
              refine J_iinc_2 dX0_refresh_147 (by decide) ⟨by omega, by omega⟩ rfl ?_
              refine J_goto 56 dX0_refresh_150 (by decide) ?_
              refine ih (m + 1) _ _ _ (by omega) (hF2.tr ((RefF_up _ (by decide)).tr ((RefF_up _ (by decide)).tr (RefF_up _ (by decide))))) (SC_up6 (SC_up6 (SC_up6 s2))) ?_ ?_ ?_ ?_ hK
              · rw [up_i (by decide), up_i (by decide), up_i (by decide), e13]; exact hv
              · rw [up_i (by decide), up_i (by decide), up_s]
                rw [← Nat.add_assoc]
                simp only [upsT]
                rw [hk6, hm6, hw1, e10, hu]
                first | rw [if_pos h85] | rw [if_neg h85]
              · rw [up_i (by decide), up_s]
                rw [← Nat.add_assoc]
                simp only [downsT]
                rw [hk6, hm6, hw0, e11, hd]
                first | rw [if_pos h104] | rw [if_neg h104]
              · rw [up_s]
                rw [← Nat.add_assoc]
                simp only [stopT]
                rw [hk6, hm6, hw1, hw0, e12, hs]
                first
                  | rw [if_pos h123, if_pos h134]
                  | rw [if_pos h123, if_neg h134]
                  | rw [if_neg h123, if_pos h134]
                  | rw [if_neg h123, if_neg h134]
          · skip
            refine J_iconst 1 dX0_refresh_126 ⟨by decide, by decide⟩ ?_
            refine J_goto 131 dX0_refresh_127 (by decide) ?_
            refine J_iload 4 dX0_refresh_131 rfl ?_
            refine J_iconst 4 dX0_refresh_133 ⟨by decide, by decide⟩ ?_
            refine J_icmp_ne 141 dX0_refresh_134 (by decide) (fun h134 => ?_) (fun h134 => ?_)
            · skip
              refine J_iconst 0 dX0_refresh_141 ⟨by decide, by decide⟩ ?_
              refine J_iadd dX0_refresh_142 ⟨by omega, by omega⟩ ?_
              refine J_iadd dX0_refresh_143 ⟨by omega, by omega⟩ ?_
              refine J_putI 12 lkF_X0_94 rfl fp_0_12 rfl dX0_refresh_144 ?_
              refine J_iinc_2 dX0_refresh_147 (by decide) ⟨by omega, by omega⟩ rfl ?_
              refine J_goto 56 dX0_refresh_150 (by decide) ?_
              refine ih (m + 1) _ _ _ (by omega) (hF2.tr ((RefF_up _ (by decide)).tr ((RefF_up _ (by decide)).tr (RefF_up _ (by decide))))) (SC_up6 (SC_up6 (SC_up6 s2))) ?_ ?_ ?_ ?_ hK
              · rw [up_i (by decide), up_i (by decide), up_i (by decide), e13]; exact hv
              · rw [up_i (by decide), up_i (by decide), up_s]
                rw [← Nat.add_assoc]
                simp only [upsT]
                rw [hk6, hm6, hw1, e10, hu]
                first | rw [if_pos h85] | rw [if_neg h85]
              · rw [up_i (by decide), up_s]
                rw [← Nat.add_assoc]
                simp only [downsT]
                rw [hk6, hm6, hw0, e11, hd]
                first | rw [if_pos h104] | rw [if_neg h104]
              · rw [up_s]
                rw [← Nat.add_assoc]
                simp only [stopT]
                rw [hk6, hm6, hw1, hw0, e12, hs]
                first
                  | rw [if_pos h123, if_pos h134]
                  | rw [if_pos h123, if_neg h134]
                  | rw [if_neg h123, if_pos h134]
                  | rw [if_neg h123, if_neg h134]
            · skip
              refine J_iconst 1 dX0_refresh_137 ⟨by decide, by decide⟩ ?_
              refine J_goto 142 dX0_refresh_138 (by decide) ?_
              refine J_iadd dX0_refresh_142 ⟨by omega, by omega⟩ ?_
              refine J_iadd dX0_refresh_143 ⟨by omega, by omega⟩ ?_
              refine J_putI 12 lkF_X0_94 rfl fp_0_12 rfl dX0_refresh_144 ?_
              refine J_iinc_2 dX0_refresh_147 (by decide) ⟨by omega, by omega⟩ rfl ?_
              refine J_goto 56 dX0_refresh_150 (by decide) ?_
              refine ih (m + 1) _ _ _ (by omega) (hF2.tr ((RefF_up _ (by decide)).tr ((RefF_up _ (by decide)).tr (RefF_up _ (by decide))))) (SC_up6 (SC_up6 (SC_up6 s2))) ?_ ?_ ?_ ?_ hK
              · rw [up_i (by decide), up_i (by decide), up_i (by decide), e13]; exact hv
              · rw [up_i (by decide), up_i (by decide), up_s]
                rw [← Nat.add_assoc]
                simp only [upsT]
                rw [hk6, hm6, hw1, e10, hu]
                first | rw [if_pos h85] | rw [if_neg h85]
              · rw [up_i (by decide), up_s]
                rw [← Nat.add_assoc]
                simp only [downsT]
                rw [hk6, hm6, hw0, e11, hd]
                first | rw [if_pos h104] | rw [if_neg h104]
              · rw [up_s]
                rw [← Nat.add_assoc]
                simp only [stopT]
                rw [hk6, hm6, hw1, hw0, e12, hs]
                first
                  | rw [if_pos h123, if_pos h134]
                  | rw [if_pos h123, if_neg h134]
                  | rw [if_neg h123, if_pos h134]
                  | rw [if_neg h123, if_neg h134]
      · skip
        refine J_iconst 1 dX0_refresh_88 ⟨by decide, by decide⟩ ?_
        refine J_goto 93 dX0_refresh_89 (by decide) ?_
        refine J_iadd dX0_refresh_93 ⟨by omega, by omega⟩ ?_
        refine J_putI 10 lkF_X0_88 rfl fp_0_10 rfl dX0_refresh_94 ?_
        refine J_aload_n 0 dX0_refresh_97 rfl ?_
        first | refine J_dupR dX0_refresh_98 ?_ | refine J_dupI dX0_refresh_98 ?_
        refine J_getI 11 lkF_X0_91 rfl rfl rfl dX0_refresh_99 ?_
        try simp (config := {decide := true}) only [up_s, up_k, up_i]
        refine J_iload 4 dX0_refresh_102 rfl ?_
        refine J_if_ne 111 dX0_refresh_104 (by decide) (fun h104 => ?_) (fun h104 => ?_)
        · skip
          refine J_iconst 0 dX0_refresh_111 ⟨by decide, by decide⟩ ?_
          refine J_iadd dX0_refresh_112 ⟨by omega, by omega⟩ ?_
          refine J_putI 11 lkF_X0_91 rfl fp_0_11 rfl dX0_refresh_113 ?_
          refine J_aload_n 0 dX0_refresh_116 rfl ?_
          first | refine J_dupR dX0_refresh_117 ?_ | refine J_dupI dX0_refresh_117 ?_
          refine J_getI 12 lkF_X0_94 rfl rfl rfl dX0_refresh_118 ?_
          try simp (config := {decide := true}) only [up_s, up_k, up_i]
          refine J_iload_n 3 dX0_refresh_121 rfl ?_
          refine J_iconst 4 dX0_refresh_122 ⟨by decide, by decide⟩ ?_
          refine J_icmp_ne 130 dX0_refresh_123 (by decide) (fun h123 => ?_) (fun h123 => ?_)
          · skip
            refine J_iconst 0 dX0_refresh_130 ⟨by decide, by decide⟩ ?_
            refine J_iload 4 dX0_refresh_131 rfl ?_
            refine J_iconst 4 dX0_refresh_133 ⟨by decide, by decide⟩ ?_
            refine J_icmp_ne 141 dX0_refresh_134 (by decide) (fun h134 => ?_) (fun h134 => ?_)
            · skip
              refine J_iconst 0 dX0_refresh_141 ⟨by decide, by decide⟩ ?_
              refine J_iadd dX0_refresh_142 ⟨by omega, by omega⟩ ?_
              refine J_iadd dX0_refresh_143 ⟨by omega, by omega⟩ ?_
              refine J_putI 12 lkF_X0_94 rfl fp_0_12 rfl dX0_refresh_144 ?_
              refine J_iinc_2 dX0_refresh_147 (by decide) ⟨by omega, by omega⟩ rfl ?_
              refine J_goto 56 dX0_refresh_150 (by decide) ?_
              refine ih (m + 1) _ _ _ (by omega) (hF2.tr ((RefF_up _ (by decide)).tr ((RefF_up _ (by decide)).tr (RefF_up _ (by decide))))) (SC_up6 (SC_up6 (SC_up6 s2))) ?_ ?_ ?_ ?_ hK
              · rw [up_i (by decide), up_i (by decide), up_i (by decide), e13]; exact hv
              · rw [up_i (by decide), up_i (by decide), up_s]
                rw [← Nat.add_assoc]
                simp only [upsT]
                rw [hk6, hm6, hw1, e10, hu]
                first | rw [if_pos h85] | rw [if_neg h85]
              · rw [up_i (by decide), up_s]
                rw [← Nat.add_assoc]
                simp only [downsT]
                rw [hk6, hm6, hw0, e11, hd]
                first | rw [if_pos h104] | rw [if_neg h104]
              · rw [up_s]
                rw [← Nat.add_assoc]
                simp only [stopT]
                rw [hk6, hm6, hw1, hw0, e12, hs]
                first
                  | rw [if_pos h123, if_pos h134]
                  | rw [if_pos h123, if_neg h134]
                  | rw [if_neg h123, if_pos h134]
                  | rw [if_neg h123, if_neg h134]
            · skip
              refine J_iconst 1 dX0_refresh_137 ⟨by decide, by decide⟩ ?_
              refine J_goto 142 dX0_refresh_138 (by decide) ?_
              refine J_iadd dX0_refresh_142 ⟨by omega, by omega⟩ ?_
              refine J_iadd dX0_refresh_143 ⟨by omega, by omega⟩ ?_
              refine J_putI 12 lkF_X0_94 rfl fp_0_12 rfl dX0_refresh_144 ?_
              refine J_iinc_2 dX0_refresh_147 (by decide) ⟨by omega, by omega⟩ rfl ?_
              refine J_goto 56 dX0_refresh_150 (by decide) ?_
              refine ih (m + 1) _ _ _ (by omega) (hF2.tr ((RefF_up _ (by decide)).tr ((RefF_up _ (by decide)).tr (RefF_up _ (by decide))))) (SC_up6 (SC_up6 (SC_up6 s2))) ?_ ?_ ?_ ?_ hK
              · rw [up_i (by decide), up_i (by decide), up_i (by decide), e13]; exact hv
              · rw [up_i (by decide), up_i (by decide), up_s]
                rw [← Nat.add_assoc]
                simp only [upsT]
                rw [hk6, hm6, hw1, e10, hu]
                first | rw [if_pos h85] | rw [if_neg h85]
              · rw [up_i (by decide), up_s]
                rw [← Nat.add_assoc]
                simp only [downsT]
                rw [hk6, hm6, hw0, e11, hd]
                first | rw [if_pos h104] | rw [if_neg h104]
              · rw [up_s]
                rw [← Nat.add_assoc]
                simp only [stopT]
                rw [hk6, hm6, hw1, hw0, e12, hs]
                first
                  | rw [if_pos h123, if_pos h134]
                  | rw [if_pos h123, if_neg h134]
                  | rw [if_neg h123, if_pos h134]
                  | rw [if_neg h123, if_neg h134]
          · skip
            refine J_iconst 1 dX0_refresh_126 ⟨by decide, by decide⟩ ?_
            refine J_goto 131 dX0_refresh_127 (by decide) ?_
            refine J_iload 4 dX0_refresh_131 rfl ?_
            refine J_iconst 4 dX0_refresh_133 ⟨by decide, by decide⟩ ?_
            refine J_icmp_ne 141 dX0_refresh_134 (by decide) (fun h134 => ?_) (fun h134 => ?_)
            · skip
              refine J_iconst 0 dX0_refresh_141 ⟨by decide, by decide⟩ ?_
              refine J_iadd dX0_refresh_142 ⟨by omega, by omega⟩ ?_
              refine J_iadd dX0_refresh_143 ⟨by omega, by omega⟩ ?_
              refine J_putI 12 lkF_X0_94 rfl fp_0_12 rfl dX0_refresh_144 ?_
              refine J_iinc_2 dX0_refresh_147 (by decide) ⟨by omega, by omega⟩ rfl ?_
              refine J_goto 56 dX0_refresh_150 (by decide) ?_
              refine ih (m + 1) _ _ _ (by omega) (hF2.tr ((RefF_up _ (by decide)).tr ((RefF_up _ (by decide)).tr (RefF_up _ (by decide))))) (SC_up6 (SC_up6 (SC_up6 s2))) ?_ ?_ ?_ ?_ hK
              · rw [up_i (by decide), up_i (by decide), up_i (by decide), e13]; exact hv
              · rw [up_i (by decide), up_i (by decide), up_s]
                rw [← Nat.add_assoc]
                simp only [upsT]
                rw [hk6, hm6, hw1, e10, hu]
                first | rw [if_pos h85] | rw [if_neg h85]
              · rw [up_i (by decide), up_s]
                rw [← Nat.add_assoc]
                simp only [downsT]
                rw [hk6, hm6, hw0, e11, hd]
                first | rw [if_pos h104] | rw [if_neg h104]
              · rw [up_s]
                rw [← Nat.add_assoc]
                simp only [stopT]
                rw [hk6, hm6, hw1, hw0, e12, hs]
                first
                  | rw [if_pos h123, if_pos h134]
                  | rw [if_pos h123, if_neg h134]
                  | rw [if_neg h123, if_pos h134]
                  | rw [if_neg h123, if_neg h134]
            · skip
              refine J_iconst 1 dX0_refresh_137 ⟨by decide, by decide⟩ ?_
              refine J_goto 142 dX0_refresh_138 (by decide) ?_
              refine J_iadd dX0_refresh_142 ⟨by omega, by omega⟩ ?_
              refine J_iadd dX0_refresh_143 ⟨by omega, by omega⟩ ?_
              refine J_putI 12 lkF_X0_94 rfl fp_0_12 rfl dX0_refresh_144 ?_
              refine J_iinc_2 dX0_refresh_147 (by decide) ⟨by omega, by omega⟩ rfl ?_
              refine J_goto 56 dX0_refresh_150 (by decide) ?_
              refine ih (m + 1) _ _ _ (by omega) (hF2.tr ((RefF_up _ (by decide)).tr ((RefF_up _ (by decide)).tr (RefF_up _ (by decide))))) (SC_up6 (SC_up6 (SC_up6 s2))) ?_ ?_ ?_ ?_ hK
              · rw [up_i (by decide), up_i (by decide), up_i (by decide), e13]; exact hv
              · rw [up_i (by decide), up_i (by decide), up_s]
                rw [← Nat.add_assoc]
                simp only [upsT]
                rw [hk6, hm6, hw1, e10, hu]
                first | rw [if_pos h85] | rw [if_neg h85]
              · rw [up_i (by decide), up_s]
                rw [← Nat.add_assoc]
                simp only [downsT]
                rw [hk6, hm6, hw0, e11, hd]
                first | rw [if_pos h104] | rw [if_neg h104]
              · rw [up_s]
                rw [← Nat.add_assoc]
                simp only [stopT]
                rw [hk6, hm6, hw1, hw0, e12, hs]
                first
                  | rw [if_pos h123, if_pos h134]
                  | rw [if_pos h123, if_neg h134]
                  | rw [if_neg h123, if_pos h134]
                  | rw [if_neg h123, if_neg h134]
        · skip
          refine J_iconst 1 dX0_refresh_107 ⟨by decide, by decide⟩ ?_
          refine J_goto 112 dX0_refresh_108 (by decide) ?_
          refine J_iadd dX0_refresh_112 ⟨by omega, by omega⟩ ?_
          refine J_putI 11 lkF_X0_91 rfl fp_0_11 rfl dX0_refresh_113 ?_
          refine J_aload_n 0 dX0_refresh_116 rfl ?_
          first | refine J_dupR dX0_refresh_117 ?_ | refine J_dupI dX0_refresh_117 ?_
          refine J_getI 12 lkF_X0_94 rfl rfl rfl dX0_refresh_118 ?_
          try simp (config := {decide := true}) only [up_s, up_k, up_i]
          refine J_iload_n 3 dX0_refresh_121 rfl ?_
          refine J_iconst 4 dX0_refresh_122 ⟨by decide, by decide⟩ ?_
          refine J_icmp_ne 130 dX0_refresh_123 (by decide) (fun h123 => ?_) (fun h123 => ?_)
          · skip
            refine J_iconst 0 dX0_refresh_130 ⟨by decide, by decide⟩ ?_
            refine J_iload 4 dX0_refresh_131 rfl ?_
            refine J_iconst 4 dX0_refresh_133 ⟨by decide, by decide⟩ ?_
            refine J_icmp_ne 141 dX0_refresh_134 (by decide) (fun h134 => ?_) (fun h134 => ?_)
            · skip
              refine J_iconst 0 dX0_refresh_141 ⟨by decide, by decide⟩ ?_
              refine J_iadd dX0_refresh_142 ⟨by omega, by omega⟩ ?_
              refine J_iadd dX0_refresh_143 ⟨by omega, by omega⟩ ?_
              refine J_putI 12 lkF_X0_94 rfl fp_0_12 rfl dX0_refresh_144 ?_
              refine J_iinc_2 dX0_refresh_147 (by decide) ⟨by omega, by omega⟩ rfl ?_
              refine J_goto 56 dX0_refresh_150 (by decide) ?_
              refine ih (m + 1) _ _ _ (by omega) (hF2.tr ((RefF_up _ (by decide)).tr ((RefF_up _ (by decide)).tr (RefF_up _ (by decide))))) (SC_up6 (SC_up6 (SC_up6 s2))) ?_ ?_ ?_ ?_ hK
              · rw [up_i (by decide), up_i (by decide), up_i (by decide), e13]; exact hv
              · rw [up_i (by decide), up_i (by decide), up_s]
                rw [← Nat.add_assoc]
                simp only [upsT]
                rw [hk6, hm6, hw1, e10, hu]
                first | rw [if_pos h85] | rw [if_neg h85]
              · rw [up_i (by decide), up_s]
                rw [← Nat.add_assoc]
                simp only [downsT]
                rw [hk6, hm6, hw0, e11, hd]
                first | rw [if_pos h104] | rw [if_neg h104]
              · rw [up_s]
                rw [← Nat.add_assoc]
                simp only [stopT]
                rw [hk6, hm6, hw1, hw0, e12, hs]
                first
                  | rw [if_pos h123, if_pos h134]
                  | rw [if_pos h123, if_neg h134]
                  | rw [if_neg h123, if_pos h134]
                  | rw [if_neg h123, if_neg h134]
            · skip
              refine J_iconst 1 dX0_refresh_137 ⟨by decide, by decide⟩ ?_
              refine J_goto 142 dX0_refresh_138 (by decide) ?_
              refine J_iadd dX0_refresh_142 ⟨by omega, by omega⟩ ?_
              refine J_iadd dX0_refresh_143 ⟨by omega, by omega⟩ ?_
              refine J_putI 12 lkF_X0_94 rfl fp_0_12 rfl dX0_refresh_144 ?_
              refine J_iinc_2 dX0_refresh_147 (by decide) ⟨by omega, by omega⟩ rfl ?_
              refine J_goto 56 dX0_refresh_150 (by decide) ?_
              refine ih (m + 1) _ _ _ (by omega) (hF2.tr ((RefF_up _ (by decide)).tr ((RefF_up _ (by decide)).tr (RefF_up _ (by decide))))) (SC_up6 (SC_up6 (SC_up6 s2))) ?_ ?_ ?_ ?_ hK
              · rw [up_i (by decide), up_i (by decide), up_i (by decide), e13]; exact hv
              · rw [up_i (by decide), up_i (by decide), up_s]
                rw [← Nat.add_assoc]
                simp only [upsT]
                rw [hk6, hm6, hw1, e10, hu]
                first | rw [if_pos h85] | rw [if_neg h85]
              · rw [up_i (by decide), up_s]
                rw [← Nat.add_assoc]
                simp only [downsT]
                rw [hk6, hm6, hw0, e11, hd]
                first | rw [if_pos h104] | rw [if_neg h104]
              · rw [up_s]
                rw [← Nat.add_assoc]
                simp only [stopT]
                rw [hk6, hm6, hw1, hw0, e12, hs]
                first
                  | rw [if_pos h123, if_pos h134]
                  | rw [if_pos h123, if_neg h134]
                  | rw [if_neg h123, if_pos h134]
                  | rw [if_neg h123, if_neg h134]
          · skip
            refine J_iconst 1 dX0_refresh_126 ⟨by decide, by decide⟩ ?_
            refine J_goto 131 dX0_refresh_127 (by decide) ?_
            refine J_iload 4 dX0_refresh_131 rfl ?_
            refine J_iconst 4 dX0_refresh_133 ⟨by decide, by decide⟩ ?_
            refine J_icmp_ne 141 dX0_refresh_134 (by decide) (fun h134 => ?_) (fun h134 => ?_)
            · skip
              refine J_iconst 0 dX0_refresh_141 ⟨by decide, by decide⟩ ?_
              refine J_iadd dX0_refresh_142 ⟨by omega, by omega⟩ ?_
              refine J_iadd dX0_refresh_143 ⟨by omega, by omega⟩ ?_
              refine J_putI 12 lkF_X0_94 rfl fp_0_12 rfl dX0_refresh_144 ?_
              refine J_iinc_2 dX0_refresh_147 (by decide) ⟨by omega, by omega⟩ rfl ?_
              refine J_goto 56 dX0_refresh_150 (by decide) ?_
              refine ih (m + 1) _ _ _ (by omega) (hF2.tr ((RefF_up _ (by decide)).tr ((RefF_up _ (by decide)).tr (RefF_up _ (by decide))))) (SC_up6 (SC_up6 (SC_up6 s2))) ?_ ?_ ?_ ?_ hK
              · rw [up_i (by decide), up_i (by decide), up_i (by decide), e13]; exact hv
              · rw [up_i (by decide), up_i (by decide), up_s]
                rw [← Nat.add_assoc]
                simp only [upsT]
                rw [hk6, hm6, hw1, e10, hu]
                first | rw [if_pos h85] | rw [if_neg h85]
              · rw [up_i (by decide), up_s]
                rw [← Nat.add_assoc]
                simp only [downsT]
                rw [hk6, hm6, hw0, e11, hd]
                first | rw [if_pos h104] | rw [if_neg h104]
              · rw [up_s]
                rw [← Nat.add_assoc]
                simp only [stopT]
                rw [hk6, hm6, hw1, hw0, e12, hs]
                first
                  | rw [if_pos h123, if_pos h134]
                  | rw [if_pos h123, if_neg h134]
                  | rw [if_neg h123, if_pos h134]
                  | rw [if_neg h123, if_neg h134]
            · skip
              refine J_iconst 1 dX0_refresh_137 ⟨by decide, by decide⟩ ?_
              refine J_goto 142 dX0_refresh_138 (by decide) ?_
              refine J_iadd dX0_refresh_142 ⟨by omega, by omega⟩ ?_
              refine J_iadd dX0_refresh_143 ⟨by omega, by omega⟩ ?_
              refine J_putI 12 lkF_X0_94 rfl fp_0_12 rfl dX0_refresh_144 ?_
              refine J_iinc_2 dX0_refresh_147 (by decide) ⟨by omega, by omega⟩ rfl ?_
              refine J_goto 56 dX0_refresh_150 (by decide) ?_
              refine ih (m + 1) _ _ _ (by omega) (hF2.tr ((RefF_up _ (by decide)).tr ((RefF_up _ (by decide)).tr (RefF_up _ (by decide))))) (SC_up6 (SC_up6 (SC_up6 s2))) ?_ ?_ ?_ ?_ hK
              · rw [up_i (by decide), up_i (by decide), up_i (by decide), e13]; exact hv
              · rw [up_i (by decide), up_i (by decide), up_s]
                rw [← Nat.add_assoc]
                simp only [upsT]
                rw [hk6, hm6, hw1, e10, hu]
                first | rw [if_pos h85] | rw [if_neg h85]
              · rw [up_i (by decide), up_s]
                rw [← Nat.add_assoc]
                simp only [downsT]
                rw [hk6, hm6, hw0, e11, hd]
                first | rw [if_pos h104] | rw [if_neg h104]
              · rw [up_s]
                rw [← Nat.add_assoc]
                simp only [stopT]
                rw [hk6, hm6, hw1, hw0, e12, hs]
                first
                  | rw [if_pos h123, if_pos h134]
                  | rw [if_pos h123, if_neg h134]
                  | rw [if_neg h123, if_pos h134]
                  | rw [if_neg h123, if_neg h134]

set_option maxRecDepth 100000 in
set_option maxHeartbeats 4000000 in
theorem l_mr2 {X : Cx} {d : Nat} {Q : Option MV → Om → Prop} {ω0 : Om} {ver : Int} (hW : WfT ω0) : ∀ (n t : Nat) (ω : Om) (z x y : Option MV), t + n = (ω0 3 7).toNat → RefF ω0 ω → SC ω → ω 6 13 = ver → ω 6 10 = upsT ω0 (12 * t) → ω 6 11 = downsT ω0 (12 * t) → ω 6 12 = stopT ω0 (12 * t) → (∀ ω', RefF ω0 ω' → SC ω' → ω' 6 13 = ver → ω' 6 10 = upsT ω0 (12 * (ω0 3 7).toNat) → ω' 6 11 = downsT ω0 (12 * (ω0 3 7).toNat) → ω' 6 12 = stopT ω0 (12 * (ω0 3 7).toNat) → Q none ω') → JM X mX0_refresh (d + 5) Q 43 [some (vR 6), some (vI t), z, x, y] [] ω := by
  intro n
  have n8 := hW.1
  induction n with
  | zero =>
    intro t ω z x y ht hF hS hv hu hd hs hQ
    have n1 := hF.2.2.2.2.1
    refine J_iload_n 1 dX0_refresh_43 rfl ?_
    refine J_aload_n 0 dX0_refresh_44 rfl ?_
    refine J_getR lkF_X0_37 rfl dX0_refresh_45 ?_
    refine J_getI 7 lkF_X0_97 rfl rfl rfl dX0_refresh_48 ?_
    refine J_icmp_ge 159 dX0_refresh_51 (by decide) (fun h51 => ?_) (fun h51 => ?_)
    · skip
      refine JM_vret rfl dX0_refresh_159 ?_
      have et : t = (ω0 3 7).toNat := by omega
      subst et
      exact hQ ω hF hS hv hu hd hs
    · skip
      exfalso; omega
  | succ n ih =>
    intro t ω z x y ht hF hS hv hu hd hs hQ
    have n1 := hF.2.2.2.2.1
    refine J_iload_n 1 dX0_refresh_43 rfl ?_
    refine J_aload_n 0 dX0_refresh_44 rfl ?_
    refine J_getR lkF_X0_37 rfl dX0_refresh_45 ?_
    refine J_getI 7 lkF_X0_97 rfl rfl rfl dX0_refresh_48 ?_
    refine J_icmp_ge 159 dX0_refresh_51 (by decide) (fun h51 => ?_) (fun h51 => ?_)
    · skip
      exfalso; omega
    · skip
      refine J_iconst 0 dX0_refresh_54 ⟨by decide, by decide⟩ ?_
      refine J_istore_2 dX0_refresh_55 (by decide) rfl ?_
      refine l_mr1 hW (by omega) 12 0 ω _ _ rfl hF hS hv hu hd hs (fun ω1 x1 y1 a1 a2 a3 a4 a5 a6 => ?_)
      refine J_iinc_1 dX0_refresh_153 (by decide) ⟨by omega, by omega⟩ rfl ?_
      refine J_goto 43 dX0_refresh_156 (by decide) ?_
      exact ih (t + 1) ω1 _ _ _ (by omega) a1 a2 a3 (by rw [show 12 * (t + 1) = 12 * t + 12 from by omega]; exact a4) (by rw [show 12 * (t + 1) = 12 * t + 12 from by omega]; exact a5) (by rw [show 12 * (t + 1) = 12 * t + 12 from by omega]; exact a6) hQ

set_option maxRecDepth 100000 in
set_option maxHeartbeats 4000000 in
theorem kX0_refresh {X : Cx} {d : Nat} {ω : Om} {Q : Option MV → Om → Prop} (hW : WfT ω) (hS : SC ω) (hC : MC ω) (hQ : ∀ ω', RefF ω ω' → SC ω' → ω' 6 13 = ω 3 9 → ω' 6 10 = upsT ω (12 * (ω 3 7).toNat) → ω' 6 11 = downsT ω (12 * (ω 3 7).toNat) → ω' 6 12 = stopT ω (12 * (ω 3 7).toNat) → Q none ω') : Mc X mX0_refresh (d + 5) [vR 6] ω Q := by
  refine Mc_of [some (vR 6), none, none, none, none] (by decide +kernel) rfl (Nat.le_of_ble_eq_true rfl) ?_
  refine J_aload_n 0 dX0_refresh_0 rfl ?_
  refine J_getI 13 lkF_X0_34 rfl rfl rfl dX0_refresh_1 ?_
  refine J_aload_n 0 dX0_refresh_4 rfl ?_
  refine J_getR lkF_X0_37 rfl dX0_refresh_5 ?_
  refine J_getI 9 lkF_X0_87 rfl rfl rfl dX0_refresh_8 ?_
  refine J_icmp_ne 15 dX0_refresh_11 (by decide) (fun h11 => ?_) (fun h11 => ?_)
  · skip
    refine J_aload_n 0 dX0_refresh_15 rfl ?_
    refine J_aload_n 0 dX0_refresh_16 rfl ?_
    refine J_getR lkF_X0_37 rfl dX0_refresh_17 ?_
    refine J_getI 9 lkF_X0_87 rfl rfl rfl dX0_refresh_20 ?_
    refine J_putI 13 lkF_X0_34 rfl fp_0_13 rfl dX0_refresh_23 ?_
    refine J_aload_n 0 dX0_refresh_26 rfl ?_
    refine J_iconst 0 dX0_refresh_27 ⟨by decide, by decide⟩ ?_
    refine J_putI 10 lkF_X0_88 rfl fp_0_10 rfl dX0_refresh_28 ?_
    refine J_aload_n 0 dX0_refresh_31 rfl ?_
    refine J_iconst 0 dX0_refresh_32 ⟨by decide, by decide⟩ ?_
    refine J_putI 11 lkF_X0_91 rfl fp_0_11 rfl dX0_refresh_33 ?_
    refine J_aload_n 0 dX0_refresh_36 rfl ?_
    refine J_iconst 0 dX0_refresh_37 ⟨by decide, by decide⟩ ?_
    refine J_putI 12 lkF_X0_94 rfl fp_0_12 rfl dX0_refresh_38 ?_
    refine J_iconst 0 dX0_refresh_41 ⟨by decide, by decide⟩ ?_
    refine J_istore_1 dX0_refresh_42 (by decide) rfl ?_
    have n8 := hW.1
    exact l_mr2 hW (ω 3 7).toNat 0 _ _ _ _ (by omega) ((RefF_up _ (by decide)).tr ((RefF_up _ (by decide)).tr ((RefF_up _ (by decide)).tr (RefF_up _ (by decide))))) (SC_up6 (SC_up6 (SC_up6 (SC_up6 hS)))) (by rw [up_i (by decide), up_i (by decide), up_i (by decide), up_s]) (by rw [up_i (by decide), up_i (by decide), up_s]; rfl) (by rw [up_i (by decide), up_s]; rfl) (by rw [up_s]; rfl) hQ
  · skip
    refine JM_vret rfl dX0_refresh_14 ?_
    obtain ⟨c1, c2, c3⟩ := hC.2 h11
    exact hQ ω (RefF.rf ω) hS h11 c1 c2 c3

/-- a move is done and kept -/
def KeepP (ω ω' : Om) (t m u : Int) : Prop := (Fr [3, 6, 14, 15, 26, 27, 28] ω ω' ∧ (GW ω → GW ω')) ∧ TQ (mvT ω t m u) ω' ∧ ((∀ i, i ≠ 9 → ω' 3 i = ω 3 i) ∧ ω' 3 9 = ω 3 9 + 1) ∧ (ω' 6 6 = ω 6 6 + 1 ∧ ω' 6 7 = ω 6 7 + 1 ∧ ∀ i, i ≠ 6 → i ≠ 7 → ω' 6 i = ω 6 i) ∧
  ω' 28 (ω 6 6) = m ∧ (∀ j : Int, 0 ≤ j → j < 8 → ω' 26 (ω 6 6 * 8 + j) = hb ω j m ∧ zb (ω' 27 (ω 6 6)) j = hds ω j m) ∧ (∀ q, q < ω 6 6 * 8 → ω' 26 q = ω 26 q) ∧ ∀ r, r < ω 6 6 → ω' 27 r = ω 27 r ∧ ω' 28 r = ω 28 r
set_option maxRecDepth 100000 in
set_option maxHeartbeats 4000000 in
theorem kX0_keep {X : Cx} {d : Nat} {ω : Om} {Q : Option MV → Om → Prop} {t m u : Int} (hW : WfT ω) (ht : 0 ≤ t ∧ t < ω 3 7) (hm : 0 ≤ m ∧ m < 12) (hu : ¬ u = 0 → ¬ pr ω t = -1) (hk : 0 ≤ ω 6 6) (hv : 0 ≤ ω 3 9 ∧ ω 3 9 < 1000000) (hdn : 0 ≤ ω 6 7 ∧ ω 6 7 < 1000000) (hQ : if ω 6 6 < 20 then (∀ ω', KeepP ω ω' t m u → Q (some (vI 1)) ω') else Q (some (vI 0)) ω) : Mc X mX0_keep (d + 4) [vR 6, vI t, vI m, vI u] ω Q := by
  refine Mc_of [some (vR 6), some (vI t), some (vI m), some (vI u)] (by decide +kernel) rfl (Nat.le_of_ble_eq_true rfl) ?_
  refine J_aload_n 0 dX0_keep_0 rfl ?_
  refine J_getI 6 lkF_X0_21 rfl rfl rfl dX0_keep_1 ?_
  refine J_bipush 20 dX0_keep_4 ⟨by decide, by decide⟩ (by decide) ?_
  refine J_icmp_lt 11 dX0_keep_6 (by decide) (fun h6 => ?_) (fun h6 => ?_)
  · skip
    rw [if_pos h6] at hQ
    refine J_aload_n 0 dX0_keep_11 rfl ?_
    refine J_aload_n 0 dX0_keep_12 rfl ?_
    refine J_getI 6 lkF_X0_21 rfl rfl rfl dX0_keep_13 ?_
    refine J_iload_n 2 dX0_keep_16 rfl ?_
    refine JM_V2 lkM_X0_71 rcv_6 dX0_keep_17 (by decide) (Nat.le_of_ble_eq_true rfl) ?_
    refine kX0_save (by omega) (fun ω1 s1 => ?_)
    have hE1 : TE ω ω1 := tree_fr s1.1 rfl
    have hW1 := WfT_TQ hE1.q hW
    have n1 : ω1 3 7 = ω 3 7 := by rw [hE1.1]
    refine J_aload_n 0 dX0_keep_20 rfl ?_
    refine J_iload_n 1 dX0_keep_21 rfl ?_
    refine J_iload_n 2 dX0_keep_22 rfl ?_
    refine J_iload_n 3 dX0_keep_23 rfl ?_
    refine JM_V3 lkM_X0_75 rcv_6 dX0_keep_24 (by decide) (Nat.le_of_ble_eq_true rfl) ?_
    refine kX0_shift hW1 (by omega) hm (fun q => by rw [pr_TE hE1]; exact hu q) (fun ω2 s2 f2 g2 => ?_)
    have e3 : ω2 3 = ω 3 := by rw [f2 3 (by decide), hE1.1]
    have e6 : ω2 6 = ω 6 := by rw [f2 6 (by decide), s1.1 6 (by decide)]
    have e39 : ω2 3 9 = ω 3 9 := by rw [e3]
    have e66 : ω2 6 6 = ω 6 6 := by rw [e6]
    have e67 : ω2 6 7 = ω 6 7 := by rw [e6]
    refine J_aload_n 0 dX0_keep_27 rfl ?_
    refine J_getR lkF_X0_37 rfl dX0_keep_28 ?_
    first | refine J_dupR dX0_keep_31 ?_ | refine J_dupI dX0_keep_31 ?_
    refine J_getI 9 lkF_X0_87 rfl rfl rfl dX0_keep_32 ?_
    refine J_iconst 1 dX0_keep_35 ⟨by decide, by decide⟩ ?_
    refine J_iadd dX0_keep_36 ⟨by omega, by omega⟩ ?_
    refine J_putI 9 lkF_X0_87 rfl fp_5_9 rfl dX0_keep_37 ?_
    refine J_aload_n 0 dX0_keep_40 rfl ?_
    first | refine J_dupR dX0_keep_41 ?_ | refine J_dupI dX0_keep_41 ?_
    refine J_getI 6 lkF_X0_21 rfl rfl rfl dX0_keep_42 ?_
    try simp (config := {decide := true}) only [up_s, up_k, up_i]
    refine J_iconst 1 dX0_keep_45 ⟨by decide, by decide⟩ ?_
    refine J_iadd dX0_keep_46 ⟨by omega, by omega⟩ ?_
    refine J_putI 6 lkF_X0_21 rfl fp_0_6 rfl dX0_keep_47 ?_
    refine J_aload_n 0 dX0_keep_50 rfl ?_
    first | refine J_dupR dX0_keep_51 ?_ | refine J_dupI dX0_keep_51 ?_
    refine J_getI 7 lkF_X0_25 rfl rfl rfl dX0_keep_52 ?_
    try simp (config := {decide := true}) only [up_s, up_k, up_i]
    refine J_iconst 1 dX0_keep_55 ⟨by decide, by decide⟩ ?_
    refine J_iadd dX0_keep_56 ⟨by omega, by omega⟩ ?_
    refine J_putI 7 lkF_X0_25 rfl fp_0_7 rfl dX0_keep_57 ?_
    refine J_iconst 1 dX0_keep_60 ⟨by decide, by decide⟩ ?_
    refine JM_zret rfl (by omega) dX0_keep_61 ?_
    refine hQ _ ⟨⟨?_, fun hG => ?_⟩, ?_, ⟨fun i hi => ?_, ?_⟩, ⟨?_, ?_, fun i h6' h7' => ?_⟩, ?_, fun j j0 j1 => ?_, fun q hq => ?_, fun r hr => ?_⟩
    · exact Fr.up (Fr.up (Fr.up (Fr.tr (b := ω1) (s1.1.mono (by decide)) (f2.mono (by decide))) (by decide)) (by decide)) (by decide)
    · have gg := g2 (fun q q0 q1 => by rw [hE1.2.2.2.2.1]; exact hG q q0 q1)
      exact fun q q0 q1 => by rw [up_k (by decide), up_k (by decide), up_k (by decide)]; exact gg q q0 q1
    · refine ((mvT_TQ hE1.q u hm).tr s2).tr ⟨?_, ?_, fun t _ _ => ⟨?_, ?_, ?_⟩, fun t m _ _ _ _ => ?_, fun b _ _ => ?_, fun b k _ _ _ _ => ?_⟩
      · rw [up_k (by decide), up_k (by decide), up_i (by decide)]
      · rw [up_k (by decide), up_k (by decide), up_i (by decide)]
      · rw [up_k (by decide), up_k (by decide), up_k (by decide)]
      · rw [up_k (by decide), up_k (by decide), up_k (by decide)]
      · rw [up_k (by decide), up_k (by decide), up_k (by decide)]
      · rw [up_k (by decide), up_k (by decide), up_k (by decide)]
      · rw [up_k (by decide), up_k (by decide), up_k (by decide)]
      · rw [up_k (by decide), up_k (by decide), up_k (by decide)]
    · rw [up_k (by decide), up_k (by decide), up_i hi, e3]
    · rw [up_k (by decide), up_k (by decide), up_s, e39]
    · rw [up_i (by decide), up_s, e66]
    · rw [up_s, e67]
    · rw [up_i h7', up_i h6', up_k (by decide), e6]
    · rw [up_k (by decide), up_k (by decide), up_k (by decide), f2 28 (by decide)]; exact s1.2.1
    · rw [up_k (by decide), up_k (by decide), up_k (by decide), up_k (by decide), up_k (by decide), up_k (by decide), f2 26 (by decide), f2 27 (by decide)]; exact s1.2.2.2.1 j j0 (by omega)
    · rw [up_k (by decide), up_k (by decide), up_k (by decide), f2 26 (by decide)]; exact s1.2.2.2.2.2.1 q (by omega)
    · rw [up_k (by decide), up_k (by decide), up_k (by decide), up_k (by decide), up_k (by decide), up_k (by decide), f2 27 (by decide), f2 28 (by decide)]; exact s1.2.2.2.2.2.2 r (by omega)
  · skip
    rw [if_neg h6] at hQ
    refine J_iconst 0 dX0_keep_9 ⟨by decide, by decide⟩ ?_
    refine JM_zret rfl (by omega) dX0_keep_10 ?_
    exact hQ

/-- the last move is taken back -/
def BackP (ω ω' : Om) (m : Int) : Prop := Fr [3, 6, 14, 15] ω ω' ∧ ((∀ i, i ≠ 9 → ω' 3 i = ω 3 i) ∧ ω' 3 9 = ω 3 9 + 1) ∧ (ω' 6 6 = ω 6 6 - 1 ∧ ω' 6 8 = ω 6 8 + 1 ∧ ∀ i, i ≠ 6 → i ≠ 8 → ω' 6 i = ω 6 i) ∧
  (∀ j n : Int, 0 ≤ j → j < 8 → 0 ≤ n → n < 12 → ω' 14 (j * 12 + n) = if n = m then ω 26 ((ω 6 6 - 1) * 8 + j) else ω 14 (j * 12 + n)) ∧ ∀ j : Int, 0 ≤ j → j < 8 → ω' 15 j = zset (ω 15 j) m (zb (ω 27 (ω 6 6 - 1)) j)
set_option maxRecDepth 100000 in
set_option maxHeartbeats 4000000 in
theorem kX0_takeBack {X : Cx} {d : Nat} {ω : Om} {Q : Option MV → Om → Prop} {m : Int} (hk : 0 ≤ ω 6 6 ∧ ω 6 6 ≤ 20) (hm : 0 < ω 6 6 → 0 ≤ m ∧ m < 12 ∧ ω 28 (ω 6 6 - 1) = m) (hv : 0 ≤ ω 3 9 ∧ ω 3 9 < 1000000) (hdn : 0 ≤ ω 6 8 ∧ ω 6 8 < 1000000) (hQ : if ω 6 6 ≤ 0 then Q (some (vI 0)) ω else (∀ ω', BackP ω ω' m → Q (some (vI 1)) ω')) : Mc X mX0_takeBack (d + 3) [vR 6] ω Q := by
  refine Mc_of [some (vR 6)] (by decide +kernel) rfl (Nat.le_of_ble_eq_true rfl) ?_
  refine J_aload_n 0 dX0_takeBack_0 rfl ?_
  refine J_getI 6 lkF_X0_21 rfl rfl rfl dX0_takeBack_1 ?_
  refine J_if_gt 9 dX0_takeBack_4 (by decide) (fun h4 => ?_) (fun h4 => ?_)
  · skip
    rw [if_neg (by omega)] at hQ
    refine J_aload_n 0 dX0_takeBack_9 rfl ?_
    first | refine J_dupR dX0_takeBack_10 ?_ | refine J_dupI dX0_takeBack_10 ?_
    refine J_getI 6 lkF_X0_21 rfl rfl rfl dX0_takeBack_11 ?_
    refine J_iconst 1 dX0_takeBack_14 ⟨by decide, by decide⟩ ?_
    refine J_isub dX0_takeBack_15 ⟨by omega, by omega⟩ ?_
    refine J_putI 6 lkF_X0_21 rfl fp_0_6 rfl dX0_takeBack_16 ?_
    refine J_aload_n 0 dX0_takeBack_19 rfl ?_
    refine J_aload_n 0 dX0_takeBack_20 rfl ?_
    refine J_getI 6 lkF_X0_21 rfl rfl rfl dX0_takeBack_21 ?_
    try simp (config := {decide := true}) only [up_s, up_k, up_i]
    refine JM_V1 lkM_X0_83 rcv_6 dX0_takeBack_24 (by decide) (Nat.le_of_ble_eq_true rfl) ?_
    refine kX0_restore (m := m) (by omega) (by have := hm h4; omega) (by rw [up_k (by decide)]; exact (hm h4).2.2) (fun ω1 s1 => ?_)
    have e3 : ω1 3 = ω 3 := by rw [s1.1 3 (by decide), up_f (by decide)]
    have e6 : ω1 6 = up ω 6 6 (ω 6 6 - 1) 6 := s1.1 6 (by decide)
    have e39 : ω1 3 9 = ω 3 9 := by rw [e3]
    have e68 : ω1 6 8 = ω 6 8 := by rw [e6, up_i (by decide)]
    refine J_aload_n 0 dX0_takeBack_27 rfl ?_
    refine J_getR lkF_X0_37 rfl dX0_takeBack_28 ?_
    first | refine J_dupR dX0_takeBack_31 ?_ | refine J_dupI dX0_takeBack_31 ?_
    refine J_getI 9 lkF_X0_87 rfl rfl rfl dX0_takeBack_32 ?_
    try simp (config := {decide := true}) only [up_s, up_k, up_i]
    refine J_iconst 1 dX0_takeBack_35 ⟨by decide, by decide⟩ ?_
    refine J_iadd dX0_takeBack_36 ⟨by omega, by omega⟩ ?_
    refine J_putI 9 lkF_X0_87 rfl fp_5_9 rfl dX0_takeBack_37 ?_
    refine J_aload_n 0 dX0_takeBack_40 rfl ?_
    first | refine J_dupR dX0_takeBack_41 ?_ | refine J_dupI dX0_takeBack_41 ?_
    refine J_getI 8 lkF_X0_28 rfl rfl rfl dX0_takeBack_42 ?_
    try simp (config := {decide := true}) only [up_s, up_k, up_i]
    refine J_iconst 1 dX0_takeBack_45 ⟨by decide, by decide⟩ ?_
    refine J_iadd dX0_takeBack_46 ⟨by omega, by omega⟩ ?_
    refine J_putI 8 lkF_X0_28 rfl fp_0_8 rfl dX0_takeBack_47 ?_
    refine J_iconst 1 dX0_takeBack_50 ⟨by decide, by decide⟩ ?_
    refine JM_zret rfl (by omega) dX0_takeBack_51 ?_
    refine hQ _ ⟨?_, ⟨fun i hi => ?_, ?_⟩, ⟨?_, ?_, fun i h6' h7' => ?_⟩, fun j n j0 j1 n0 n1 => ?_, fun j j0 j1 => ?_⟩
    · exact Fr.up (Fr.up (Fr.tr (b := up ω 6 6 (ω 6 6 - 1)) (Fr.up Fr.rf (by decide)) (s1.1.mono (by decide))) (by decide)) (by decide)
    · rw [up_k (by decide), up_i hi, e3]
    · rw [up_k (by decide), up_s, e39]
    · rw [up_i (by decide), up_k (by decide), e6, up_s]
    · rw [up_s, e68]
    · rw [up_i h7', up_k (by decide), e6, up_i h6']
    · rw [up_k (by decide), up_k (by decide), s1.2.1 j n j0 j1 n0 n1]
      simp only [and_true]
      rw [up_k (by decide), up_k (by decide)]
    · rw [up_k (by decide), up_k (by decide), s1.2.2 j j0 j1, if_pos rfl]
      simp only
      rw [up_k (by decide), up_k (by decide)]
  · skip
    rw [if_pos (by omega)] at hQ
    refine J_iconst 0 dX0_takeBack_7 ⟨by decide, by decide⟩ ?_
    refine JM_zret rfl (by omega) dX0_takeBack_8 ?_
    exact hQ
