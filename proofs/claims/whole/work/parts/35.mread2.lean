set_option maxRecDepth 100000 in
set_option maxHeartbeats 4000000 in
theorem kX7_takesItem {X : Cx} {d : Nat} {ω : Om} {Q : Option MV → Om → Prop} {n c : Int} {s : RS} (h5 : s.1 = 7 ∨ s.1 = 8) (hR : RdM ω s) (hW : RW n s) (hc : -100 ≤ c ∧ c ≤ 1000) (hQ : ∀ (r : Int) (ω' : Om), TkM (rdS n c s) r ω' → RF ω ω' → Q (some (vI r)) ω') : Mc X mX7_takesItem (d + 2) [vR 29, vI c] ω Q := by
  obtain ⟨r, l, e1, e2⟩ := hW.2.2.2.2.2.1 (by omega)
  obtain ⟨a1, a2, a3, a4, a5, a6, a7⟩ := id hR
  have el : lastS s = r := by unfold lastS; rw [e1]
  have hrm : r ∈ s.2.2.1 := by rw [e1]; exact List.mem_cons_self
  have hB : ω 29 23 - 1 = nMth l := by rw [a5, e1]; simp only [nMth]; rw [if_pos e2]; omega
  have hB0 := (nMth_R l).1
  have hB6 : nMth l < 6 := by have := nMth_6 hW.2.2.1 hW.2.2.2.1; rw [e1] at this; simp only [nMth] at this; rw [if_pos e2] at this; omega
  have e42 : ω 42 (nMth l) = (s.2.2.2.2.2 r).length := by have := (a7 r hrm e2).2.1; rw [e1, bodyIx_s] at this; exact this
  have hL6 := hW.2.2.2.2.2.2.1 r hrm
  have hL8 : s.1 = 8 → (s.2.2.2.2.2 r).length < 6 := fun q => by have := hW.2.2.2.2.2.2.2.1 q; rw [el] at this; exact this
  have hmr := memS_R c
  have h41 : c = 41 → memS c = -1 := fun q => by rw [q]; rfl
  have h94 : c = 94 → memS c = -1 := fun q => by rw [q]; rfl
  have hnil : s.2.2.2.2.2 r = [] ↔ (s.2.2.2.2.2 r).length = 0 := List.length_eq_zero_iff.symm
  have hs : rdS n c s = if s.1 = 7 then itmS c s else askS c s := by
    rcases h5 with q | q
    · rw [rdS_7 q, if_pos q]
    · rw [rdS_8 q, if_neg (by omega)]
  rw [hs] at hQ
  unfold itmS askS at hQ
  rw [el] at hQ
  have hadd : (s.2.2.2.2.2 r).length < 6 → ∀ it, RdM (up (up (up ω 43 (6 * nMth l + (s.2.2.2.2.2 r).length) it) 42 (nMth l) ((s.2.2.2.2.2 r).length + 1)) 29 19 7) (addS s it) := fun q it => RdM_add hR hW e1 e2 q
  clear a6 a7 hW
  refine Mc_of [some (vR 29), some (vI c), none, none] (by decide +kernel) rfl (Nat.le_of_ble_eq_true rfl) ?_
  refine J_aload_n 0 dX7_takesItem_0 rfl ?_
  refine J_getI 23 lkF_X7_99 rfl rfl rfl dX7_takesItem_1 ?_
  refine J_iconst 1 dX7_takesItem_4 ⟨by decide, by decide⟩ ?_
  refine J_isub dX7_takesItem_5 ⟨by omega, by omega⟩ ?_
  refine J_istore_2 dX7_takesItem_6 (by decide) rfl ?_
  rw [hB]
  refine J_iload_n 1 dX7_takesItem_7 rfl ?_
  refine JM_S1 lkM_X7_85 dX7_takesItem_8 (by decide) (Nat.le_of_ble_eq_true rfl) ?_
  refine kX7_memberAt hc ?_
  generalize memS c = m at *
  refine J_istore_3 dX7_takesItem_11 (by decide) rfl ?_
  refine J_iload_n 1 dX7_takesItem_12 rfl ?_
  refine J_bipush 41 dX7_takesItem_13 ⟨by decide, by decide⟩ (by decide) ?_
  refine J_icmp_ne 43 dX7_takesItem_15 (by decide) (fun h15 => ?_) (fun h15 => ?_)
  · skip
    refine J_aload_n 0 dX7_takesItem_43 rfl ?_
    refine J_getR lkF_X7_47 rfl dX7_takesItem_44 ?_
    refine J_iload_n 2 dX7_takesItem_47 rfl ?_
    refine J_iaload _ rfl rfl (by omega) dX7_takesItem_48 ?_
    rw [e42]
    refine J_bipush 6 dX7_takesItem_49 ⟨by decide, by decide⟩ (by decide) ?_
    refine J_icmp_ne 56 dX7_takesItem_51 (by decide) (fun h51 => ?_) (fun h51 => ?_)
    · skip
      refine J_iload_n 1 dX7_takesItem_56 rfl ?_
      refine J_bipush 94 dX7_takesItem_57 ⟨by decide, by decide⟩ (by decide) ?_
      refine J_icmp_ne 79 dX7_takesItem_59 (by decide) (fun h59 => ?_) (fun h59 => ?_)
      · skip
        refine J_iload_n 3 dX7_takesItem_79 rfl ?_
        refine J_iconst (-1) dX7_takesItem_80 ⟨by decide, by decide⟩ ?_
        refine J_icmp_eq 99 dX7_takesItem_81 (by decide) (fun h81 => ?_) (fun h81 => ?_)
        · skip
          refine J_iconst 0 dX7_takesItem_99 ⟨by decide, by decide⟩ ?_
          refine JM_zret rfl (by omega) dX7_takesItem_100 ?_
          by_cases q7 : s.1 = 7
          · rw [if_pos q7] at hQ
            by_cases q41 : c = 41
            · rw [if_pos q41, if_pos (by rw [hnil]; omega)] at hQ
              exact hQ 0 ω (Or.inl ⟨rfl, rfl⟩) (RF.rf ω)
            · rw [if_neg q41, if_neg (by omega), if_neg (by omega), if_pos (by omega)] at hQ
              exact hQ 0 ω (Or.inl ⟨rfl, rfl⟩) (RF.rf ω)
          · rw [if_neg q7, if_neg (by omega)] at hQ
            exact hQ 0 ω (Or.inl ⟨rfl, rfl⟩) (RF.rf ω)
        · skip
          refine J_aload_n 0 dX7_takesItem_84 rfl ?_
          refine J_getI 19 lkF_X7_96 rfl rfl rfl dX7_takesItem_85 ?_
          refine J_bipush 8 dX7_takesItem_88 ⟨by decide, by decide⟩ (by decide) ?_
          refine J_icmp_ne 101 dX7_takesItem_90 (by decide) (fun h90 => ?_) (fun h90 => ?_)
          · skip
            refine J_aload_n 0 dX7_takesItem_101 rfl ?_
            refine J_getR lkF_X7_50 rfl dX7_takesItem_102 ?_
            refine J_bipush 6 dX7_takesItem_105 ⟨by decide, by decide⟩ (by decide) ?_
            refine J_iload_n 2 dX7_takesItem_107 rfl ?_
            refine J_imul dX7_takesItem_108 ⟨by omega, by omega⟩ ?_
            refine J_aload_n 0 dX7_takesItem_109 rfl ?_
            refine J_getR lkF_X7_47 rfl dX7_takesItem_110 ?_
            refine J_iload_n 2 dX7_takesItem_113 rfl ?_
            refine J_iaload _ rfl rfl (by omega) dX7_takesItem_114 ?_
            rw [e42]
            refine J_iadd dX7_takesItem_115 ⟨by omega, by omega⟩ ?_
            refine J_aload_n 0 dX7_takesItem_116 rfl ?_
            refine J_getI 19 lkF_X7_96 rfl rfl rfl dX7_takesItem_117 ?_
            refine J_bipush 8 dX7_takesItem_120 ⟨by decide, by decide⟩ (by decide) ?_
            refine J_icmp_ne 132 dX7_takesItem_122 (by decide) (fun h122 => ?_) (fun h122 => ?_)
            · skip
              refine J_iload_n 3 dX7_takesItem_132 rfl ?_
              refine J_iastore _ rfl (by omega) dX7_takesItem_133 ?_
              refine J_aload_n 0 dX7_takesItem_134 rfl ?_
              refine J_getR lkF_X7_47 rfl dX7_takesItem_135 ?_
              refine J_iload_n 2 dX7_takesItem_138 rfl ?_
              refine J_dup2 dX7_takesItem_139 ?_
              refine J_iaload _ rfl rfl (by omega) dX7_takesItem_140 ?_
              try simp (config := {decide := true}) only [up_s, up_k, up_i]
              rw [e42]
              refine J_iconst 1 dX7_takesItem_141 ⟨by decide, by decide⟩ ?_
              refine J_iadd dX7_takesItem_142 ⟨by omega, by omega⟩ ?_
              refine J_iastore _ rfl (by omega) dX7_takesItem_143 ?_
              refine J_aload_n 0 dX7_takesItem_144 rfl ?_
              refine J_bipush 7 dX7_takesItem_145 ⟨by decide, by decide⟩ (by decide) ?_
              refine J_putI 19 lkF_X7_96 rfl fp_7_19 rfl dX7_takesItem_147 ?_
              refine J_iconst 1 dX7_takesItem_150 ⟨by decide, by decide⟩ ?_
              refine JM_zret rfl (by omega) dX7_takesItem_151 ?_
              first
                | (rw [if_pos (by omega), if_neg (by omega), if_neg (by omega), if_neg (by omega), if_neg (by omega)] at hQ
                   exact hQ 1 _ (Or.inr ⟨_, rfl, rfl, hadd (by omega) _⟩) ((((RF.rf ω).uk (by decide)).uk (by decide)).u9 (by omega)))
                | (rw [if_neg (by omega), if_pos (by omega)] at hQ
                   exact hQ 1 _ (Or.inr ⟨_, rfl, rfl, hadd (by omega) _⟩) ((((RF.rf ω).uk (by decide)).uk (by decide)).u9 (by omega)))
                | (exfalso; omega)
            · skip
              refine J_bipush 20 dX7_takesItem_125 ⟨by decide, by decide⟩ (by decide) ?_
              refine J_iload_n 3 dX7_takesItem_127 rfl ?_
              refine J_iadd dX7_takesItem_128 ⟨by omega, by omega⟩ ?_
              refine J_goto 133 dX7_takesItem_129 (by decide) ?_
              refine J_iastore _ rfl (by omega) dX7_takesItem_133 ?_
              refine J_aload_n 0 dX7_takesItem_134 rfl ?_
              refine J_getR lkF_X7_47 rfl dX7_takesItem_135 ?_
              refine J_iload_n 2 dX7_takesItem_138 rfl ?_
              refine J_dup2 dX7_takesItem_139 ?_
              refine J_iaload _ rfl rfl (by omega) dX7_takesItem_140 ?_
              try simp (config := {decide := true}) only [up_s, up_k, up_i]
              rw [e42]
              refine J_iconst 1 dX7_takesItem_141 ⟨by decide, by decide⟩ ?_
              refine J_iadd dX7_takesItem_142 ⟨by omega, by omega⟩ ?_
              refine J_iastore _ rfl (by omega) dX7_takesItem_143 ?_
              refine J_aload_n 0 dX7_takesItem_144 rfl ?_
              refine J_bipush 7 dX7_takesItem_145 ⟨by decide, by decide⟩ (by decide) ?_
              refine J_putI 19 lkF_X7_96 rfl fp_7_19 rfl dX7_takesItem_147 ?_
              refine J_iconst 1 dX7_takesItem_150 ⟨by decide, by decide⟩ ?_
              refine JM_zret rfl (by omega) dX7_takesItem_151 ?_
              first
                | (rw [if_pos (by omega), if_neg (by omega), if_neg (by omega), if_neg (by omega), if_neg (by omega)] at hQ
                   exact hQ 1 _ (Or.inr ⟨_, rfl, rfl, hadd (by omega) _⟩) ((((RF.rf ω).uk (by decide)).uk (by decide)).u9 (by omega)))
                | (rw [if_neg (by omega), if_pos (by omega)] at hQ
                   exact hQ 1 _ (Or.inr ⟨_, rfl, rfl, hadd (by omega) _⟩) ((((RF.rf ω).uk (by decide)).uk (by decide)).u9 (by omega)))
                | (exfalso; omega)
          · skip
            refine J_iload_n 3 dX7_takesItem_93 rfl ?_
            refine J_bipush 6 dX7_takesItem_94 ⟨by decide, by decide⟩ (by decide) ?_
            refine J_icmp_lt 101 dX7_takesItem_96 (by decide) (fun h96 => ?_) (fun h96 => ?_)
            · skip
              refine J_aload_n 0 dX7_takesItem_101 rfl ?_
              refine J_getR lkF_X7_50 rfl dX7_takesItem_102 ?_
              refine J_bipush 6 dX7_takesItem_105 ⟨by decide, by decide⟩ (by decide) ?_
              refine J_iload_n 2 dX7_takesItem_107 rfl ?_
              refine J_imul dX7_takesItem_108 ⟨by omega, by omega⟩ ?_
              refine J_aload_n 0 dX7_takesItem_109 rfl ?_
              refine J_getR lkF_X7_47 rfl dX7_takesItem_110 ?_
              refine J_iload_n 2 dX7_takesItem_113 rfl ?_
              refine J_iaload _ rfl rfl (by omega) dX7_takesItem_114 ?_
              rw [e42]
              refine J_iadd dX7_takesItem_115 ⟨by omega, by omega⟩ ?_
              refine J_aload_n 0 dX7_takesItem_116 rfl ?_
              refine J_getI 19 lkF_X7_96 rfl rfl rfl dX7_takesItem_117 ?_
              refine J_bipush 8 dX7_takesItem_120 ⟨by decide, by decide⟩ (by decide) ?_
              refine J_icmp_ne 132 dX7_takesItem_122 (by decide) (fun h122 => ?_) (fun h122 => ?_)
              · skip
                refine J_iload_n 3 dX7_takesItem_132 rfl ?_
                refine J_iastore _ rfl (by omega) dX7_takesItem_133 ?_
                refine J_aload_n 0 dX7_takesItem_134 rfl ?_
                refine J_getR lkF_X7_47 rfl dX7_takesItem_135 ?_
                refine J_iload_n 2 dX7_takesItem_138 rfl ?_
                refine J_dup2 dX7_takesItem_139 ?_
                refine J_iaload _ rfl rfl (by omega) dX7_takesItem_140 ?_
                try simp (config := {decide := true}) only [up_s, up_k, up_i]
                rw [e42]
                refine J_iconst 1 dX7_takesItem_141 ⟨by decide, by decide⟩ ?_
                refine J_iadd dX7_takesItem_142 ⟨by omega, by omega⟩ ?_
                refine J_iastore _ rfl (by omega) dX7_takesItem_143 ?_
                refine J_aload_n 0 dX7_takesItem_144 rfl ?_
                refine J_bipush 7 dX7_takesItem_145 ⟨by decide, by decide⟩ (by decide) ?_
                refine J_putI 19 lkF_X7_96 rfl fp_7_19 rfl dX7_takesItem_147 ?_
                refine J_iconst 1 dX7_takesItem_150 ⟨by decide, by decide⟩ ?_
                refine JM_zret rfl (by omega) dX7_takesItem_151 ?_
                first
                  | (rw [if_pos (by omega), if_neg (by omega), if_neg (by omega), if_neg (by omega), if_neg (by omega)] at hQ
                     exact hQ 1 _ (Or.inr ⟨_, rfl, rfl, hadd (by omega) _⟩) ((((RF.rf ω).uk (by decide)).uk (by decide)).u9 (by omega)))
                  | (rw [if_neg (by omega), if_pos (by omega)] at hQ
                     exact hQ 1 _ (Or.inr ⟨_, rfl, rfl, hadd (by omega) _⟩) ((((RF.rf ω).uk (by decide)).uk (by decide)).u9 (by omega)))
                  | (exfalso; omega)
              · skip
                refine J_bipush 20 dX7_takesItem_125 ⟨by decide, by decide⟩ (by decide) ?_
                refine J_iload_n 3 dX7_takesItem_127 rfl ?_
                refine J_iadd dX7_takesItem_128 ⟨by omega, by omega⟩ ?_
                refine J_goto 133 dX7_takesItem_129 (by decide) ?_
                refine J_iastore _ rfl (by omega) dX7_takesItem_133 ?_
                refine J_aload_n 0 dX7_takesItem_134 rfl ?_
                refine J_getR lkF_X7_47 rfl dX7_takesItem_135 ?_
                refine J_iload_n 2 dX7_takesItem_138 rfl ?_
                refine J_dup2 dX7_takesItem_139 ?_
                refine J_iaload _ rfl rfl (by omega) dX7_takesItem_140 ?_
                try simp (config := {decide := true}) only [up_s, up_k, up_i]
                rw [e42]
                refine J_iconst 1 dX7_takesItem_141 ⟨by decide, by decide⟩ ?_
                refine J_iadd dX7_takesItem_142 ⟨by omega, by omega⟩ ?_
                refine J_iastore _ rfl (by omega) dX7_takesItem_143 ?_
                refine J_aload_n 0 dX7_takesItem_144 rfl ?_
                refine J_bipush 7 dX7_takesItem_145 ⟨by decide, by decide⟩ (by decide) ?_
                refine J_putI 19 lkF_X7_96 rfl fp_7_19 rfl dX7_takesItem_147 ?_
                refine J_iconst 1 dX7_takesItem_150 ⟨by decide, by decide⟩ ?_
                refine JM_zret rfl (by omega) dX7_takesItem_151 ?_
                first
                  | (rw [if_pos (by omega), if_neg (by omega), if_neg (by omega), if_neg (by omega), if_neg (by omega)] at hQ
                     exact hQ 1 _ (Or.inr ⟨_, rfl, rfl, hadd (by omega) _⟩) ((((RF.rf ω).uk (by decide)).uk (by decide)).u9 (by omega)))
                  | (rw [if_neg (by omega), if_pos (by omega)] at hQ
                     exact hQ 1 _ (Or.inr ⟨_, rfl, rfl, hadd (by omega) _⟩) ((((RF.rf ω).uk (by decide)).uk (by decide)).u9 (by omega)))
                  | (exfalso; omega)
            · skip
              refine J_iconst 0 dX7_takesItem_99 ⟨by decide, by decide⟩ ?_
              refine JM_zret rfl (by omega) dX7_takesItem_100 ?_
              by_cases q7 : s.1 = 7
              · rw [if_pos q7] at hQ
                by_cases q41 : c = 41
                · rw [if_pos q41, if_pos (by rw [hnil]; omega)] at hQ
                  exact hQ 0 ω (Or.inl ⟨rfl, rfl⟩) (RF.rf ω)
                · rw [if_neg q41, if_neg (by omega), if_neg (by omega), if_pos (by omega)] at hQ
                  exact hQ 0 ω (Or.inl ⟨rfl, rfl⟩) (RF.rf ω)
              · rw [if_neg q7, if_neg (by omega)] at hQ
                exact hQ 0 ω (Or.inl ⟨rfl, rfl⟩) (RF.rf ω)
      · skip
        refine J_aload_n 0 dX7_takesItem_62 rfl ?_
        refine J_getI 19 lkF_X7_96 rfl rfl rfl dX7_takesItem_63 ?_
        refine J_bipush 7 dX7_takesItem_66 ⟨by decide, by decide⟩ (by decide) ?_
        refine J_icmp_ne 79 dX7_takesItem_68 (by decide) (fun h68 => ?_) (fun h68 => ?_)
        · skip
          refine J_iload_n 3 dX7_takesItem_79 rfl ?_
          refine J_iconst (-1) dX7_takesItem_80 ⟨by decide, by decide⟩ ?_
          refine J_icmp_eq 99 dX7_takesItem_81 (by decide) (fun h81 => ?_) (fun h81 => ?_)
          · skip
            refine J_iconst 0 dX7_takesItem_99 ⟨by decide, by decide⟩ ?_
            refine JM_zret rfl (by omega) dX7_takesItem_100 ?_
            by_cases q7 : s.1 = 7
            · rw [if_pos q7] at hQ
              by_cases q41 : c = 41
              · rw [if_pos q41, if_pos (by rw [hnil]; omega)] at hQ
                exact hQ 0 ω (Or.inl ⟨rfl, rfl⟩) (RF.rf ω)
              · rw [if_neg q41, if_neg (by omega), if_neg (by omega), if_pos (by omega)] at hQ
                exact hQ 0 ω (Or.inl ⟨rfl, rfl⟩) (RF.rf ω)
            · rw [if_neg q7, if_neg (by omega)] at hQ
              exact hQ 0 ω (Or.inl ⟨rfl, rfl⟩) (RF.rf ω)
          · skip
            refine J_aload_n 0 dX7_takesItem_84 rfl ?_
            refine J_getI 19 lkF_X7_96 rfl rfl rfl dX7_takesItem_85 ?_
            refine J_bipush 8 dX7_takesItem_88 ⟨by decide, by decide⟩ (by decide) ?_
            refine J_icmp_ne 101 dX7_takesItem_90 (by decide) (fun h90 => ?_) (fun h90 => ?_)
            · skip
              refine J_aload_n 0 dX7_takesItem_101 rfl ?_
              refine J_getR lkF_X7_50 rfl dX7_takesItem_102 ?_
              refine J_bipush 6 dX7_takesItem_105 ⟨by decide, by decide⟩ (by decide) ?_
              refine J_iload_n 2 dX7_takesItem_107 rfl ?_
              refine J_imul dX7_takesItem_108 ⟨by omega, by omega⟩ ?_
              refine J_aload_n 0 dX7_takesItem_109 rfl ?_
              refine J_getR lkF_X7_47 rfl dX7_takesItem_110 ?_
              refine J_iload_n 2 dX7_takesItem_113 rfl ?_
              refine J_iaload _ rfl rfl (by omega) dX7_takesItem_114 ?_
              rw [e42]
              refine J_iadd dX7_takesItem_115 ⟨by omega, by omega⟩ ?_
              refine J_aload_n 0 dX7_takesItem_116 rfl ?_
              refine J_getI 19 lkF_X7_96 rfl rfl rfl dX7_takesItem_117 ?_
              refine J_bipush 8 dX7_takesItem_120 ⟨by decide, by decide⟩ (by decide) ?_
              refine J_icmp_ne 132 dX7_takesItem_122 (by decide) (fun h122 => ?_) (fun h122 => ?_)
              · skip
                refine J_iload_n 3 dX7_takesItem_132 rfl ?_
                refine J_iastore _ rfl (by omega) dX7_takesItem_133 ?_
                refine J_aload_n 0 dX7_takesItem_134 rfl ?_
                refine J_getR lkF_X7_47 rfl dX7_takesItem_135 ?_
                refine J_iload_n 2 dX7_takesItem_138 rfl ?_
                refine J_dup2 dX7_takesItem_139 ?_
                refine J_iaload _ rfl rfl (by omega) dX7_takesItem_140 ?_
                try simp (config := {decide := true}) only [up_s, up_k, up_i]
                rw [e42]
                refine J_iconst 1 dX7_takesItem_141 ⟨by decide, by decide⟩ ?_
                refine J_iadd dX7_takesItem_142 ⟨by omega, by omega⟩ ?_
                refine J_iastore _ rfl (by omega) dX7_takesItem_143 ?_
                refine J_aload_n 0 dX7_takesItem_144 rfl ?_
                refine J_bipush 7 dX7_takesItem_145 ⟨by decide, by decide⟩ (by decide) ?_
                refine J_putI 19 lkF_X7_96 rfl fp_7_19 rfl dX7_takesItem_147 ?_
                refine J_iconst 1 dX7_takesItem_150 ⟨by decide, by decide⟩ ?_
                refine JM_zret rfl (by omega) dX7_takesItem_151 ?_
                first
                  | (rw [if_pos (by omega), if_neg (by omega), if_neg (by omega), if_neg (by omega), if_neg (by omega)] at hQ
                     exact hQ 1 _ (Or.inr ⟨_, rfl, rfl, hadd (by omega) _⟩) ((((RF.rf ω).uk (by decide)).uk (by decide)).u9 (by omega)))
                  | (rw [if_neg (by omega), if_pos (by omega)] at hQ
                     exact hQ 1 _ (Or.inr ⟨_, rfl, rfl, hadd (by omega) _⟩) ((((RF.rf ω).uk (by decide)).uk (by decide)).u9 (by omega)))
                  | (exfalso; omega)
              · skip
                refine J_bipush 20 dX7_takesItem_125 ⟨by decide, by decide⟩ (by decide) ?_
                refine J_iload_n 3 dX7_takesItem_127 rfl ?_
                refine J_iadd dX7_takesItem_128 ⟨by omega, by omega⟩ ?_
                refine J_goto 133 dX7_takesItem_129 (by decide) ?_
                refine J_iastore _ rfl (by omega) dX7_takesItem_133 ?_
                refine J_aload_n 0 dX7_takesItem_134 rfl ?_
                refine J_getR lkF_X7_47 rfl dX7_takesItem_135 ?_
                refine J_iload_n 2 dX7_takesItem_138 rfl ?_
                refine J_dup2 dX7_takesItem_139 ?_
                refine J_iaload _ rfl rfl (by omega) dX7_takesItem_140 ?_
                try simp (config := {decide := true}) only [up_s, up_k, up_i]
                rw [e42]
                refine J_iconst 1 dX7_takesItem_141 ⟨by decide, by decide⟩ ?_
                refine J_iadd dX7_takesItem_142 ⟨by omega, by omega⟩ ?_
                refine J_iastore _ rfl (by omega) dX7_takesItem_143 ?_
                refine J_aload_n 0 dX7_takesItem_144 rfl ?_
                refine J_bipush 7 dX7_takesItem_145 ⟨by decide, by decide⟩ (by decide) ?_
                refine J_putI 19 lkF_X7_96 rfl fp_7_19 rfl dX7_takesItem_147 ?_
                refine J_iconst 1 dX7_takesItem_150 ⟨by decide, by decide⟩ ?_
                refine JM_zret rfl (by omega) dX7_takesItem_151 ?_
                first
                  | (rw [if_pos (by omega), if_neg (by omega), if_neg (by omega), if_neg (by omega), if_neg (by omega)] at hQ
                     exact hQ 1 _ (Or.inr ⟨_, rfl, rfl, hadd (by omega) _⟩) ((((RF.rf ω).uk (by decide)).uk (by decide)).u9 (by omega)))
                  | (rw [if_neg (by omega), if_pos (by omega)] at hQ
                     exact hQ 1 _ (Or.inr ⟨_, rfl, rfl, hadd (by omega) _⟩) ((((RF.rf ω).uk (by decide)).uk (by decide)).u9 (by omega)))
                  | (exfalso; omega)
            · skip
              refine J_iload_n 3 dX7_takesItem_93 rfl ?_
              refine J_bipush 6 dX7_takesItem_94 ⟨by decide, by decide⟩ (by decide) ?_
              refine J_icmp_lt 101 dX7_takesItem_96 (by decide) (fun h96 => ?_) (fun h96 => ?_)
              · skip
                refine J_aload_n 0 dX7_takesItem_101 rfl ?_
                refine J_getR lkF_X7_50 rfl dX7_takesItem_102 ?_
                refine J_bipush 6 dX7_takesItem_105 ⟨by decide, by decide⟩ (by decide) ?_
                refine J_iload_n 2 dX7_takesItem_107 rfl ?_
                refine J_imul dX7_takesItem_108 ⟨by omega, by omega⟩ ?_
                refine J_aload_n 0 dX7_takesItem_109 rfl ?_
                refine J_getR lkF_X7_47 rfl dX7_takesItem_110 ?_
                refine J_iload_n 2 dX7_takesItem_113 rfl ?_
                refine J_iaload _ rfl rfl (by omega) dX7_takesItem_114 ?_
                rw [e42]
                refine J_iadd dX7_takesItem_115 ⟨by omega, by omega⟩ ?_
                refine J_aload_n 0 dX7_takesItem_116 rfl ?_
                refine J_getI 19 lkF_X7_96 rfl rfl rfl dX7_takesItem_117 ?_
                refine J_bipush 8 dX7_takesItem_120 ⟨by decide, by decide⟩ (by decide) ?_
                refine J_icmp_ne 132 dX7_takesItem_122 (by decide) (fun h122 => ?_) (fun h122 => ?_)
                · skip
                  refine J_iload_n 3 dX7_takesItem_132 rfl ?_
                  refine J_iastore _ rfl (by omega) dX7_takesItem_133 ?_
                  refine J_aload_n 0 dX7_takesItem_134 rfl ?_
                  refine J_getR lkF_X7_47 rfl dX7_takesItem_135 ?_
                  refine J_iload_n 2 dX7_takesItem_138 rfl ?_
                  refine J_dup2 dX7_takesItem_139 ?_
                  refine J_iaload _ rfl rfl (by omega) dX7_takesItem_140 ?_
                  try simp (config := {decide := true}) only [up_s, up_k, up_i]
                  rw [e42]
                  refine J_iconst 1 dX7_takesItem_141 ⟨by decide, by decide⟩ ?_
                  refine J_iadd dX7_takesItem_142 ⟨by omega, by omega⟩ ?_
                  refine J_iastore _ rfl (by omega) dX7_takesItem_143 ?_
                  refine J_aload_n 0 dX7_takesItem_144 rfl ?_
                  refine J_bipush 7 dX7_takesItem_145 ⟨by decide, by decide⟩ (by decide) ?_
                  refine J_putI 19 lkF_X7_96 rfl fp_7_19 rfl dX7_takesItem_147 ?_
                  refine J_iconst 1 dX7_takesItem_150 ⟨by decide, by decide⟩ ?_
                  refine JM_zret rfl (by omega) dX7_takesItem_151 ?_
                  first
                    | (rw [if_pos (by omega), if_neg (by omega), if_neg (by omega), if_neg (by omega), if_neg (by omega)] at hQ
                       exact hQ 1 _ (Or.inr ⟨_, rfl, rfl, hadd (by omega) _⟩) ((((RF.rf ω).uk (by decide)).uk (by decide)).u9 (by omega)))
                    | (rw [if_neg (by omega), if_pos (by omega)] at hQ
                       exact hQ 1 _ (Or.inr ⟨_, rfl, rfl, hadd (by omega) _⟩) ((((RF.rf ω).uk (by decide)).uk (by decide)).u9 (by omega)))
                    | (exfalso; omega)
                · skip
                  refine J_bipush 20 dX7_takesItem_125 ⟨by decide, by decide⟩ (by decide) ?_
                  refine J_iload_n 3 dX7_takesItem_127 rfl ?_
                  refine J_iadd dX7_takesItem_128 ⟨by omega, by omega⟩ ?_
                  refine J_goto 133 dX7_takesItem_129 (by decide) ?_
                  refine J_iastore _ rfl (by omega) dX7_takesItem_133 ?_
                  refine J_aload_n 0 dX7_takesItem_134 rfl ?_
                  refine J_getR lkF_X7_47 rfl dX7_takesItem_135 ?_
                  refine J_iload_n 2 dX7_takesItem_138 rfl ?_
                  refine J_dup2 dX7_takesItem_139 ?_
                  refine J_iaload _ rfl rfl (by omega) dX7_takesItem_140 ?_
                  try simp (config := {decide := true}) only [up_s, up_k, up_i]
                  rw [e42]
                  refine J_iconst 1 dX7_takesItem_141 ⟨by decide, by decide⟩ ?_
                  refine J_iadd dX7_takesItem_142 ⟨by omega, by omega⟩ ?_
                  refine J_iastore _ rfl (by omega) dX7_takesItem_143 ?_
                  refine J_aload_n 0 dX7_takesItem_144 rfl ?_
                  refine J_bipush 7 dX7_takesItem_145 ⟨by decide, by decide⟩ (by decide) ?_
                  refine J_putI 19 lkF_X7_96 rfl fp_7_19 rfl dX7_takesItem_147 ?_
                  refine J_iconst 1 dX7_takesItem_150 ⟨by decide, by decide⟩ ?_
                  refine JM_zret rfl (by omega) dX7_takesItem_151 ?_
                  first
                    | (rw [if_pos (by omega), if_neg (by omega), if_neg (by omega), if_neg (by omega), if_neg (by omega)] at hQ
                       exact hQ 1 _ (Or.inr ⟨_, rfl, rfl, hadd (by omega) _⟩) ((((RF.rf ω).uk (by decide)).uk (by decide)).u9 (by omega)))
                    | (rw [if_neg (by omega), if_pos (by omega)] at hQ
                       exact hQ 1 _ (Or.inr ⟨_, rfl, rfl, hadd (by omega) _⟩) ((((RF.rf ω).uk (by decide)).uk (by decide)).u9 (by omega)))
                    | (exfalso; omega)
              · skip
                refine J_iconst 0 dX7_takesItem_99 ⟨by decide, by decide⟩ ?_
                refine JM_zret rfl (by omega) dX7_takesItem_100 ?_
                by_cases q7 : s.1 = 7
                · rw [if_pos q7] at hQ
                  by_cases q41 : c = 41
                  · rw [if_pos q41, if_pos (by rw [hnil]; omega)] at hQ
                    exact hQ 0 ω (Or.inl ⟨rfl, rfl⟩) (RF.rf ω)
                  · rw [if_neg q41, if_neg (by omega), if_neg (by omega), if_pos (by omega)] at hQ
                    exact hQ 0 ω (Or.inl ⟨rfl, rfl⟩) (RF.rf ω)
                · rw [if_neg q7, if_neg (by omega)] at hQ
                  exact hQ 0 ω (Or.inl ⟨rfl, rfl⟩) (RF.rf ω)
        · skip
          refine J_aload_n 0 dX7_takesItem_71 rfl ?_
          refine J_bipush 8 dX7_takesItem_72 ⟨by decide, by decide⟩ (by decide) ?_
          refine J_putI 19 lkF_X7_96 rfl fp_7_19 rfl dX7_takesItem_74 ?_
          refine J_iconst 1 dX7_takesItem_77 ⟨by decide, by decide⟩ ?_
          refine JM_zret rfl (by omega) dX7_takesItem_78 ?_
          rw [if_pos (by omega), if_neg (by omega), if_neg (by omega), if_pos (by omega)] at hQ
          exact hQ 1 _ (Or.inr ⟨_, rfl, rfl, RdM_go hR⟩) ((RF.rf ω).u9 (by omega))
    · skip
      refine J_iconst 0 dX7_takesItem_54 ⟨by decide, by decide⟩ ?_
      refine JM_zret rfl (by omega) dX7_takesItem_55 ?_
      rw [if_pos (by omega), if_neg (by omega), if_pos (by omega)] at hQ
      exact hQ 0 ω (Or.inl ⟨rfl, rfl⟩) (RF.rf ω)
  · skip
    refine J_aload_n 0 dX7_takesItem_18 rfl ?_
    refine J_getI 19 lkF_X7_96 rfl rfl rfl dX7_takesItem_19 ?_
    refine J_bipush 7 dX7_takesItem_22 ⟨by decide, by decide⟩ (by decide) ?_
    refine J_icmp_ne 43 dX7_takesItem_24 (by decide) (fun h24 => ?_) (fun h24 => ?_)
    · skip
      refine J_aload_n 0 dX7_takesItem_43 rfl ?_
      refine J_getR lkF_X7_47 rfl dX7_takesItem_44 ?_
      refine J_iload_n 2 dX7_takesItem_47 rfl ?_
      refine J_iaload _ rfl rfl (by omega) dX7_takesItem_48 ?_
      rw [e42]
      refine J_bipush 6 dX7_takesItem_49 ⟨by decide, by decide⟩ (by decide) ?_
      refine J_icmp_ne 56 dX7_takesItem_51 (by decide) (fun h51 => ?_) (fun h51 => ?_)
      · skip
        refine J_iload_n 1 dX7_takesItem_56 rfl ?_
        refine J_bipush 94 dX7_takesItem_57 ⟨by decide, by decide⟩ (by decide) ?_
        refine J_icmp_ne 79 dX7_takesItem_59 (by decide) (fun h59 => ?_) (fun h59 => ?_)
        · skip
          refine J_iload_n 3 dX7_takesItem_79 rfl ?_
          refine J_iconst (-1) dX7_takesItem_80 ⟨by decide, by decide⟩ ?_
          refine J_icmp_eq 99 dX7_takesItem_81 (by decide) (fun h81 => ?_) (fun h81 => ?_)
          · skip
            refine J_iconst 0 dX7_takesItem_99 ⟨by decide, by decide⟩ ?_
            refine JM_zret rfl (by omega) dX7_takesItem_100 ?_
            by_cases q7 : s.1 = 7
            · rw [if_pos q7] at hQ
              by_cases q41 : c = 41
              · rw [if_pos q41, if_pos (by rw [hnil]; omega)] at hQ
                exact hQ 0 ω (Or.inl ⟨rfl, rfl⟩) (RF.rf ω)
              · rw [if_neg q41, if_neg (by omega), if_neg (by omega), if_pos (by omega)] at hQ
                exact hQ 0 ω (Or.inl ⟨rfl, rfl⟩) (RF.rf ω)
            · rw [if_neg q7, if_neg (by omega)] at hQ
              exact hQ 0 ω (Or.inl ⟨rfl, rfl⟩) (RF.rf ω)
          · skip
            refine J_aload_n 0 dX7_takesItem_84 rfl ?_
            refine J_getI 19 lkF_X7_96 rfl rfl rfl dX7_takesItem_85 ?_
            refine J_bipush 8 dX7_takesItem_88 ⟨by decide, by decide⟩ (by decide) ?_
            refine J_icmp_ne 101 dX7_takesItem_90 (by decide) (fun h90 => ?_) (fun h90 => ?_)
            · skip
              refine J_aload_n 0 dX7_takesItem_101 rfl ?_
              refine J_getR lkF_X7_50 rfl dX7_takesItem_102 ?_
              refine J_bipush 6 dX7_takesItem_105 ⟨by decide, by decide⟩ (by decide) ?_
              refine J_iload_n 2 dX7_takesItem_107 rfl ?_
              refine J_imul dX7_takesItem_108 ⟨by omega, by omega⟩ ?_
              refine J_aload_n 0 dX7_takesItem_109 rfl ?_
              refine J_getR lkF_X7_47 rfl dX7_takesItem_110 ?_
              refine J_iload_n 2 dX7_takesItem_113 rfl ?_
              refine J_iaload _ rfl rfl (by omega) dX7_takesItem_114 ?_
              rw [e42]
              refine J_iadd dX7_takesItem_115 ⟨by omega, by omega⟩ ?_
              refine J_aload_n 0 dX7_takesItem_116 rfl ?_
              refine J_getI 19 lkF_X7_96 rfl rfl rfl dX7_takesItem_117 ?_
              refine J_bipush 8 dX7_takesItem_120 ⟨by decide, by decide⟩ (by decide) ?_
              refine J_icmp_ne 132 dX7_takesItem_122 (by decide) (fun h122 => ?_) (fun h122 => ?_)
              · skip
                refine J_iload_n 3 dX7_takesItem_132 rfl ?_
                refine J_iastore _ rfl (by omega) dX7_takesItem_133 ?_
                refine J_aload_n 0 dX7_takesItem_134 rfl ?_
                refine J_getR lkF_X7_47 rfl dX7_takesItem_135 ?_
                refine J_iload_n 2 dX7_takesItem_138 rfl ?_
                refine J_dup2 dX7_takesItem_139 ?_
                refine J_iaload _ rfl rfl (by omega) dX7_takesItem_140 ?_
                try simp (config := {decide := true}) only [up_s, up_k, up_i]
                rw [e42]
                refine J_iconst 1 dX7_takesItem_141 ⟨by decide, by decide⟩ ?_
                refine J_iadd dX7_takesItem_142 ⟨by omega, by omega⟩ ?_
                refine J_iastore _ rfl (by omega) dX7_takesItem_143 ?_
                refine J_aload_n 0 dX7_takesItem_144 rfl ?_
                refine J_bipush 7 dX7_takesItem_145 ⟨by decide, by decide⟩ (by decide) ?_
                refine J_putI 19 lkF_X7_96 rfl fp_7_19 rfl dX7_takesItem_147 ?_
                refine J_iconst 1 dX7_takesItem_150 ⟨by decide, by decide⟩ ?_
                refine JM_zret rfl (by omega) dX7_takesItem_151 ?_
                first
                  | (rw [if_pos (by omega), if_neg (by omega), if_neg (by omega), if_neg (by omega), if_neg (by omega)] at hQ
                     exact hQ 1 _ (Or.inr ⟨_, rfl, rfl, hadd (by omega) _⟩) ((((RF.rf ω).uk (by decide)).uk (by decide)).u9 (by omega)))
                  | (rw [if_neg (by omega), if_pos (by omega)] at hQ
                     exact hQ 1 _ (Or.inr ⟨_, rfl, rfl, hadd (by omega) _⟩) ((((RF.rf ω).uk (by decide)).uk (by decide)).u9 (by omega)))
                  | (exfalso; omega)
              · skip
                refine J_bipush 20 dX7_takesItem_125 ⟨by decide, by decide⟩ (by decide) ?_
                refine J_iload_n 3 dX7_takesItem_127 rfl ?_
                refine J_iadd dX7_takesItem_128 ⟨by omega, by omega⟩ ?_
                refine J_goto 133 dX7_takesItem_129 (by decide) ?_
                refine J_iastore _ rfl (by omega) dX7_takesItem_133 ?_
                refine J_aload_n 0 dX7_takesItem_134 rfl ?_
                refine J_getR lkF_X7_47 rfl dX7_takesItem_135 ?_
                refine J_iload_n 2 dX7_takesItem_138 rfl ?_
                refine J_dup2 dX7_takesItem_139 ?_
                refine J_iaload _ rfl rfl (by omega) dX7_takesItem_140 ?_
                try simp (config := {decide := true}) only [up_s, up_k, up_i]
                rw [e42]
                refine J_iconst 1 dX7_takesItem_141 ⟨by decide, by decide⟩ ?_
                refine J_iadd dX7_takesItem_142 ⟨by omega, by omega⟩ ?_
                refine J_iastore _ rfl (by omega) dX7_takesItem_143 ?_
                refine J_aload_n 0 dX7_takesItem_144 rfl ?_
                refine J_bipush 7 dX7_takesItem_145 ⟨by decide, by decide⟩ (by decide) ?_
                refine J_putI 19 lkF_X7_96 rfl fp_7_19 rfl dX7_takesItem_147 ?_
                refine J_iconst 1 dX7_takesItem_150 ⟨by decide, by decide⟩ ?_
                refine JM_zret rfl (by omega) dX7_takesItem_151 ?_
                first
                  | (rw [if_pos (by omega), if_neg (by omega), if_neg (by omega), if_neg (by omega), if_neg (by omega)] at hQ
                     exact hQ 1 _ (Or.inr ⟨_, rfl, rfl, hadd (by omega) _⟩) ((((RF.rf ω).uk (by decide)).uk (by decide)).u9 (by omega)))
                  | (rw [if_neg (by omega), if_pos (by omega)] at hQ
                     exact hQ 1 _ (Or.inr ⟨_, rfl, rfl, hadd (by omega) _⟩) ((((RF.rf ω).uk (by decide)).uk (by decide)).u9 (by omega)))
                  | (exfalso; omega)
            · skip
              refine J_iload_n 3 dX7_takesItem_93 rfl ?_
              refine J_bipush 6 dX7_takesItem_94 ⟨by decide, by decide⟩ (by decide) ?_
              refine J_icmp_lt 101 dX7_takesItem_96 (by decide) (fun h96 => ?_) (fun h96 => ?_)
              · skip
                refine J_aload_n 0 dX7_takesItem_101 rfl ?_
                refine J_getR lkF_X7_50 rfl dX7_takesItem_102 ?_
                refine J_bipush 6 dX7_takesItem_105 ⟨by decide, by decide⟩ (by decide) ?_
                refine J_iload_n 2 dX7_takesItem_107 rfl ?_
                refine J_imul dX7_takesItem_108 ⟨by omega, by omega⟩ ?_
                refine J_aload_n 0 dX7_takesItem_109 rfl ?_
                refine J_getR lkF_X7_47 rfl dX7_takesItem_110 ?_
                refine J_iload_n 2 dX7_takesItem_113 rfl ?_
                refine J_iaload _ rfl rfl (by omega) dX7_takesItem_114 ?_
                rw [e42]
                refine J_iadd dX7_takesItem_115 ⟨by omega, by omega⟩ ?_
                refine J_aload_n 0 dX7_takesItem_116 rfl ?_
                refine J_getI 19 lkF_X7_96 rfl rfl rfl dX7_takesItem_117 ?_
                refine J_bipush 8 dX7_takesItem_120 ⟨by decide, by decide⟩ (by decide) ?_
                refine J_icmp_ne 132 dX7_takesItem_122 (by decide) (fun h122 => ?_) (fun h122 => ?_)
                · skip
                  refine J_iload_n 3 dX7_takesItem_132 rfl ?_
                  refine J_iastore _ rfl (by omega) dX7_takesItem_133 ?_
                  refine J_aload_n 0 dX7_takesItem_134 rfl ?_
                  refine J_getR lkF_X7_47 rfl dX7_takesItem_135 ?_
                  refine J_iload_n 2 dX7_takesItem_138 rfl ?_
                  refine J_dup2 dX7_takesItem_139 ?_
                  refine J_iaload _ rfl rfl (by omega) dX7_takesItem_140 ?_
                  try simp (config := {decide := true}) only [up_s, up_k, up_i]
                  rw [e42]
                  refine J_iconst 1 dX7_takesItem_141 ⟨by decide, by decide⟩ ?_
                  refine J_iadd dX7_takesItem_142 ⟨by omega, by omega⟩ ?_
                  refine J_iastore _ rfl (by omega) dX7_takesItem_143 ?_
                  refine J_aload_n 0 dX7_takesItem_144 rfl ?_
                  refine J_bipush 7 dX7_takesItem_145 ⟨by decide, by decide⟩ (by decide) ?_
                  refine J_putI 19 lkF_X7_96 rfl fp_7_19 rfl dX7_takesItem_147 ?_
                  refine J_iconst 1 dX7_takesItem_150 ⟨by decide, by decide⟩ ?_
                  refine JM_zret rfl (by omega) dX7_takesItem_151 ?_
                  first
                    | (rw [if_pos (by omega), if_neg (by omega), if_neg (by omega), if_neg (by omega), if_neg (by omega)] at hQ
                       exact hQ 1 _ (Or.inr ⟨_, rfl, rfl, hadd (by omega) _⟩) ((((RF.rf ω).uk (by decide)).uk (by decide)).u9 (by omega)))
                    | (rw [if_neg (by omega), if_pos (by omega)] at hQ
                       exact hQ 1 _ (Or.inr ⟨_, rfl, rfl, hadd (by omega) _⟩) ((((RF.rf ω).uk (by decide)).uk (by decide)).u9 (by omega)))
                    | (exfalso; omega)
                · skip
                  refine J_bipush 20 dX7_takesItem_125 ⟨by decide, by decide⟩ (by decide) ?_
                  refine J_iload_n 3 dX7_takesItem_127 rfl ?_
                  refine J_iadd dX7_takesItem_128 ⟨by omega, by omega⟩ ?_
                  refine J_goto 133 dX7_takesItem_129 (by decide) ?_
                  refine J_iastore _ rfl (by omega) dX7_takesItem_133 ?_
                  refine J_aload_n 0 dX7_takesItem_134 rfl ?_
                  refine J_getR lkF_X7_47 rfl dX7_takesItem_135 ?_
                  refine J_iload_n 2 dX7_takesItem_138 rfl ?_
                  refine J_dup2 dX7_takesItem_139 ?_
                  refine J_iaload _ rfl rfl (by omega) dX7_takesItem_140 ?_
                  try simp (config := {decide := true}) only [up_s, up_k, up_i]
                  rw [e42]
                  refine J_iconst 1 dX7_takesItem_141 ⟨by decide, by decide⟩ ?_
                  refine J_iadd dX7_takesItem_142 ⟨by omega, by omega⟩ ?_
                  refine J_iastore _ rfl (by omega) dX7_takesItem_143 ?_
                  refine J_aload_n 0 dX7_takesItem_144 rfl ?_
                  refine J_bipush 7 dX7_takesItem_145 ⟨by decide, by decide⟩ (by decide) ?_
                  refine J_putI 19 lkF_X7_96 rfl fp_7_19 rfl dX7_takesItem_147 ?_
                  refine J_iconst 1 dX7_takesItem_150 ⟨by decide, by decide⟩ ?_
                  refine JM_zret rfl (by omega) dX7_takesItem_151 ?_
                  first
                    | (rw [if_pos (by omega), if_neg (by omega), if_neg (by omega), if_neg (by omega), if_neg (by omega)] at hQ
                       exact hQ 1 _ (Or.inr ⟨_, rfl, rfl, hadd (by omega) _⟩) ((((RF.rf ω).uk (by decide)).uk (by decide)).u9 (by omega)))
                    | (rw [if_neg (by omega), if_pos (by omega)] at hQ
                       exact hQ 1 _ (Or.inr ⟨_, rfl, rfl, hadd (by omega) _⟩) ((((RF.rf ω).uk (by decide)).uk (by decide)).u9 (by omega)))
                    | (exfalso; omega)
              · skip
                refine J_iconst 0 dX7_takesItem_99 ⟨by decide, by decide⟩ ?_
                refine JM_zret rfl (by omega) dX7_takesItem_100 ?_
                by_cases q7 : s.1 = 7
                · rw [if_pos q7] at hQ
                  by_cases q41 : c = 41
                  · rw [if_pos q41, if_pos (by rw [hnil]; omega)] at hQ
                    exact hQ 0 ω (Or.inl ⟨rfl, rfl⟩) (RF.rf ω)
                  · rw [if_neg q41, if_neg (by omega), if_neg (by omega), if_pos (by omega)] at hQ
                    exact hQ 0 ω (Or.inl ⟨rfl, rfl⟩) (RF.rf ω)
                · rw [if_neg q7, if_neg (by omega)] at hQ
                  exact hQ 0 ω (Or.inl ⟨rfl, rfl⟩) (RF.rf ω)
        · skip
          refine J_aload_n 0 dX7_takesItem_62 rfl ?_
          refine J_getI 19 lkF_X7_96 rfl rfl rfl dX7_takesItem_63 ?_
          refine J_bipush 7 dX7_takesItem_66 ⟨by decide, by decide⟩ (by decide) ?_
          refine J_icmp_ne 79 dX7_takesItem_68 (by decide) (fun h68 => ?_) (fun h68 => ?_)
          · skip
            refine J_iload_n 3 dX7_takesItem_79 rfl ?_
            refine J_iconst (-1) dX7_takesItem_80 ⟨by decide, by decide⟩ ?_
            refine J_icmp_eq 99 dX7_takesItem_81 (by decide) (fun h81 => ?_) (fun h81 => ?_)
            · skip
              refine J_iconst 0 dX7_takesItem_99 ⟨by decide, by decide⟩ ?_
              refine JM_zret rfl (by omega) dX7_takesItem_100 ?_
              by_cases q7 : s.1 = 7
              · rw [if_pos q7] at hQ
                by_cases q41 : c = 41
                · rw [if_pos q41, if_pos (by rw [hnil]; omega)] at hQ
                  exact hQ 0 ω (Or.inl ⟨rfl, rfl⟩) (RF.rf ω)
                · rw [if_neg q41, if_neg (by omega), if_neg (by omega), if_pos (by omega)] at hQ
                  exact hQ 0 ω (Or.inl ⟨rfl, rfl⟩) (RF.rf ω)
              · rw [if_neg q7, if_neg (by omega)] at hQ
                exact hQ 0 ω (Or.inl ⟨rfl, rfl⟩) (RF.rf ω)
            · skip
              refine J_aload_n 0 dX7_takesItem_84 rfl ?_
              refine J_getI 19 lkF_X7_96 rfl rfl rfl dX7_takesItem_85 ?_
              refine J_bipush 8 dX7_takesItem_88 ⟨by decide, by decide⟩ (by decide) ?_
              refine J_icmp_ne 101 dX7_takesItem_90 (by decide) (fun h90 => ?_) (fun h90 => ?_)
              · skip
                refine J_aload_n 0 dX7_takesItem_101 rfl ?_
                refine J_getR lkF_X7_50 rfl dX7_takesItem_102 ?_
                refine J_bipush 6 dX7_takesItem_105 ⟨by decide, by decide⟩ (by decide) ?_
                refine J_iload_n 2 dX7_takesItem_107 rfl ?_
                refine J_imul dX7_takesItem_108 ⟨by omega, by omega⟩ ?_
                refine J_aload_n 0 dX7_takesItem_109 rfl ?_
                refine J_getR lkF_X7_47 rfl dX7_takesItem_110 ?_
                refine J_iload_n 2 dX7_takesItem_113 rfl ?_
                refine J_iaload _ rfl rfl (by omega) dX7_takesItem_114 ?_
                rw [e42]
                refine J_iadd dX7_takesItem_115 ⟨by omega, by omega⟩ ?_
                refine J_aload_n 0 dX7_takesItem_116 rfl ?_
                refine J_getI 19 lkF_X7_96 rfl rfl rfl dX7_takesItem_117 ?_
                refine J_bipush 8 dX7_takesItem_120 ⟨by decide, by decide⟩ (by decide) ?_
                refine J_icmp_ne 132 dX7_takesItem_122 (by decide) (fun h122 => ?_) (fun h122 => ?_)
                · skip
                  refine J_iload_n 3 dX7_takesItem_132 rfl ?_
                  refine J_iastore _ rfl (by omega) dX7_takesItem_133 ?_
                  refine J_aload_n 0 dX7_takesItem_134 rfl ?_
                  refine J_getR lkF_X7_47 rfl dX7_takesItem_135 ?_
                  refine J_iload_n 2 dX7_takesItem_138 rfl ?_
                  refine J_dup2 dX7_takesItem_139 ?_
                  refine J_iaload _ rfl rfl (by omega) dX7_takesItem_140 ?_
                  try simp (config := {decide := true}) only [up_s, up_k, up_i]
                  rw [e42]
                  refine J_iconst 1 dX7_takesItem_141 ⟨by decide, by decide⟩ ?_
                  refine J_iadd dX7_takesItem_142 ⟨by omega, by omega⟩ ?_
                  refine J_iastore _ rfl (by omega) dX7_takesItem_143 ?_
                  refine J_aload_n 0 dX7_takesItem_144 rfl ?_
                  refine J_bipush 7 dX7_takesItem_145 ⟨by decide, by decide⟩ (by decide) ?_
                  refine J_putI 19 lkF_X7_96 rfl fp_7_19 rfl dX7_takesItem_147 ?_
                  refine J_iconst 1 dX7_takesItem_150 ⟨by decide, by decide⟩ ?_
                  refine JM_zret rfl (by omega) dX7_takesItem_151 ?_
                  first
                    | (rw [if_pos (by omega), if_neg (by omega), if_neg (by omega), if_neg (by omega), if_neg (by omega)] at hQ
                       exact hQ 1 _ (Or.inr ⟨_, rfl, rfl, hadd (by omega) _⟩) ((((RF.rf ω).uk (by decide)).uk (by decide)).u9 (by omega)))
                    | (rw [if_neg (by omega), if_pos (by omega)] at hQ
                       exact hQ 1 _ (Or.inr ⟨_, rfl, rfl, hadd (by omega) _⟩) ((((RF.rf ω).uk (by decide)).uk (by decide)).u9 (by omega)))
                    | (exfalso; omega)
                · skip
                  refine J_bipush 20 dX7_takesItem_125 ⟨by decide, by decide⟩ (by decide) ?_
                  refine J_iload_n 3 dX7_takesItem_127 rfl ?_
                  refine J_iadd dX7_takesItem_128 ⟨by omega, by omega⟩ ?_
                  refine J_goto 133 dX7_takesItem_129 (by decide) ?_
                  refine J_iastore _ rfl (by omega) dX7_takesItem_133 ?_
                  refine J_aload_n 0 dX7_takesItem_134 rfl ?_
                  refine J_getR lkF_X7_47 rfl dX7_takesItem_135 ?_
                  refine J_iload_n 2 dX7_takesItem_138 rfl ?_
                  refine J_dup2 dX7_takesItem_139 ?_
                  refine J_iaload _ rfl rfl (by omega) dX7_takesItem_140 ?_
                  try simp (config := {decide := true}) only [up_s, up_k, up_i]
                  rw [e42]
                  refine J_iconst 1 dX7_takesItem_141 ⟨by decide, by decide⟩ ?_
                  refine J_iadd dX7_takesItem_142 ⟨by omega, by omega⟩ ?_
                  refine J_iastore _ rfl (by omega) dX7_takesItem_143 ?_
                  refine J_aload_n 0 dX7_takesItem_144 rfl ?_
                  refine J_bipush 7 dX7_takesItem_145 ⟨by decide, by decide⟩ (by decide) ?_
                  refine J_putI 19 lkF_X7_96 rfl fp_7_19 rfl dX7_takesItem_147 ?_
                  refine J_iconst 1 dX7_takesItem_150 ⟨by decide, by decide⟩ ?_
                  refine JM_zret rfl (by omega) dX7_takesItem_151 ?_
                  first
                    | (rw [if_pos (by omega), if_neg (by omega), if_neg (by omega), if_neg (by omega), if_neg (by omega)] at hQ
                       exact hQ 1 _ (Or.inr ⟨_, rfl, rfl, hadd (by omega) _⟩) ((((RF.rf ω).uk (by decide)).uk (by decide)).u9 (by omega)))
                    | (rw [if_neg (by omega), if_pos (by omega)] at hQ
                       exact hQ 1 _ (Or.inr ⟨_, rfl, rfl, hadd (by omega) _⟩) ((((RF.rf ω).uk (by decide)).uk (by decide)).u9 (by omega)))
                    | (exfalso; omega)
              · skip
                refine J_iload_n 3 dX7_takesItem_93 rfl ?_
                refine J_bipush 6 dX7_takesItem_94 ⟨by decide, by decide⟩ (by decide) ?_
                refine J_icmp_lt 101 dX7_takesItem_96 (by decide) (fun h96 => ?_) (fun h96 => ?_)
                · skip
                  refine J_aload_n 0 dX7_takesItem_101 rfl ?_
                  refine J_getR lkF_X7_50 rfl dX7_takesItem_102 ?_
                  refine J_bipush 6 dX7_takesItem_105 ⟨by decide, by decide⟩ (by decide) ?_
                  refine J_iload_n 2 dX7_takesItem_107 rfl ?_
                  refine J_imul dX7_takesItem_108 ⟨by omega, by omega⟩ ?_
                  refine J_aload_n 0 dX7_takesItem_109 rfl ?_
                  refine J_getR lkF_X7_47 rfl dX7_takesItem_110 ?_
                  refine J_iload_n 2 dX7_takesItem_113 rfl ?_
                  refine J_iaload _ rfl rfl (by omega) dX7_takesItem_114 ?_
                  rw [e42]
                  refine J_iadd dX7_takesItem_115 ⟨by omega, by omega⟩ ?_
                  refine J_aload_n 0 dX7_takesItem_116 rfl ?_
                  refine J_getI 19 lkF_X7_96 rfl rfl rfl dX7_takesItem_117 ?_
                  refine J_bipush 8 dX7_takesItem_120 ⟨by decide, by decide⟩ (by decide) ?_
                  refine J_icmp_ne 132 dX7_takesItem_122 (by decide) (fun h122 => ?_) (fun h122 => ?_)
                  · skip
                    refine J_iload_n 3 dX7_takesItem_132 rfl ?_
                    refine J_iastore _ rfl (by omega) dX7_takesItem_133 ?_
                    refine J_aload_n 0 dX7_takesItem_134 rfl ?_
                    refine J_getR lkF_X7_47 rfl dX7_takesItem_135 ?_
                    refine J_iload_n 2 dX7_takesItem_138 rfl ?_
                    refine J_dup2 dX7_takesItem_139 ?_
                    refine J_iaload _ rfl rfl (by omega) dX7_takesItem_140 ?_
                    try simp (config := {decide := true}) only [up_s, up_k, up_i]
                    rw [e42]
                    refine J_iconst 1 dX7_takesItem_141 ⟨by decide, by decide⟩ ?_
                    refine J_iadd dX7_takesItem_142 ⟨by omega, by omega⟩ ?_
                    refine J_iastore _ rfl (by omega) dX7_takesItem_143 ?_
                    refine J_aload_n 0 dX7_takesItem_144 rfl ?_
                    refine J_bipush 7 dX7_takesItem_145 ⟨by decide, by decide⟩ (by decide) ?_
                    refine J_putI 19 lkF_X7_96 rfl fp_7_19 rfl dX7_takesItem_147 ?_
                    refine J_iconst 1 dX7_takesItem_150 ⟨by decide, by decide⟩ ?_
                    refine JM_zret rfl (by omega) dX7_takesItem_151 ?_
                    first
                      | (rw [if_pos (by omega), if_neg (by omega), if_neg (by omega), if_neg (by omega), if_neg (by omega)] at hQ
                         exact hQ 1 _ (Or.inr ⟨_, rfl, rfl, hadd (by omega) _⟩) ((((RF.rf ω).uk (by decide)).uk (by decide)).u9 (by omega)))
                      | (rw [if_neg (by omega), if_pos (by omega)] at hQ
                         exact hQ 1 _ (Or.inr ⟨_, rfl, rfl, hadd (by omega) _⟩) ((((RF.rf ω).uk (by decide)).uk (by decide)).u9 (by omega)))
                      | (exfalso; omega)
                  · skip
                    refine J_bipush 20 dX7_takesItem_125 ⟨by decide, by decide⟩ (by decide) ?_
                    refine J_iload_n 3 dX7_takesItem_127 rfl ?_
                    refine J_iadd dX7_takesItem_128 ⟨by omega, by omega⟩ ?_
                    refine J_goto 133 dX7_takesItem_129 (by decide) ?_
                    refine J_iastore _ rfl (by omega) dX7_takesItem_133 ?_
                    refine J_aload_n 0 dX7_takesItem_134 rfl ?_
                    refine J_getR lkF_X7_47 rfl dX7_takesItem_135 ?_
                    refine J_iload_n 2 dX7_takesItem_138 rfl ?_
                    refine J_dup2 dX7_takesItem_139 ?_
                    refine J_iaload _ rfl rfl (by omega) dX7_takesItem_140 ?_
                    try simp (config := {decide := true}) only [up_s, up_k, up_i]
                    rw [e42]
                    refine J_iconst 1 dX7_takesItem_141 ⟨by decide, by decide⟩ ?_
                    refine J_iadd dX7_takesItem_142 ⟨by omega, by omega⟩ ?_
                    refine J_iastore _ rfl (by omega) dX7_takesItem_143 ?_
                    refine J_aload_n 0 dX7_takesItem_144 rfl ?_
                    refine J_bipush 7 dX7_takesItem_145 ⟨by decide, by decide⟩ (by decide) ?_
                    refine J_putI 19 lkF_X7_96 rfl fp_7_19 rfl dX7_takesItem_147 ?_
                    refine J_iconst 1 dX7_takesItem_150 ⟨by decide, by decide⟩ ?_
                    refine JM_zret rfl (by omega) dX7_takesItem_151 ?_
                    first
                      | (rw [if_pos (by omega), if_neg (by omega), if_neg (by omega), if_neg (by omega), if_neg (by omega)] at hQ
                         exact hQ 1 _ (Or.inr ⟨_, rfl, rfl, hadd (by omega) _⟩) ((((RF.rf ω).uk (by decide)).uk (by decide)).u9 (by omega)))
                      | (rw [if_neg (by omega), if_pos (by omega)] at hQ
                         exact hQ 1 _ (Or.inr ⟨_, rfl, rfl, hadd (by omega) _⟩) ((((RF.rf ω).uk (by decide)).uk (by decide)).u9 (by omega)))
                      | (exfalso; omega)
                · skip
                  refine J_iconst 0 dX7_takesItem_99 ⟨by decide, by decide⟩ ?_
                  refine JM_zret rfl (by omega) dX7_takesItem_100 ?_
                  by_cases q7 : s.1 = 7
                  · rw [if_pos q7] at hQ
                    by_cases q41 : c = 41
                    · rw [if_pos q41, if_pos (by rw [hnil]; omega)] at hQ
                      exact hQ 0 ω (Or.inl ⟨rfl, rfl⟩) (RF.rf ω)
                    · rw [if_neg q41, if_neg (by omega), if_neg (by omega), if_pos (by omega)] at hQ
                      exact hQ 0 ω (Or.inl ⟨rfl, rfl⟩) (RF.rf ω)
                  · rw [if_neg q7, if_neg (by omega)] at hQ
                    exact hQ 0 ω (Or.inl ⟨rfl, rfl⟩) (RF.rf ω)
          · skip
            refine J_aload_n 0 dX7_takesItem_71 rfl ?_
            refine J_bipush 8 dX7_takesItem_72 ⟨by decide, by decide⟩ (by decide) ?_
            refine J_putI 19 lkF_X7_96 rfl fp_7_19 rfl dX7_takesItem_74 ?_
            refine J_iconst 1 dX7_takesItem_77 ⟨by decide, by decide⟩ ?_
            refine JM_zret rfl (by omega) dX7_takesItem_78 ?_
            rw [if_pos (by omega), if_neg (by omega), if_neg (by omega), if_pos (by omega)] at hQ
            exact hQ 1 _ (Or.inr ⟨_, rfl, rfl, RdM_go hR⟩) ((RF.rf ω).u9 (by omega))
      · skip
        refine J_iconst 0 dX7_takesItem_54 ⟨by decide, by decide⟩ ?_
        refine JM_zret rfl (by omega) dX7_takesItem_55 ?_
        rw [if_pos (by omega), if_neg (by omega), if_pos (by omega)] at hQ
        exact hQ 0 ω (Or.inl ⟨rfl, rfl⟩) (RF.rf ω)
    · skip
      refine J_aload_n 0 dX7_takesItem_27 rfl ?_
      refine J_getR lkF_X7_47 rfl dX7_takesItem_28 ?_
      refine J_iload_n 2 dX7_takesItem_31 rfl ?_
      refine J_iaload _ rfl rfl (by omega) dX7_takesItem_32 ?_
      rw [e42]
      refine J_if_le 43 dX7_takesItem_33 (by decide) (fun h33 => ?_) (fun h33 => ?_)
      · skip
        refine J_aload_n 0 dX7_takesItem_43 rfl ?_
        refine J_getR lkF_X7_47 rfl dX7_takesItem_44 ?_
        refine J_iload_n 2 dX7_takesItem_47 rfl ?_
        refine J_iaload _ rfl rfl (by omega) dX7_takesItem_48 ?_
        rw [e42]
        refine J_bipush 6 dX7_takesItem_49 ⟨by decide, by decide⟩ (by decide) ?_
        refine J_icmp_ne 56 dX7_takesItem_51 (by decide) (fun h51 => ?_) (fun h51 => ?_)
        · skip
          refine J_iload_n 1 dX7_takesItem_56 rfl ?_
          refine J_bipush 94 dX7_takesItem_57 ⟨by decide, by decide⟩ (by decide) ?_
          refine J_icmp_ne 79 dX7_takesItem_59 (by decide) (fun h59 => ?_) (fun h59 => ?_)
          · skip
            refine J_iload_n 3 dX7_takesItem_79 rfl ?_
            refine J_iconst (-1) dX7_takesItem_80 ⟨by decide, by decide⟩ ?_
            refine J_icmp_eq 99 dX7_takesItem_81 (by decide) (fun h81 => ?_) (fun h81 => ?_)
            · skip
              refine J_iconst 0 dX7_takesItem_99 ⟨by decide, by decide⟩ ?_
              refine JM_zret rfl (by omega) dX7_takesItem_100 ?_
              by_cases q7 : s.1 = 7
              · rw [if_pos q7] at hQ
                by_cases q41 : c = 41
                · rw [if_pos q41, if_pos (by rw [hnil]; omega)] at hQ
                  exact hQ 0 ω (Or.inl ⟨rfl, rfl⟩) (RF.rf ω)
                · rw [if_neg q41, if_neg (by omega), if_neg (by omega), if_pos (by omega)] at hQ
                  exact hQ 0 ω (Or.inl ⟨rfl, rfl⟩) (RF.rf ω)
              · rw [if_neg q7, if_neg (by omega)] at hQ
                exact hQ 0 ω (Or.inl ⟨rfl, rfl⟩) (RF.rf ω)
            · skip
              refine J_aload_n 0 dX7_takesItem_84 rfl ?_
              refine J_getI 19 lkF_X7_96 rfl rfl rfl dX7_takesItem_85 ?_
              refine J_bipush 8 dX7_takesItem_88 ⟨by decide, by decide⟩ (by decide) ?_
              refine J_icmp_ne 101 dX7_takesItem_90 (by decide) (fun h90 => ?_) (fun h90 => ?_)
              · skip
                refine J_aload_n 0 dX7_takesItem_101 rfl ?_
                refine J_getR lkF_X7_50 rfl dX7_takesItem_102 ?_
                refine J_bipush 6 dX7_takesItem_105 ⟨by decide, by decide⟩ (by decide) ?_
                refine J_iload_n 2 dX7_takesItem_107 rfl ?_
                refine J_imul dX7_takesItem_108 ⟨by omega, by omega⟩ ?_
                refine J_aload_n 0 dX7_takesItem_109 rfl ?_
                refine J_getR lkF_X7_47 rfl dX7_takesItem_110 ?_
                refine J_iload_n 2 dX7_takesItem_113 rfl ?_
                refine J_iaload _ rfl rfl (by omega) dX7_takesItem_114 ?_
                rw [e42]
                refine J_iadd dX7_takesItem_115 ⟨by omega, by omega⟩ ?_
                refine J_aload_n 0 dX7_takesItem_116 rfl ?_
                refine J_getI 19 lkF_X7_96 rfl rfl rfl dX7_takesItem_117 ?_
                refine J_bipush 8 dX7_takesItem_120 ⟨by decide, by decide⟩ (by decide) ?_
                refine J_icmp_ne 132 dX7_takesItem_122 (by decide) (fun h122 => ?_) (fun h122 => ?_)
                · skip
                  refine J_iload_n 3 dX7_takesItem_132 rfl ?_
                  refine J_iastore _ rfl (by omega) dX7_takesItem_133 ?_
                  refine J_aload_n 0 dX7_takesItem_134 rfl ?_
                  refine J_getR lkF_X7_47 rfl dX7_takesItem_135 ?_
                  refine J_iload_n 2 dX7_takesItem_138 rfl ?_
                  refine J_dup2 dX7_takesItem_139 ?_
                  refine J_iaload _ rfl rfl (by omega) dX7_takesItem_140 ?_
                  try simp (config := {decide := true}) only [up_s, up_k, up_i]
                  rw [e42]
                  refine J_iconst 1 dX7_takesItem_141 ⟨by decide, by decide⟩ ?_
                  refine J_iadd dX7_takesItem_142 ⟨by omega, by omega⟩ ?_
                  refine J_iastore _ rfl (by omega) dX7_takesItem_143 ?_
                  refine J_aload_n 0 dX7_takesItem_144 rfl ?_
                  refine J_bipush 7 dX7_takesItem_145 ⟨by decide, by decide⟩ (by decide) ?_
                  refine J_putI 19 lkF_X7_96 rfl fp_7_19 rfl dX7_takesItem_147 ?_
                  refine J_iconst 1 dX7_takesItem_150 ⟨by decide, by decide⟩ ?_
                  refine JM_zret rfl (by omega) dX7_takesItem_151 ?_
                  first
                    | (rw [if_pos (by omega), if_neg (by omega), if_neg (by omega), if_neg (by omega), if_neg (by omega)] at hQ
                       exact hQ 1 _ (Or.inr ⟨_, rfl, rfl, hadd (by omega) _⟩) ((((RF.rf ω).uk (by decide)).uk (by decide)).u9 (by omega)))
                    | (rw [if_neg (by omega), if_pos (by omega)] at hQ
                       exact hQ 1 _ (Or.inr ⟨_, rfl, rfl, hadd (by omega) _⟩) ((((RF.rf ω).uk (by decide)).uk (by decide)).u9 (by omega)))
                    | (exfalso; omega)
                · skip
                  refine J_bipush 20 dX7_takesItem_125 ⟨by decide, by decide⟩ (by decide) ?_
                  refine J_iload_n 3 dX7_takesItem_127 rfl ?_
                  refine J_iadd dX7_takesItem_128 ⟨by omega, by omega⟩ ?_
                  refine J_goto 133 dX7_takesItem_129 (by decide) ?_
                  refine J_iastore _ rfl (by omega) dX7_takesItem_133 ?_
                  refine J_aload_n 0 dX7_takesItem_134 rfl ?_
                  refine J_getR lkF_X7_47 rfl dX7_takesItem_135 ?_
                  refine J_iload_n 2 dX7_takesItem_138 rfl ?_
                  refine J_dup2 dX7_takesItem_139 ?_
                  refine J_iaload _ rfl rfl (by omega) dX7_takesItem_140 ?_
                  try simp (config := {decide := true}) only [up_s, up_k, up_i]
                  rw [e42]
                  refine J_iconst 1 dX7_takesItem_141 ⟨by decide, by decide⟩ ?_
                  refine J_iadd dX7_takesItem_142 ⟨by omega, by omega⟩ ?_
                  refine J_iastore _ rfl (by omega) dX7_takesItem_143 ?_
                  refine J_aload_n 0 dX7_takesItem_144 rfl ?_
                  refine J_bipush 7 dX7_takesItem_145 ⟨by decide, by decide⟩ (by decide) ?_
                  refine J_putI 19 lkF_X7_96 rfl fp_7_19 rfl dX7_takesItem_147 ?_
                  refine J_iconst 1 dX7_takesItem_150 ⟨by decide, by decide⟩ ?_
                  refine JM_zret rfl (by omega) dX7_takesItem_151 ?_
                  first
                    | (rw [if_pos (by omega), if_neg (by omega), if_neg (by omega), if_neg (by omega), if_neg (by omega)] at hQ
                       exact hQ 1 _ (Or.inr ⟨_, rfl, rfl, hadd (by omega) _⟩) ((((RF.rf ω).uk (by decide)).uk (by decide)).u9 (by omega)))
                    | (rw [if_neg (by omega), if_pos (by omega)] at hQ
                       exact hQ 1 _ (Or.inr ⟨_, rfl, rfl, hadd (by omega) _⟩) ((((RF.rf ω).uk (by decide)).uk (by decide)).u9 (by omega)))
                    | (exfalso; omega)
              · skip
                refine J_iload_n 3 dX7_takesItem_93 rfl ?_
                refine J_bipush 6 dX7_takesItem_94 ⟨by decide, by decide⟩ (by decide) ?_
                refine J_icmp_lt 101 dX7_takesItem_96 (by decide) (fun h96 => ?_) (fun h96 => ?_)
                · skip
                  refine J_aload_n 0 dX7_takesItem_101 rfl ?_
                  refine J_getR lkF_X7_50 rfl dX7_takesItem_102 ?_
                  refine J_bipush 6 dX7_takesItem_105 ⟨by decide, by decide⟩ (by decide) ?_
                  refine J_iload_n 2 dX7_takesItem_107 rfl ?_
                  refine J_imul dX7_takesItem_108 ⟨by omega, by omega⟩ ?_
                  refine J_aload_n 0 dX7_takesItem_109 rfl ?_
                  refine J_getR lkF_X7_47 rfl dX7_takesItem_110 ?_
                  refine J_iload_n 2 dX7_takesItem_113 rfl ?_
                  refine J_iaload _ rfl rfl (by omega) dX7_takesItem_114 ?_
                  rw [e42]
                  refine J_iadd dX7_takesItem_115 ⟨by omega, by omega⟩ ?_
                  refine J_aload_n 0 dX7_takesItem_116 rfl ?_
                  refine J_getI 19 lkF_X7_96 rfl rfl rfl dX7_takesItem_117 ?_
                  refine J_bipush 8 dX7_takesItem_120 ⟨by decide, by decide⟩ (by decide) ?_
                  refine J_icmp_ne 132 dX7_takesItem_122 (by decide) (fun h122 => ?_) (fun h122 => ?_)
                  · skip
                    refine J_iload_n 3 dX7_takesItem_132 rfl ?_
                    refine J_iastore _ rfl (by omega) dX7_takesItem_133 ?_
                    refine J_aload_n 0 dX7_takesItem_134 rfl ?_
                    refine J_getR lkF_X7_47 rfl dX7_takesItem_135 ?_
                    refine J_iload_n 2 dX7_takesItem_138 rfl ?_
                    refine J_dup2 dX7_takesItem_139 ?_
                    refine J_iaload _ rfl rfl (by omega) dX7_takesItem_140 ?_
                    try simp (config := {decide := true}) only [up_s, up_k, up_i]
                    rw [e42]
                    refine J_iconst 1 dX7_takesItem_141 ⟨by decide, by decide⟩ ?_
                    refine J_iadd dX7_takesItem_142 ⟨by omega, by omega⟩ ?_
                    refine J_iastore _ rfl (by omega) dX7_takesItem_143 ?_
                    refine J_aload_n 0 dX7_takesItem_144 rfl ?_
                    refine J_bipush 7 dX7_takesItem_145 ⟨by decide, by decide⟩ (by decide) ?_
                    refine J_putI 19 lkF_X7_96 rfl fp_7_19 rfl dX7_takesItem_147 ?_
                    refine J_iconst 1 dX7_takesItem_150 ⟨by decide, by decide⟩ ?_
                    refine JM_zret rfl (by omega) dX7_takesItem_151 ?_
                    first
                      | (rw [if_pos (by omega), if_neg (by omega), if_neg (by omega), if_neg (by omega), if_neg (by omega)] at hQ
                         exact hQ 1 _ (Or.inr ⟨_, rfl, rfl, hadd (by omega) _⟩) ((((RF.rf ω).uk (by decide)).uk (by decide)).u9 (by omega)))
                      | (rw [if_neg (by omega), if_pos (by omega)] at hQ
                         exact hQ 1 _ (Or.inr ⟨_, rfl, rfl, hadd (by omega) _⟩) ((((RF.rf ω).uk (by decide)).uk (by decide)).u9 (by omega)))
                      | (exfalso; omega)
                  · skip
                    refine J_bipush 20 dX7_takesItem_125 ⟨by decide, by decide⟩ (by decide) ?_
                    refine J_iload_n 3 dX7_takesItem_127 rfl ?_
                    refine J_iadd dX7_takesItem_128 ⟨by omega, by omega⟩ ?_
                    refine J_goto 133 dX7_takesItem_129 (by decide) ?_
                    refine J_iastore _ rfl (by omega) dX7_takesItem_133 ?_
                    refine J_aload_n 0 dX7_takesItem_134 rfl ?_
                    refine J_getR lkF_X7_47 rfl dX7_takesItem_135 ?_
                    refine J_iload_n 2 dX7_takesItem_138 rfl ?_
                    refine J_dup2 dX7_takesItem_139 ?_
                    refine J_iaload _ rfl rfl (by omega) dX7_takesItem_140 ?_
                    try simp (config := {decide := true}) only [up_s, up_k, up_i]
                    rw [e42]
                    refine J_iconst 1 dX7_takesItem_141 ⟨by decide, by decide⟩ ?_
                    refine J_iadd dX7_takesItem_142 ⟨by omega, by omega⟩ ?_
                    refine J_iastore _ rfl (by omega) dX7_takesItem_143 ?_
                    refine J_aload_n 0 dX7_takesItem_144 rfl ?_
                    refine J_bipush 7 dX7_takesItem_145 ⟨by decide, by decide⟩ (by decide) ?_
                    refine J_putI 19 lkF_X7_96 rfl fp_7_19 rfl dX7_takesItem_147 ?_
                    refine J_iconst 1 dX7_takesItem_150 ⟨by decide, by decide⟩ ?_
                    refine JM_zret rfl (by omega) dX7_takesItem_151 ?_
                    first
                      | (rw [if_pos (by omega), if_neg (by omega), if_neg (by omega), if_neg (by omega), if_neg (by omega)] at hQ
                         exact hQ 1 _ (Or.inr ⟨_, rfl, rfl, hadd (by omega) _⟩) ((((RF.rf ω).uk (by decide)).uk (by decide)).u9 (by omega)))
                      | (rw [if_neg (by omega), if_pos (by omega)] at hQ
                         exact hQ 1 _ (Or.inr ⟨_, rfl, rfl, hadd (by omega) _⟩) ((((RF.rf ω).uk (by decide)).uk (by decide)).u9 (by omega)))
                      | (exfalso; omega)
                · skip
                  refine J_iconst 0 dX7_takesItem_99 ⟨by decide, by decide⟩ ?_
                  refine JM_zret rfl (by omega) dX7_takesItem_100 ?_
                  by_cases q7 : s.1 = 7
                  · rw [if_pos q7] at hQ
                    by_cases q41 : c = 41
                    · rw [if_pos q41, if_pos (by rw [hnil]; omega)] at hQ
                      exact hQ 0 ω (Or.inl ⟨rfl, rfl⟩) (RF.rf ω)
                    · rw [if_neg q41, if_neg (by omega), if_neg (by omega), if_pos (by omega)] at hQ
                      exact hQ 0 ω (Or.inl ⟨rfl, rfl⟩) (RF.rf ω)
                  · rw [if_neg q7, if_neg (by omega)] at hQ
                    exact hQ 0 ω (Or.inl ⟨rfl, rfl⟩) (RF.rf ω)
          · skip
            refine J_aload_n 0 dX7_takesItem_62 rfl ?_
            refine J_getI 19 lkF_X7_96 rfl rfl rfl dX7_takesItem_63 ?_
            refine J_bipush 7 dX7_takesItem_66 ⟨by decide, by decide⟩ (by decide) ?_
            refine J_icmp_ne 79 dX7_takesItem_68 (by decide) (fun h68 => ?_) (fun h68 => ?_)
            · skip
              refine J_iload_n 3 dX7_takesItem_79 rfl ?_
              refine J_iconst (-1) dX7_takesItem_80 ⟨by decide, by decide⟩ ?_
              refine J_icmp_eq 99 dX7_takesItem_81 (by decide) (fun h81 => ?_) (fun h81 => ?_)
              · skip
                refine J_iconst 0 dX7_takesItem_99 ⟨by decide, by decide⟩ ?_
                refine JM_zret rfl (by omega) dX7_takesItem_100 ?_
                by_cases q7 : s.1 = 7
                · rw [if_pos q7] at hQ
                  by_cases q41 : c = 41
                  · rw [if_pos q41, if_pos (by rw [hnil]; omega)] at hQ
                    exact hQ 0 ω (Or.inl ⟨rfl, rfl⟩) (RF.rf ω)
                  · rw [if_neg q41, if_neg (by omega), if_neg (by omega), if_pos (by omega)] at hQ
                    exact hQ 0 ω (Or.inl ⟨rfl, rfl⟩) (RF.rf ω)
                · rw [if_neg q7, if_neg (by omega)] at hQ
                  exact hQ 0 ω (Or.inl ⟨rfl, rfl⟩) (RF.rf ω)
              · skip
                refine J_aload_n 0 dX7_takesItem_84 rfl ?_
                refine J_getI 19 lkF_X7_96 rfl rfl rfl dX7_takesItem_85 ?_
                refine J_bipush 8 dX7_takesItem_88 ⟨by decide, by decide⟩ (by decide) ?_
                refine J_icmp_ne 101 dX7_takesItem_90 (by decide) (fun h90 => ?_) (fun h90 => ?_)
                · skip
                  refine J_aload_n 0 dX7_takesItem_101 rfl ?_
                  refine J_getR lkF_X7_50 rfl dX7_takesItem_102 ?_
                  refine J_bipush 6 dX7_takesItem_105 ⟨by decide, by decide⟩ (by decide) ?_
                  refine J_iload_n 2 dX7_takesItem_107 rfl ?_
                  refine J_imul dX7_takesItem_108 ⟨by omega, by omega⟩ ?_
                  refine J_aload_n 0 dX7_takesItem_109 rfl ?_
                  refine J_getR lkF_X7_47 rfl dX7_takesItem_110 ?_
                  refine J_iload_n 2 dX7_takesItem_113 rfl ?_
                  refine J_iaload _ rfl rfl (by omega) dX7_takesItem_114 ?_
                  rw [e42]
                  refine J_iadd dX7_takesItem_115 ⟨by omega, by omega⟩ ?_
                  refine J_aload_n 0 dX7_takesItem_116 rfl ?_
                  refine J_getI 19 lkF_X7_96 rfl rfl rfl dX7_takesItem_117 ?_
                  refine J_bipush 8 dX7_takesItem_120 ⟨by decide, by decide⟩ (by decide) ?_
                  refine J_icmp_ne 132 dX7_takesItem_122 (by decide) (fun h122 => ?_) (fun h122 => ?_)
                  · skip
                    refine J_iload_n 3 dX7_takesItem_132 rfl ?_
                    refine J_iastore _ rfl (by omega) dX7_takesItem_133 ?_
                    refine J_aload_n 0 dX7_takesItem_134 rfl ?_
                    refine J_getR lkF_X7_47 rfl dX7_takesItem_135 ?_
                    refine J_iload_n 2 dX7_takesItem_138 rfl ?_
                    refine J_dup2 dX7_takesItem_139 ?_
                    refine J_iaload _ rfl rfl (by omega) dX7_takesItem_140 ?_
                    try simp (config := {decide := true}) only [up_s, up_k, up_i]
                    rw [e42]
                    refine J_iconst 1 dX7_takesItem_141 ⟨by decide, by decide⟩ ?_
                    refine J_iadd dX7_takesItem_142 ⟨by omega, by omega⟩ ?_
                    refine J_iastore _ rfl (by omega) dX7_takesItem_143 ?_
                    refine J_aload_n 0 dX7_takesItem_144 rfl ?_
                    refine J_bipush 7 dX7_takesItem_145 ⟨by decide, by decide⟩ (by decide) ?_
                    refine J_putI 19 lkF_X7_96 rfl fp_7_19 rfl dX7_takesItem_147 ?_
                    refine J_iconst 1 dX7_takesItem_150 ⟨by decide, by decide⟩ ?_
                    refine JM_zret rfl (by omega) dX7_takesItem_151 ?_
                    first
                      | (rw [if_pos (by omega), if_neg (by omega), if_neg (by omega), if_neg (by omega), if_neg (by omega)] at hQ
                         exact hQ 1 _ (Or.inr ⟨_, rfl, rfl, hadd (by omega) _⟩) ((((RF.rf ω).uk (by decide)).uk (by decide)).u9 (by omega)))
                      | (rw [if_neg (by omega), if_pos (by omega)] at hQ
                         exact hQ 1 _ (Or.inr ⟨_, rfl, rfl, hadd (by omega) _⟩) ((((RF.rf ω).uk (by decide)).uk (by decide)).u9 (by omega)))
                      | (exfalso; omega)
                  · skip
                    refine J_bipush 20 dX7_takesItem_125 ⟨by decide, by decide⟩ (by decide) ?_
                    refine J_iload_n 3 dX7_takesItem_127 rfl ?_
                    refine J_iadd dX7_takesItem_128 ⟨by omega, by omega⟩ ?_
                    refine J_goto 133 dX7_takesItem_129 (by decide) ?_
                    refine J_iastore _ rfl (by omega) dX7_takesItem_133 ?_
                    refine J_aload_n 0 dX7_takesItem_134 rfl ?_
                    refine J_getR lkF_X7_47 rfl dX7_takesItem_135 ?_
                    refine J_iload_n 2 dX7_takesItem_138 rfl ?_
                    refine J_dup2 dX7_takesItem_139 ?_
                    refine J_iaload _ rfl rfl (by omega) dX7_takesItem_140 ?_
                    try simp (config := {decide := true}) only [up_s, up_k, up_i]
                    rw [e42]
                    refine J_iconst 1 dX7_takesItem_141 ⟨by decide, by decide⟩ ?_
                    refine J_iadd dX7_takesItem_142 ⟨by omega, by omega⟩ ?_
                    refine J_iastore _ rfl (by omega) dX7_takesItem_143 ?_
                    refine J_aload_n 0 dX7_takesItem_144 rfl ?_
                    refine J_bipush 7 dX7_takesItem_145 ⟨by decide, by decide⟩ (by decide) ?_
                    refine J_putI 19 lkF_X7_96 rfl fp_7_19 rfl dX7_takesItem_147 ?_
                    refine J_iconst 1 dX7_takesItem_150 ⟨by decide, by decide⟩ ?_
                    refine JM_zret rfl (by omega) dX7_takesItem_151 ?_
                    first
                      | (rw [if_pos (by omega), if_neg (by omega), if_neg (by omega), if_neg (by omega), if_neg (by omega)] at hQ
                         exact hQ 1 _ (Or.inr ⟨_, rfl, rfl, hadd (by omega) _⟩) ((((RF.rf ω).uk (by decide)).uk (by decide)).u9 (by omega)))
                      | (rw [if_neg (by omega), if_pos (by omega)] at hQ
                         exact hQ 1 _ (Or.inr ⟨_, rfl, rfl, hadd (by omega) _⟩) ((((RF.rf ω).uk (by decide)).uk (by decide)).u9 (by omega)))
                      | (exfalso; omega)
                · skip
                  refine J_iload_n 3 dX7_takesItem_93 rfl ?_
                  refine J_bipush 6 dX7_takesItem_94 ⟨by decide, by decide⟩ (by decide) ?_
                  refine J_icmp_lt 101 dX7_takesItem_96 (by decide) (fun h96 => ?_) (fun h96 => ?_)
                  · skip
                    refine J_aload_n 0 dX7_takesItem_101 rfl ?_
                    refine J_getR lkF_X7_50 rfl dX7_takesItem_102 ?_
                    refine J_bipush 6 dX7_takesItem_105 ⟨by decide, by decide⟩ (by decide) ?_
                    refine J_iload_n 2 dX7_takesItem_107 rfl ?_
                    refine J_imul dX7_takesItem_108 ⟨by omega, by omega⟩ ?_
                    refine J_aload_n 0 dX7_takesItem_109 rfl ?_
                    refine J_getR lkF_X7_47 rfl dX7_takesItem_110 ?_
                    refine J_iload_n 2 dX7_takesItem_113 rfl ?_
                    refine J_iaload _ rfl rfl (by omega) dX7_takesItem_114 ?_
                    rw [e42]
                    refine J_iadd dX7_takesItem_115 ⟨by omega, by omega⟩ ?_
                    refine J_aload_n 0 dX7_takesItem_116 rfl ?_
                    refine J_getI 19 lkF_X7_96 rfl rfl rfl dX7_takesItem_117 ?_
                    refine J_bipush 8 dX7_takesItem_120 ⟨by decide, by decide⟩ (by decide) ?_
                    refine J_icmp_ne 132 dX7_takesItem_122 (by decide) (fun h122 => ?_) (fun h122 => ?_)
                    · skip
                      refine J_iload_n 3 dX7_takesItem_132 rfl ?_
                      refine J_iastore _ rfl (by omega) dX7_takesItem_133 ?_
                      refine J_aload_n 0 dX7_takesItem_134 rfl ?_
                      refine J_getR lkF_X7_47 rfl dX7_takesItem_135 ?_
                      refine J_iload_n 2 dX7_takesItem_138 rfl ?_
                      refine J_dup2 dX7_takesItem_139 ?_
                      refine J_iaload _ rfl rfl (by omega) dX7_takesItem_140 ?_
                      try simp (config := {decide := true}) only [up_s, up_k, up_i]
                      rw [e42]
                      refine J_iconst 1 dX7_takesItem_141 ⟨by decide, by decide⟩ ?_
                      refine J_iadd dX7_takesItem_142 ⟨by omega, by omega⟩ ?_
                      refine J_iastore _ rfl (by omega) dX7_takesItem_143 ?_
                      refine J_aload_n 0 dX7_takesItem_144 rfl ?_
                      refine J_bipush 7 dX7_takesItem_145 ⟨by decide, by decide⟩ (by decide) ?_
                      refine J_putI 19 lkF_X7_96 rfl fp_7_19 rfl dX7_takesItem_147 ?_
                      refine J_iconst 1 dX7_takesItem_150 ⟨by decide, by decide⟩ ?_
                      refine JM_zret rfl (by omega) dX7_takesItem_151 ?_
                      first
                        | (rw [if_pos (by omega), if_neg (by omega), if_neg (by omega), if_neg (by omega), if_neg (by omega)] at hQ
                           exact hQ 1 _ (Or.inr ⟨_, rfl, rfl, hadd (by omega) _⟩) ((((RF.rf ω).uk (by decide)).uk (by decide)).u9 (by omega)))
                        | (rw [if_neg (by omega), if_pos (by omega)] at hQ
                           exact hQ 1 _ (Or.inr ⟨_, rfl, rfl, hadd (by omega) _⟩) ((((RF.rf ω).uk (by decide)).uk (by decide)).u9 (by omega)))
                        | (exfalso; omega)
                    · skip
                      refine J_bipush 20 dX7_takesItem_125 ⟨by decide, by decide⟩ (by decide) ?_
                      refine J_iload_n 3 dX7_takesItem_127 rfl ?_
                      refine J_iadd dX7_takesItem_128 ⟨by omega, by omega⟩ ?_
                      refine J_goto 133 dX7_takesItem_129 (by decide) ?_
                      refine J_iastore _ rfl (by omega) dX7_takesItem_133 ?_
                      refine J_aload_n 0 dX7_takesItem_134 rfl ?_
                      refine J_getR lkF_X7_47 rfl dX7_takesItem_135 ?_
                      refine J_iload_n 2 dX7_takesItem_138 rfl ?_
                      refine J_dup2 dX7_takesItem_139 ?_
                      refine J_iaload _ rfl rfl (by omega) dX7_takesItem_140 ?_
                      try simp (config := {decide := true}) only [up_s, up_k, up_i]
                      rw [e42]
                      refine J_iconst 1 dX7_takesItem_141 ⟨by decide, by decide⟩ ?_
                      refine J_iadd dX7_takesItem_142 ⟨by omega, by omega⟩ ?_
                      refine J_iastore _ rfl (by omega) dX7_takesItem_143 ?_
                      refine J_aload_n 0 dX7_takesItem_144 rfl ?_
                      refine J_bipush 7 dX7_takesItem_145 ⟨by decide, by decide⟩ (by decide) ?_
                      refine J_putI 19 lkF_X7_96 rfl fp_7_19 rfl dX7_takesItem_147 ?_
                      refine J_iconst 1 dX7_takesItem_150 ⟨by decide, by decide⟩ ?_
                      refine JM_zret rfl (by omega) dX7_takesItem_151 ?_
                      first
                        | (rw [if_pos (by omega), if_neg (by omega), if_neg (by omega), if_neg (by omega), if_neg (by omega)] at hQ
                           exact hQ 1 _ (Or.inr ⟨_, rfl, rfl, hadd (by omega) _⟩) ((((RF.rf ω).uk (by decide)).uk (by decide)).u9 (by omega)))
                        | (rw [if_neg (by omega), if_pos (by omega)] at hQ
                           exact hQ 1 _ (Or.inr ⟨_, rfl, rfl, hadd (by omega) _⟩) ((((RF.rf ω).uk (by decide)).uk (by decide)).u9 (by omega)))
                        | (exfalso; omega)
                  · skip
                    refine J_iconst 0 dX7_takesItem_99 ⟨by decide, by decide⟩ ?_
                    refine JM_zret rfl (by omega) dX7_takesItem_100 ?_
                    by_cases q7 : s.1 = 7
                    · rw [if_pos q7] at hQ
                      by_cases q41 : c = 41
                      · rw [if_pos q41, if_pos (by rw [hnil]; omega)] at hQ
                        exact hQ 0 ω (Or.inl ⟨rfl, rfl⟩) (RF.rf ω)
                      · rw [if_neg q41, if_neg (by omega), if_neg (by omega), if_pos (by omega)] at hQ
                        exact hQ 0 ω (Or.inl ⟨rfl, rfl⟩) (RF.rf ω)
                    · rw [if_neg q7, if_neg (by omega)] at hQ
                      exact hQ 0 ω (Or.inl ⟨rfl, rfl⟩) (RF.rf ω)
            · skip
              refine J_aload_n 0 dX7_takesItem_71 rfl ?_
              refine J_bipush 8 dX7_takesItem_72 ⟨by decide, by decide⟩ (by decide) ?_
              refine J_putI 19 lkF_X7_96 rfl fp_7_19 rfl dX7_takesItem_74 ?_
              refine J_iconst 1 dX7_takesItem_77 ⟨by decide, by decide⟩ ?_
              refine JM_zret rfl (by omega) dX7_takesItem_78 ?_
              rw [if_pos (by omega), if_neg (by omega), if_neg (by omega), if_pos (by omega)] at hQ
              exact hQ 1 _ (Or.inr ⟨_, rfl, rfl, RdM_go hR⟩) ((RF.rf ω).u9 (by omega))
        · skip
          refine J_iconst 0 dX7_takesItem_54 ⟨by decide, by decide⟩ ?_
          refine JM_zret rfl (by omega) dX7_takesItem_55 ?_
          rw [if_pos (by omega), if_neg (by omega), if_pos (by omega)] at hQ
          exact hQ 0 ω (Or.inl ⟨rfl, rfl⟩) (RF.rf ω)
      · skip
        refine J_aload_n 0 dX7_takesItem_36 rfl ?_
        refine J_iconst 4 dX7_takesItem_37 ⟨by decide, by decide⟩ ?_
        refine J_putI 19 lkF_X7_96 rfl fp_7_19 rfl dX7_takesItem_38 ?_
        refine J_iconst 1 dX7_takesItem_41 ⟨by decide, by decide⟩ ?_
        refine JM_zret rfl (by omega) dX7_takesItem_42 ?_
        rw [if_pos (by omega), if_pos (by omega), if_neg (by rw [hnil]; omega)] at hQ
        exact hQ 1 _ (Or.inr ⟨_, rfl, rfl, RdM_go hR⟩) ((RF.rf ω).u9 (by omega))

set_option maxRecDepth 100000 in
set_option maxHeartbeats 4000000 in
theorem kX7_takesHead {X : Cx} {d : Nat} {ω : Om} {Q : Option MV → Om → Prop} {n c : Int} {s : RS} (hn : ω 29 2 = n) (hn8 : 0 ≤ n ∧ n ≤ 8) (h4 : 0 ≤ s.1 ∧ s.1 < 4) (hR : RdM ω s) (hW : RW n s) (hc : -100 ≤ c ∧ c ≤ 1000) (hQ : ∀ (r : Int) (ω' : Om), TkM (rdS n c s) r ω' → RF ω ω' → Q (some (vI r)) ω') : Mc X mX7_takesHead (d + 1) [vR 29, vI c] ω Q := by
  obtain ⟨a1, a2, a3, a4, a5, a6, a7⟩ := id hR
  refine Mc_of [some (vR 29), some (vI c)] (by decide +kernel) rfl (Nat.le_of_ble_eq_true rfl) ?_
  refine J_aload_n 0 dX7_takesHead_0 rfl ?_
  refine J_getI 19 lkF_X7_96 rfl rfl rfl dX7_takesHead_1 ?_
  refine J_if_ne 29 dX7_takesHead_4 (by decide) (fun h4 => ?_) (fun h4 => ?_)
  · skip
    refine J_aload_n 0 dX7_takesHead_29 rfl ?_
    refine J_getI 19 lkF_X7_96 rfl rfl rfl dX7_takesHead_30 ?_
    refine J_iconst 2 dX7_takesHead_33 ⟨by decide, by decide⟩ ?_
    refine J_icmp_ne 65 dX7_takesHead_34 (by decide) (fun h34 => ?_) (fun h34 => ?_)
    · skip
      refine J_iload_n 1 dX7_takesHead_65 rfl ?_
      refine J_bipush 60 dX7_takesHead_66 ⟨by decide, by decide⟩ (by decide) ?_
      refine J_icmp_ne 93 dX7_takesHead_68 (by decide) (fun h68 => ?_) (fun h68 => ?_)
      · skip
        refine J_aload_n 0 dX7_takesHead_93 rfl ?_
        refine J_iconst 4 dX7_takesHead_94 ⟨by decide, by decide⟩ ?_
        refine J_putI 19 lkF_X7_96 rfl fp_7_19 rfl dX7_takesHead_95 ?_
        refine J_iload_n 1 dX7_takesHead_98 rfl ?_
        refine J_bipush 58 dX7_takesHead_99 ⟨by decide, by decide⟩ (by decide) ?_
        refine J_icmp_ne 108 dX7_takesHead_101 (by decide) (fun h101 => ?_) (fun h101 => ?_)
        · skip
          refine J_iconst 0 dX7_takesHead_108 ⟨by decide, by decide⟩ ?_
          refine JM_zret rfl (by omega) dX7_takesHead_109 ?_
          rcases (show s.1 = 1 ∨ s.1 = 3 by omega) with q | q
          · rw [rdS_1 q] at hQ
            first | (rw [if_pos (by omega)] at hQ; exact hQ 1 _ (Or.inr ⟨_, rfl, rfl, RdM_go hR⟩) ((RF.rf ω).u9 (by omega))) | (rw [if_neg (by omega), if_neg (by omega)] at hQ; exact hQ 0 _ (Or.inl ⟨rfl, rfl⟩) ((RF.rf ω).u9 (by omega)))
          · rw [rdS_3 q] at hQ
            first | (rw [if_pos (by omega)] at hQ; exact hQ 1 _ (Or.inr ⟨_, rfl, rfl, RdM_go hR⟩) ((RF.rf ω).u9 (by omega))) | (rw [if_neg (by omega)] at hQ; exact hQ 0 _ (Or.inl ⟨rfl, rfl⟩) ((RF.rf ω).u9 (by omega)))
        · skip
          refine J_iconst 1 dX7_takesHead_104 ⟨by decide, by decide⟩ ?_
          refine J_goto 109 dX7_takesHead_105 (by decide) ?_
          refine JM_zret rfl (by omega) dX7_takesHead_109 ?_
          rcases (show s.1 = 1 ∨ s.1 = 3 by omega) with q | q
          · rw [rdS_1 q] at hQ
            first | (rw [if_pos (by omega)] at hQ; exact hQ 1 _ (Or.inr ⟨_, rfl, rfl, RdM_go hR⟩) ((RF.rf ω).u9 (by omega))) | (rw [if_neg (by omega), if_neg (by omega)] at hQ; exact hQ 0 _ (Or.inl ⟨rfl, rfl⟩) ((RF.rf ω).u9 (by omega)))
          · rw [rdS_3 q] at hQ
            first | (rw [if_pos (by omega)] at hQ; exact hQ 1 _ (Or.inr ⟨_, rfl, rfl, RdM_go hR⟩) ((RF.rf ω).u9 (by omega))) | (rw [if_neg (by omega)] at hQ; exact hQ 0 _ (Or.inl ⟨rfl, rfl⟩) ((RF.rf ω).u9 (by omega)))
      · skip
        refine J_aload_n 0 dX7_takesHead_71 rfl ?_
        refine J_getI 19 lkF_X7_96 rfl rfl rfl dX7_takesHead_72 ?_
        refine J_iconst 1 dX7_takesHead_75 ⟨by decide, by decide⟩ ?_
        refine J_icmp_ne 93 dX7_takesHead_76 (by decide) (fun h76 => ?_) (fun h76 => ?_)
        · skip
          refine J_aload_n 0 dX7_takesHead_93 rfl ?_
          refine J_iconst 4 dX7_takesHead_94 ⟨by decide, by decide⟩ ?_
          refine J_putI 19 lkF_X7_96 rfl fp_7_19 rfl dX7_takesHead_95 ?_
          refine J_iload_n 1 dX7_takesHead_98 rfl ?_
          refine J_bipush 58 dX7_takesHead_99 ⟨by decide, by decide⟩ (by decide) ?_
          refine J_icmp_ne 108 dX7_takesHead_101 (by decide) (fun h101 => ?_) (fun h101 => ?_)
          · skip
            refine J_iconst 0 dX7_takesHead_108 ⟨by decide, by decide⟩ ?_
            refine JM_zret rfl (by omega) dX7_takesHead_109 ?_
            rcases (show s.1 = 1 ∨ s.1 = 3 by omega) with q | q
            · rw [rdS_1 q] at hQ
              first | (rw [if_pos (by omega)] at hQ; exact hQ 1 _ (Or.inr ⟨_, rfl, rfl, RdM_go hR⟩) ((RF.rf ω).u9 (by omega))) | (rw [if_neg (by omega), if_neg (by omega)] at hQ; exact hQ 0 _ (Or.inl ⟨rfl, rfl⟩) ((RF.rf ω).u9 (by omega)))
            · rw [rdS_3 q] at hQ
              first | (rw [if_pos (by omega)] at hQ; exact hQ 1 _ (Or.inr ⟨_, rfl, rfl, RdM_go hR⟩) ((RF.rf ω).u9 (by omega))) | (rw [if_neg (by omega)] at hQ; exact hQ 0 _ (Or.inl ⟨rfl, rfl⟩) ((RF.rf ω).u9 (by omega)))
          · skip
            refine J_iconst 1 dX7_takesHead_104 ⟨by decide, by decide⟩ ?_
            refine J_goto 109 dX7_takesHead_105 (by decide) ?_
            refine JM_zret rfl (by omega) dX7_takesHead_109 ?_
            rcases (show s.1 = 1 ∨ s.1 = 3 by omega) with q | q
            · rw [rdS_1 q] at hQ
              first | (rw [if_pos (by omega)] at hQ; exact hQ 1 _ (Or.inr ⟨_, rfl, rfl, RdM_go hR⟩) ((RF.rf ω).u9 (by omega))) | (rw [if_neg (by omega), if_neg (by omega)] at hQ; exact hQ 0 _ (Or.inl ⟨rfl, rfl⟩) ((RF.rf ω).u9 (by omega)))
            · rw [rdS_3 q] at hQ
              first | (rw [if_pos (by omega)] at hQ; exact hQ 1 _ (Or.inr ⟨_, rfl, rfl, RdM_go hR⟩) ((RF.rf ω).u9 (by omega))) | (rw [if_neg (by omega)] at hQ; exact hQ 0 _ (Or.inl ⟨rfl, rfl⟩) ((RF.rf ω).u9 (by omega)))
        · skip
          refine J_aload_n 0 dX7_takesHead_79 rfl ?_
          refine J_getI 2 lkF_X7_112 rfl rfl rfl dX7_takesHead_80 ?_
          refine J_if_le 93 dX7_takesHead_83 (by decide) (fun h83 => ?_) (fun h83 => ?_)
          · skip
            refine J_aload_n 0 dX7_takesHead_93 rfl ?_
            refine J_iconst 4 dX7_takesHead_94 ⟨by decide, by decide⟩ ?_
            refine J_putI 19 lkF_X7_96 rfl fp_7_19 rfl dX7_takesHead_95 ?_
            refine J_iload_n 1 dX7_takesHead_98 rfl ?_
            refine J_bipush 58 dX7_takesHead_99 ⟨by decide, by decide⟩ (by decide) ?_
            refine J_icmp_ne 108 dX7_takesHead_101 (by decide) (fun h101 => ?_) (fun h101 => ?_)
            · skip
              refine J_iconst 0 dX7_takesHead_108 ⟨by decide, by decide⟩ ?_
              refine JM_zret rfl (by omega) dX7_takesHead_109 ?_
              rcases (show s.1 = 1 ∨ s.1 = 3 by omega) with q | q
              · rw [rdS_1 q] at hQ
                first | (rw [if_pos (by omega)] at hQ; exact hQ 1 _ (Or.inr ⟨_, rfl, rfl, RdM_go hR⟩) ((RF.rf ω).u9 (by omega))) | (rw [if_neg (by omega), if_neg (by omega)] at hQ; exact hQ 0 _ (Or.inl ⟨rfl, rfl⟩) ((RF.rf ω).u9 (by omega)))
              · rw [rdS_3 q] at hQ
                first | (rw [if_pos (by omega)] at hQ; exact hQ 1 _ (Or.inr ⟨_, rfl, rfl, RdM_go hR⟩) ((RF.rf ω).u9 (by omega))) | (rw [if_neg (by omega)] at hQ; exact hQ 0 _ (Or.inl ⟨rfl, rfl⟩) ((RF.rf ω).u9 (by omega)))
            · skip
              refine J_iconst 1 dX7_takesHead_104 ⟨by decide, by decide⟩ ?_
              refine J_goto 109 dX7_takesHead_105 (by decide) ?_
              refine JM_zret rfl (by omega) dX7_takesHead_109 ?_
              rcases (show s.1 = 1 ∨ s.1 = 3 by omega) with q | q
              · rw [rdS_1 q] at hQ
                first | (rw [if_pos (by omega)] at hQ; exact hQ 1 _ (Or.inr ⟨_, rfl, rfl, RdM_go hR⟩) ((RF.rf ω).u9 (by omega))) | (rw [if_neg (by omega), if_neg (by omega)] at hQ; exact hQ 0 _ (Or.inl ⟨rfl, rfl⟩) ((RF.rf ω).u9 (by omega)))
              · rw [rdS_3 q] at hQ
                first | (rw [if_pos (by omega)] at hQ; exact hQ 1 _ (Or.inr ⟨_, rfl, rfl, RdM_go hR⟩) ((RF.rf ω).u9 (by omega))) | (rw [if_neg (by omega)] at hQ; exact hQ 0 _ (Or.inl ⟨rfl, rfl⟩) ((RF.rf ω).u9 (by omega)))
          · skip
            refine J_aload_n 0 dX7_takesHead_86 rfl ?_
            refine J_iconst 2 dX7_takesHead_87 ⟨by decide, by decide⟩ ?_
            refine J_putI 19 lkF_X7_96 rfl fp_7_19 rfl dX7_takesHead_88 ?_
            refine J_iconst 1 dX7_takesHead_91 ⟨by decide, by decide⟩ ?_
            refine JM_zret rfl (by omega) dX7_takesHead_92 ?_
            rw [rdS_1 (by omega), if_neg (by omega), if_pos (by omega)] at hQ
            exact hQ 1 _ (Or.inr ⟨_, rfl, rfl, RdM_go hR⟩) ((RF.rf ω).u9 (by omega))
    · skip
      refine J_aload_n 0 dX7_takesHead_37 rfl ?_
      refine J_iload_n 1 dX7_takesHead_38 rfl ?_
      refine J_bipush 65 dX7_takesHead_39 ⟨by decide, by decide⟩ (by decide) ?_
      refine J_isub dX7_takesHead_41 ⟨by omega, by omega⟩ ?_
      refine J_putI 20 lkF_X7_115 rfl fp_7_20 rfl dX7_takesHead_42 ?_
      refine J_aload_n 0 dX7_takesHead_45 rfl ?_
      refine J_iconst 3 dX7_takesHead_46 ⟨by decide, by decide⟩ ?_
      refine J_putI 19 lkF_X7_96 rfl fp_7_19 rfl dX7_takesHead_47 ?_
      refine J_aload_n 0 dX7_takesHead_50 rfl ?_
      refine J_getI 20 lkF_X7_115 rfl rfl rfl dX7_takesHead_51 ?_
      try simp (config := {decide := true}) only [up_s, up_k, up_i]
      refine J_iconst 0 dX7_takesHead_54 ⟨by decide, by decide⟩ ?_
      refine J_aload_n 0 dX7_takesHead_55 rfl ?_
      refine J_getI 2 lkF_X7_112 rfl rfl rfl dX7_takesHead_56 ?_
      try simp (config := {decide := true}) only [up_s, up_k, up_i]
      refine J_iconst 1 dX7_takesHead_59 ⟨by decide, by decide⟩ ?_
      refine J_isub dX7_takesHead_60 ⟨by omega, by omega⟩ ?_
      refine JM_S3 lkM_X7_77 dX7_takesHead_61 (by decide) (Nat.le_of_ble_eq_true rfl) ?_
      refine kX7_within ?_
      generalize hg : (if 0 ≤ c - 65 ∧ c - 65 ≤ ω 29 2 - 1 then (1 : Int) else 0) = g
      have hg2 : (g = 1 ∧ (0 ≤ c - 65 ∧ c - 65 ≤ ω 29 2 - 1)) ∨ (g = 0 ∧ ¬ (0 ≤ c - 65 ∧ c - 65 ≤ ω 29 2 - 1)) := by
        subst hg
        split
        · left; exact ⟨rfl, by omega⟩
        · right; exact ⟨rfl, by omega⟩
      refine JM_zret rfl (by omega) dX7_takesHead_64 ?_
      rw [rdS_2 (by omega)] at hQ
      rcases hg2 with ⟨q, w⟩ | ⟨q, w⟩
      · rw [if_pos (by omega)] at hQ
        rw [q]
        exact hQ 1 _ (Or.inr ⟨_, rfl, rfl, RdM_par hR⟩) (((RF.rf ω).u9 (by omega)).u9 (by omega))
      · rw [if_neg (by omega)] at hQ
        rw [q]
        exact hQ 0 _ (Or.inl ⟨rfl, rfl⟩) (((RF.rf ω).u9 (by omega)).u9 (by omega))
  · skip
    refine J_aload_n 0 dX7_takesHead_7 rfl ?_
    refine J_iconst 1 dX7_takesHead_8 ⟨by decide, by decide⟩ ?_
    refine J_putI 19 lkF_X7_96 rfl fp_7_19 rfl dX7_takesHead_9 ?_
    refine J_iload_n 1 dX7_takesHead_12 rfl ?_
    refine J_bipush 65 dX7_takesHead_13 ⟨by decide, by decide⟩ (by decide) ?_
    refine J_aload_n 0 dX7_takesHead_15 rfl ?_
    refine J_getI 2 lkF_X7_112 rfl rfl rfl dX7_takesHead_16 ?_
    try simp (config := {decide := true}) only [up_s, up_k, up_i]
    refine J_iadd dX7_takesHead_19 ⟨by omega, by omega⟩ ?_
    refine J_icmp_ne 27 dX7_takesHead_20 (by decide) (fun h20 => ?_) (fun h20 => ?_)
    · skip
      refine J_iconst 0 dX7_takesHead_27 ⟨by decide, by decide⟩ ?_
      refine JM_zret rfl (by omega) dX7_takesHead_28 ?_
      rw [rdS_0 (by omega)] at hQ
      first | (rw [if_pos (by omega)] at hQ; exact hQ 1 _ (Or.inr ⟨_, rfl, rfl, RdM_go hR⟩) ((RF.rf ω).u9 (by omega))) | (rw [if_neg (by omega)] at hQ; exact hQ 0 _ (Or.inl ⟨rfl, rfl⟩) ((RF.rf ω).u9 (by omega)))
    · skip
      refine J_iconst 1 dX7_takesHead_23 ⟨by decide, by decide⟩ ?_
      refine J_goto 28 dX7_takesHead_24 (by decide) ?_
      refine JM_zret rfl (by omega) dX7_takesHead_28 ?_
      rw [rdS_0 (by omega)] at hQ
      first | (rw [if_pos (by omega)] at hQ; exact hQ 1 _ (Or.inr ⟨_, rfl, rfl, RdM_go hR⟩) ((RF.rf ω).u9 (by omega))) | (rw [if_neg (by omega)] at hQ; exact hQ 0 _ (Or.inl ⟨rfl, rfl⟩) ((RF.rf ω).u9 (by omega)))

set_option maxRecDepth 100000 in
set_option maxHeartbeats 4000000 in
theorem kX7_takes {X : Cx} {d : Nat} {ω : Om} {Q : Option MV → Om → Prop} {n c : Int} {s : RS} (hn : ω 29 2 = n) (hn8 : 0 ≤ n ∧ n ≤ 8) (hR : RdM ω s) (hW : RW n s) (hc : -100 ≤ c ∧ c ≤ 1000) (hQ : ∀ (r : Int) (ω' : Om), TkM (rdS n c s) r ω' → RF ω ω' → Q (some (vI r)) ω') : Mc X mX7_takes (d + 4) [vR 29, vI c] ω Q := by
  have a1 := hR.1
  have hst := hW.1
  refine Mc_of [some (vR 29), some (vI c)] (by decide +kernel) rfl (Nat.le_of_ble_eq_true rfl) ?_
  refine J_aload_n 0 dX7_takes_0 rfl ?_
  refine J_getI 19 lkF_X7_96 rfl rfl rfl dX7_takes_1 ?_
  refine J_iconst 4 dX7_takes_4 ⟨by decide, by decide⟩ ?_
  refine J_icmp_ge 14 dX7_takes_5 (by decide) (fun h5 => ?_) (fun h5 => ?_)
  · skip
    refine J_aload_n 0 dX7_takes_14 rfl ?_
    refine J_getI 19 lkF_X7_96 rfl rfl rfl dX7_takes_15 ?_
    refine J_iconst 4 dX7_takes_18 ⟨by decide, by decide⟩ ?_
    refine J_icmp_ne 28 dX7_takes_19 (by decide) (fun h19 => ?_) (fun h19 => ?_)
    · skip
      refine J_aload_n 0 dX7_takes_28 rfl ?_
      refine J_getI 19 lkF_X7_96 rfl rfl rfl dX7_takes_29 ?_
      refine J_bipush 7 dX7_takes_32 ⟨by decide, by decide⟩ (by decide) ?_
      refine J_icmp_ge 45 dX7_takes_34 (by decide) (fun h34 => ?_) (fun h34 => ?_)
      · skip
        refine J_aload_n 0 dX7_takes_45 rfl ?_
        refine J_iload_n 1 dX7_takes_46 rfl ?_
        refine JM_V1 lkM_X7_124 rcv_29 dX7_takes_47 (by decide) (Nat.le_of_ble_eq_true rfl) ?_
        refine kX7_takesItem (by omega) hR hW hc (fun r ω1 q1 q2 => ?_)
        have hr01 := TkM01 q1
        refine JM_zret rfl hr01 dX7_takes_50 ?_
        exact hQ r ω1 q1 q2
      · skip
        refine J_aload_n 0 dX7_takes_37 rfl ?_
        refine J_iload_n 1 dX7_takes_38 rfl ?_
        refine JM_V1 lkM_X7_121 rcv_29 dX7_takes_39 (by decide) (Nat.le_of_ble_eq_true rfl) ?_
        refine kX7_takesBehindMethod (by omega) hR hW hc (fun r ω1 q1 q2 => ?_)
        have hr01 := TkM01 q1
        refine J_goto 50 dX7_takes_42 (by decide) ?_
        refine JM_zret rfl hr01 dX7_takes_50 ?_
        exact hQ r ω1 q1 q2
    · skip
      refine J_aload_n 0 dX7_takes_22 rfl ?_
      refine J_iload_n 1 dX7_takes_23 rfl ?_
      refine JM_V1 lkM_X7_108 rcv_29 dX7_takes_24 (by decide) (Nat.le_of_ble_eq_true rfl) ?_
      refine kX7_takesMember hR hW hc (fun r ω1 q1 q2 => ?_)
      have hr01 := TkM01 q1
      rw [rdS_4 (by omega)] at hQ
      refine JM_zret rfl hr01 dX7_takes_27 ?_
      exact hQ r ω1 q1 q2
  · skip
    refine J_aload_n 0 dX7_takes_8 rfl ?_
    refine J_iload_n 1 dX7_takes_9 rfl ?_
    refine JM_V1 lkM_X7_118 rcv_29 dX7_takes_10 (by decide) (Nat.le_of_ble_eq_true rfl) ?_
    refine kX7_takesHead hn hn8 (by omega) hR hW hc (fun r ω1 q1 q2 => ?_)
    have hr01 := TkM01 q1
    refine JM_zret rfl hr01 dX7_takes_13 ?_
    exact hQ r ω1 q1 q2

set_option maxRecDepth 100000 in
set_option maxHeartbeats 4000000 in
theorem l_mrd {X : Cx} {d : Nat} {Q : Option MV → Om → Prop} {ω0 : Om} {n : Int} (hn : ω0 29 2 = n) (hn8 : 0 ≤ n ∧ n ≤ 8) (h40 : 0 ≤ ω0 29 0 ∧ ω0 29 0 ≤ 40) (hcd : ∀ i : Int, 0 ≤ i → i < ω0 29 0 → -100 ≤ ω0 30 i ∧ ω0 30 i ≤ 1000) : ∀ (k i : Nat) (ω : Om) (s : RS), (i : Int) + k = ω0 29 0 → RdM ω s → RW n s → RF ω0 ω → (∀ ω', (∀ s', (rdF (ω0 30) n k i s).2 = some s' → RdM ω' s' ∧ RW n s') → RF ω0 ω' → Q (some (vI (rdF (ω0 30) n k i s).1)) ω') → JM X mX7_read (d + 5) Q 27 [some (vR 29), some (vI i)] [] ω := by
  intro k
  induction k with
  | zero =>
    intro i ω s hi hR hW hF hQ
    have e0 : ω 29 0 = ω0 29 0 := hF.2 0 (by decide) (by decide) (by decide) (by decide) (by decide) (by decide)
    refine J_iload_n 1 dX7_read_27 rfl ?_
    refine J_aload_n 0 dX7_read_28 rfl ?_
    refine J_getI 0 lkF_X7_81 rfl rfl rfl dX7_read_29 ?_
    refine J_icmp_ge 54 dX7_read_32 (by decide) (fun h32 => ?_) (fun h32 => ?_)
    · skip
      refine J_iload_n 1 dX7_read_54 rfl ?_
      refine JM_iret rfl dX7_read_55 ?_
      exact hQ ω (fun s' e => by cases e; exact ⟨hR, hW⟩) hF
    · skip
      exfalso; omega
  | succ k ih =>
    intro i ω s hi hR hW hF hQ
    have e0 : ω 29 0 = ω0 29 0 := hF.2 0 (by decide) (by decide) (by decide) (by decide) (by decide) (by decide)
    have e2 : ω 29 2 = ω0 29 2 := hF.2 2 (by decide) (by decide) (by decide) (by decide) (by decide) (by decide)
    have e30 : ω 30 = ω0 30 := hF.1 30 (by decide)
    refine J_iload_n 1 dX7_read_27 rfl ?_
    refine J_aload_n 0 dX7_read_28 rfl ?_
    refine J_getI 0 lkF_X7_81 rfl rfl rfl dX7_read_29 ?_
    refine J_icmp_ge 54 dX7_read_32 (by decide) (fun h32 => ?_) (fun h32 => ?_)
    · skip
      exfalso; omega
    · skip
      refine J_aload_n 0 dX7_read_35 rfl ?_
      refine J_aload_n 0 dX7_read_36 rfl ?_
      refine J_getR lkF_X7_7 rfl dX7_read_37 ?_
      refine J_iload_n 1 dX7_read_40 rfl ?_
      refine J_iaload _ rfl rfl (by omega) dX7_read_41 ?_
      refine JM_V1 lkM_X7_127 rcv_29 dX7_read_42 (by decide) (Nat.le_of_ble_eq_true rfl) ?_
      rw [e30]
      refine kX7_takes (n := n) (by omega) hn8 hR hW (hcd i (by omega) (by omega)) (fun r ω1 q1 q2 => ?_)
      simp only [rdF] at hQ
      refine J_if_eq 54 dX7_read_45 (by decide) (fun h45 => ?_) (fun h45 => ?_)
      · skip
        have hno : rdS n (ω0 30 i) s = none := by
          rcases q1 with ⟨q, _⟩ | ⟨_, _, q, _⟩
          · exact q
          · omega
        rw [hno] at hQ
        refine J_iload_n 1 dX7_read_54 rfl ?_
        refine JM_iret rfl dX7_read_55 ?_
        exact hQ ω1 (fun s' e => by cases e) (hF.tr q2)
      · skip
        obtain ⟨s1, hs1, hR1⟩ : ∃ s1, rdS n (ω0 30 i) s = some s1 ∧ RdM ω1 s1 := by
          rcases q1 with ⟨_, q⟩ | ⟨s1, q, _, w⟩
          · exact absurd q h45
          · exact ⟨s1, q, w⟩
        clear q1
        rw [hs1] at hQ
        refine J_iinc_1 dX7_read_48 (by decide) ⟨by omega, by omega⟩ rfl ?_
        refine J_goto 27 dX7_read_51 (by decide) ?_
        exact ih (i + 1) ω1 s1 (by omega) hR1 (RW_step hW hs1) (hF.tr q2) hQ

theorem RdM_0 (ω : Om) : RdM (up (up (up (up (up ω 29 19 0) 29 20 (-1)) 29 21 0) 29 22 0) 29 23 0) rd0 := by
  refine ⟨?_, ?_, ?_, ?_, ?_, fun r l e => (by cases e), fun m hm => absurd hm List.not_mem_nil⟩
  · simp (config := {decide := true}) only [up_s, up_k, up_i]
  · simp (config := {decide := true}) only [up_s, up_k, up_i]
  · simp (config := {decide := true}) only [up_s, up_k, up_i]
  · simp (config := {decide := true}) only [up_s, up_k, up_i]
  · simp (config := {decide := true}) only [up_s, up_k, up_i]
/-- the model's page -/
def PM (ω : Om) : Prop := (0 ≤ ω 29 0 ∧ ω 29 0 ≤ 40) ∧ ∀ i, 0 ≤ i → i < ω 29 0 → 32 ≤ ω 30 i ∧ ω 30 i ≤ 126
set_option maxRecDepth 100000 in
set_option maxHeartbeats 4000000 in
theorem kX7_read {X : Cx} {d : Nat} {ω : Om} {Q : Option MV → Om → Prop} {n : Int} (hn : ω 29 2 = n) (hn8 : 0 ≤ n ∧ n ≤ 8) (hP : PM ω) (hQ : ∀ ω', (∀ s', (rdF (ω 30) n (ω 29 0).toNat 0 rd0).2 = some s' → RdM ω' s' ∧ RW n s') → RF ω ω' → Q (some (vI (rdF (ω 30) n (ω 29 0).toNat 0 rd0).1)) ω') : Mc X mX7_read (d + 5) [vR 29] ω Q := by
  have p40 := hP.1
  refine Mc_of [some (vR 29), none] (by decide +kernel) rfl (Nat.le_of_ble_eq_true rfl) ?_
  refine J_aload_n 0 dX7_read_0 rfl ?_
  refine J_iconst 0 dX7_read_1 ⟨by decide, by decide⟩ ?_
  refine J_putI 19 lkF_X7_96 rfl fp_7_19 rfl dX7_read_2 ?_
  refine J_aload_n 0 dX7_read_5 rfl ?_
  refine J_iconst (-1) dX7_read_6 ⟨by decide, by decide⟩ ?_
  refine J_putI 20 lkF_X7_115 rfl fp_7_20 rfl dX7_read_7 ?_
  refine J_aload_n 0 dX7_read_10 rfl ?_
  refine J_iconst 0 dX7_read_11 ⟨by decide, by decide⟩ ?_
  refine J_putI 21 lkF_X7_89 rfl fp_7_21 rfl dX7_read_12 ?_
  refine J_aload_n 0 dX7_read_15 rfl ?_
  refine J_iconst 0 dX7_read_16 ⟨by decide, by decide⟩ ?_
  refine J_putI 22 lkF_X7_105 rfl fp_7_22 rfl dX7_read_17 ?_
  refine J_aload_n 0 dX7_read_20 rfl ?_
  refine J_iconst 0 dX7_read_21 ⟨by decide, by decide⟩ ?_
  refine J_putI 23 lkF_X7_99 rfl fp_7_23 rfl dX7_read_22 ?_
  refine J_iconst 0 dX7_read_25 ⟨by decide, by decide⟩ ?_
  refine J_istore_1 dX7_read_26 (by decide) rfl ?_
  have hF0 : RF ω (up (up (up (up (up ω 29 19 0) 29 20 (-1)) 29 21 0) 29 22 0) 29 23 0) := (((((RF.rf ω).u9 (by omega)).u9 (by omega)).u9 (by omega)).u9 (by omega)).u9 (by omega)
  have e0 := hF0.2 0 (by decide) (by decide) (by decide) (by decide) (by decide) (by decide)
  have e30 := hF0.1 30 (by decide)
  refine l_mrd (ω0 := ω) hn hn8 hP.1 (fun i i0 i1 => by have := hP.2 i i0 i1; omega) (ω 29 0).toNat 0 _ rd0 (by omega) (RdM_0 ω) (RW_0 n) hF0 hQ

set_option maxRecDepth 100000 in
set_option maxHeartbeats 4000000 in
theorem kX7_fault {X : Cx} {d : Nat} {ω : Om} {Q : Option MV → Om → Prop} (hM : MW ω) (hP : PM ω) (hQ : ∀ ω', RF ω ω' → Q (some (vI (rdF (ω 30) (ω 29 2) (ω 29 0).toNat 0 rd0).1)) ω') : Mc X mX7_fault (d + 6) [vR 29] ω Q := by
  refine Mc_of [some (vR 29)] (by decide +kernel) rfl (Nat.le_of_ble_eq_true rfl) ?_
  refine J_aload_n 0 dX7_fault_0 rfl ?_
  refine JM_V0 lkM_X7_130 rcv_29 dX7_fault_1 (by decide) (Nat.le_of_ble_eq_true rfl) ?_
  refine kX7_read rfl (n8_vw hM.1) hP (fun ω1 q1 q2 => ?_)
  refine JM_iret rfl dX7_fault_4 ?_
  exact hQ ω1 q2
