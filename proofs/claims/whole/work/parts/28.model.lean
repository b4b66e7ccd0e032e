/-! the model, seen as a tree -/
/-- the model's cells, one side of them, laid as the class's are -/
def vw (s : Int) (ω : Om) : Om := fun k i => if k = 3 then (if i = 7 then ω 29 2 else if i = 8 then ω 29 8 else 0) else if k = 12 then ω 31 i else if k = 13 then ω 32 i else if k = 14 then ω 33 (96 * s + i) else if k = 15 then ω 34 (8 * s + i) else if k = 17 then ω 36 i else if k = 18 then ω 37 i else 0
theorem vw37 (s : Int) (ω : Om) : vw s ω 3 7 = ω 29 2 := rfl
theorem vw38 (s : Int) (ω : Om) : vw s ω 3 8 = ω 29 8 := rfl
theorem vw12 (s : Int) (ω : Om) (i : Int) : vw s ω 12 i = ω 31 i := rfl
theorem vw13 (s : Int) (ω : Om) (i : Int) : vw s ω 13 i = ω 32 i := rfl
theorem vw14 (s : Int) (ω : Om) (i : Int) : vw s ω 14 i = ω 33 (96 * s + i) := rfl
theorem vw15 (s : Int) (ω : Om) (i : Int) : vw s ω 15 i = ω 34 (8 * s + i) := rfl
theorem vw17 (s : Int) (ω : Om) (i : Int) : vw s ω 17 i = ω 36 i := rfl
theorem vw18 (s : Int) (ω : Om) (i : Int) : vw s ω 18 i = ω 37 i := rfl
theorem vw_eq {s : Int} {ω ω' : Om} (h2 : ω' 29 2 = ω 29 2) (h8 : ω' 29 8 = ω 29 8) (h31 : ω' 31 = ω 31) (h32 : ω' 32 = ω 32) (h33 : ω' 33 = ω 33) (h34 : ω' 34 = ω 34) (h36 : ω' 36 = ω 36) (h37 : ω' 37 = ω 37) : vw s ω' = vw s ω := by
  funext k i
  unfold vw
  rw [h2, h8, h31, h32, h33, h34, h36, h37]
/-- what always holds of the model -/
def MW (ω : Om) : Prop := WfT (vw 0 ω) ∧ ω 29 7 = 0
theorem zb_and (x m : Int) : zAnd (zShr x m) 1 = zb x m := rfl
set_option maxRecDepth 100000 in
set_option maxHeartbeats 4000000 in
theorem kX7_within {X : Cx} {d : Nat} {ω : Om} {Q : Option MV → Om → Prop} {v a b : Int} (hQ : Q (some (vI (if a ≤ v ∧ v ≤ b then 1 else 0))) ω) : Mc X mX7_within d [vI v, vI a, vI b] ω Q := by
  refine Mc_of [some (vI v), some (vI a), some (vI b)] (by decide +kernel) rfl (Nat.le_of_ble_eq_true rfl) ?_
  refine J_iload_n 0 dX7_within_0 rfl ?_
  refine J_iload_n 1 dX7_within_1 rfl ?_
  refine J_icmp_lt 14 dX7_within_2 (by decide) (fun h2 => ?_) (fun h2 => ?_)
  · skip
    refine J_iconst 0 dX7_within_14 ⟨by decide, by decide⟩ ?_
    refine JM_zret rfl (by omega) dX7_within_15 ?_
    first | (rw [if_pos (by omega)] at hQ; exact hQ) | (rw [if_neg (by omega)] at hQ; exact hQ)
  · skip
    refine J_iload_n 0 dX7_within_5 rfl ?_
    refine J_iload_n 2 dX7_within_6 rfl ?_
    refine J_icmp_gt 14 dX7_within_7 (by decide) (fun h7 => ?_) (fun h7 => ?_)
    · skip
      refine J_iconst 0 dX7_within_14 ⟨by decide, by decide⟩ ?_
      refine JM_zret rfl (by omega) dX7_within_15 ?_
      first | (rw [if_pos (by omega)] at hQ; exact hQ) | (rw [if_neg (by omega)] at hQ; exact hQ)
    · skip
      refine J_iconst 1 dX7_within_10 ⟨by decide, by decide⟩ ?_
      refine J_goto 15 dX7_within_11 (by decide) ?_
      refine JM_zret rfl (by omega) dX7_within_15 ?_
      first | (rw [if_pos (by omega)] at hQ; exact hQ) | (rw [if_neg (by omega)] at hQ; exact hQ)

set_option maxRecDepth 100000 in
set_option maxHeartbeats 4000000 in
theorem kX7_hasBit {X : Cx} {d : Nat} {ω : Om} {Q : Option MV → Om → Prop} {x k : Int} (hQ : Q (some (vI (zb x k))) ω) : Mc X mX7_hasBit d [vI x, vI k] ω Q := by
  have h01 := zb01 x k
  refine Mc_of [some (vI x), some (vI k)] (by decide +kernel) rfl (Nat.le_of_ble_eq_true rfl) ?_
  refine J_iload_n 0 dX7_hasBit_0 rfl ?_
  refine J_iload_n 1 dX7_hasBit_1 rfl ?_
  refine J_ishr dX7_hasBit_2 ?_
  refine J_iconst 1 dX7_hasBit_3 ⟨by decide, by decide⟩ ?_
  refine J_iand dX7_hasBit_4 ?_
  refine J_iconst 1 dX7_hasBit_5 ⟨by decide, by decide⟩ ?_
  refine J_icmp_ne 13 dX7_hasBit_6 (by decide) (fun h6 => ?_) (fun h6 => ?_)
  · skip
    refine J_iconst 0 dX7_hasBit_13 ⟨by decide, by decide⟩ ?_
    refine JM_zret rfl (by omega) dX7_hasBit_14 ?_
    rw [zb_and] at h6
    first | (rw [show zb x k = 1 from by omega] at hQ; exact hQ) | (rw [show zb x k = 0 from by omega] at hQ; exact hQ)
  · skip
    refine J_iconst 1 dX7_hasBit_9 ⟨by decide, by decide⟩ ?_
    refine J_goto 14 dX7_hasBit_10 (by decide) ?_
    refine JM_zret rfl (by omega) dX7_hasBit_14 ?_
    rw [zb_and] at h6
    first | (rw [show zb x k = 1 from by omega] at hQ; exact hQ) | (rw [show zb x k = 0 from by omega] at hQ; exact hQ)

set_option maxRecDepth 100000 in
set_option maxHeartbeats 4000000 in
theorem kX7_letter {X : Cx} {d : Nat} {ω : Om} {Q : Option MV → Om → Prop} {c : Int} (hP : 0 ≤ ω 29 0 ∧ ω 29 0 ≤ 40) (hQ : if 32 ≤ c ∧ c ≤ 126 then (if ω 29 0 < 40 then Q (some (vI (ω 29 0 + 1))) (up (up ω 30 (ω 29 0) c) 29 0 (ω 29 0 + 1)) else Q (some (vI (-1004))) ω) else Q (some (vI (-1002))) ω) : Mc X mX7_letter (d + 1) [vR 29, vI c] ω Q := by
  refine Mc_of [some (vR 29), some (vI c)] (by decide +kernel) rfl (Nat.le_of_ble_eq_true rfl) ?_
  refine J_iload_n 1 dX7_letter_0 rfl ?_
  refine J_bipush 32 dX7_letter_1 ⟨by decide, by decide⟩ (by decide) ?_
  refine J_bipush 126 dX7_letter_3 ⟨by decide, by decide⟩ (by decide) ?_
  refine JM_S3 lkM_X7_77 dX7_letter_5 (by decide) (Nat.le_of_ble_eq_true rfl) ?_
  refine kX7_within ?_
  generalize hg : (if 32 ≤ c ∧ c ≤ 126 then (1 : Int) else 0) = g
  have hg2 : (g = 1 ∧ (32 ≤ c ∧ c ≤ 126)) ∨ (g = 0 ∧ ¬ (32 ≤ c ∧ c ≤ 126)) := by
    subst hg
    split
    · left; exact ⟨rfl, by omega⟩
    · right; exact ⟨rfl, by omega⟩
  refine J_if_ne 15 dX7_letter_8 (by decide) (fun h8 => ?_) (fun h8 => ?_)
  · skip
    refine J_aload_n 0 dX7_letter_15 rfl ?_
    refine J_getI 0 lkF_X7_81 rfl rfl rfl dX7_letter_16 ?_
    refine J_bipush 40 dX7_letter_19 ⟨by decide, by decide⟩ (by decide) ?_
    refine J_icmp_ne 28 dX7_letter_21 (by decide) (fun h21 => ?_) (fun h21 => ?_)
    · skip
      refine J_aload_n 0 dX7_letter_28 rfl ?_
      refine J_getR lkF_X7_7 rfl dX7_letter_29 ?_
      refine J_aload_n 0 dX7_letter_32 rfl ?_
      refine J_getI 0 lkF_X7_81 rfl rfl rfl dX7_letter_33 ?_
      refine J_iload_n 1 dX7_letter_36 rfl ?_
      refine J_iastore _ rfl (by omega) dX7_letter_37 ?_
      refine J_aload_n 0 dX7_letter_38 rfl ?_
      first | refine J_dupR dX7_letter_39 ?_ | refine J_dupI dX7_letter_39 ?_
      refine J_getI 0 lkF_X7_81 rfl rfl rfl dX7_letter_40 ?_
      try simp (config := {decide := true}) only [up_s, up_k, up_i]
      refine J_iconst 1 dX7_letter_43 ⟨by decide, by decide⟩ ?_
      refine J_iadd dX7_letter_44 ⟨by omega, by omega⟩ ?_
      refine J_putI 0 lkF_X7_81 rfl fp_7_0 rfl dX7_letter_45 ?_
      refine J_aload_n 0 dX7_letter_48 rfl ?_
      refine J_getI 0 lkF_X7_81 rfl rfl rfl dX7_letter_49 ?_
      try simp (config := {decide := true}) only [up_s, up_k, up_i]
      refine JM_iret rfl dX7_letter_52 ?_
      rw [if_pos (by omega), if_pos (by omega)] at hQ; exact hQ
    · skip
      refine J_sipush (-1004) dX7_letter_24 ⟨by decide, by decide⟩ (by decide) ?_
      refine JM_iret rfl dX7_letter_27 ?_
      rw [if_pos (by omega), if_neg (by omega)] at hQ; exact hQ
  · skip
    refine J_sipush (-1002) dX7_letter_11 ⟨by decide, by decide⟩ (by decide) ?_
    refine JM_iret rfl dX7_letter_14 ?_
    rw [if_neg (by omega)] at hQ; exact hQ

set_option maxRecDepth 100000 in
set_option maxHeartbeats 4000000 in
theorem kX7_blank {X : Cx} {d : Nat} {ω : Om} {Q : Option MV → Om → Prop} (hQ : Q (some (vI (ω 29 0))) (up ω 29 0 0)) : Mc X mX7_blank d [vR 29] ω Q := by
  refine Mc_of [some (vR 29), none] (by decide +kernel) rfl (Nat.le_of_ble_eq_true rfl) ?_
  refine J_aload_n 0 dX7_blank_0 rfl ?_
  refine J_getI 0 lkF_X7_81 rfl rfl rfl dX7_blank_1 ?_
  refine J_istore_1 dX7_blank_4 (by decide) rfl ?_
  refine J_aload_n 0 dX7_blank_5 rfl ?_
  refine J_iconst 0 dX7_blank_6 ⟨by decide, by decide⟩ ?_
  refine J_putI 0 lkF_X7_81 rfl fp_7_0 rfl dX7_blank_7 ?_
  refine J_iload_n 1 dX7_blank_10 rfl ?_
  refine JM_iret rfl dX7_blank_11 ?_
  exact hQ

set_option maxRecDepth 100000 in
set_option maxHeartbeats 4000000 in
theorem kX7_memberAt {X : Cx} {d : Nat} {ω : Om} {Q : Option MV → Om → Prop} {c : Int} (hc : -100 ≤ c ∧ c ≤ 1000) (hQ : Q (some (vI (memS c))) ω) : Mc X mX7_memberAt (d + 1) [vI c] ω Q := by
  unfold memS at hQ
  refine Mc_of [some (vI c)] (by decide +kernel) rfl (Nat.le_of_ble_eq_true rfl) ?_
  refine J_iload_n 0 dX7_memberAt_0 rfl ?_
  refine J_bipush 97 dX7_memberAt_1 ⟨by decide, by decide⟩ (by decide) ?_
  refine J_bipush 102 dX7_memberAt_3 ⟨by decide, by decide⟩ (by decide) ?_
  refine JM_S3 lkM_X7_77 dX7_memberAt_5 (by decide) (Nat.le_of_ble_eq_true rfl) ?_
  refine kX7_within ?_
  generalize hg : (if 97 ≤ c ∧ c ≤ 102 then (1 : Int) else 0) = g
  have hg2 : (g = 1 ∧ (97 ≤ c ∧ c ≤ 102)) ∨ (g = 0 ∧ ¬ (97 ≤ c ∧ c ≤ 102)) := by
    subst hg
    split
    · left; exact ⟨rfl, by omega⟩
    · right; exact ⟨rfl, by omega⟩
  refine J_if_eq 18 dX7_memberAt_8 (by decide) (fun h8 => ?_) (fun h8 => ?_)
  · skip
    refine J_iload_n 0 dX7_memberAt_18 rfl ?_
    refine J_bipush 117 dX7_memberAt_19 ⟨by decide, by decide⟩ (by decide) ?_
    refine J_bipush 122 dX7_memberAt_21 ⟨by decide, by decide⟩ (by decide) ?_
    refine JM_S3 lkM_X7_77 dX7_memberAt_23 (by decide) (Nat.le_of_ble_eq_true rfl) ?_
    refine kX7_within ?_
    generalize hg1 : (if 117 ≤ c ∧ c ≤ 122 then (1 : Int) else 0) = g1
    have hg12 : (g1 = 1 ∧ (117 ≤ c ∧ c ≤ 122)) ∨ (g1 = 0 ∧ ¬ (117 ≤ c ∧ c ≤ 122)) := by
      subst hg1
      split
      · left; exact ⟨rfl, by omega⟩
      · right; exact ⟨rfl, by omega⟩
    refine J_if_eq 39 dX7_memberAt_26 (by decide) (fun h26 => ?_) (fun h26 => ?_)
    · skip
      refine J_iconst (-1) dX7_memberAt_39 ⟨by decide, by decide⟩ ?_
      refine JM_iret rfl dX7_memberAt_40 ?_
      first | (rw [if_pos (by omega)] at hQ; exact hQ) | (rw [if_neg (by omega), if_pos (by omega)] at hQ; exact hQ) | (rw [if_neg (by omega), if_neg (by omega)] at hQ; exact hQ)
    · skip
      refine J_iload_n 0 dX7_memberAt_29 rfl ?_
      refine J_bipush 117 dX7_memberAt_30 ⟨by decide, by decide⟩ (by decide) ?_
      refine J_isub dX7_memberAt_32 ⟨by omega, by omega⟩ ?_
      refine J_bipush 6 dX7_memberAt_33 ⟨by decide, by decide⟩ (by decide) ?_
      refine J_iadd dX7_memberAt_35 ⟨by omega, by omega⟩ ?_
      refine J_goto 40 dX7_memberAt_36 (by decide) ?_
      refine JM_iret rfl dX7_memberAt_40 ?_
      first | (rw [if_pos (by omega)] at hQ; exact hQ) | (rw [if_neg (by omega), if_pos (by omega)] at hQ; exact hQ) | (rw [if_neg (by omega), if_neg (by omega)] at hQ; exact hQ)
  · skip
    refine J_iload_n 0 dX7_memberAt_11 rfl ?_
    refine J_bipush 97 dX7_memberAt_12 ⟨by decide, by decide⟩ (by decide) ?_
    refine J_isub dX7_memberAt_14 ⟨by omega, by omega⟩ ?_
    refine J_goto 40 dX7_memberAt_15 (by decide) ?_
    refine JM_iret rfl dX7_memberAt_40 ?_
    first | (rw [if_pos (by omega)] at hQ; exact hQ) | (rw [if_neg (by omega), if_pos (by omega)] at hQ; exact hQ) | (rw [if_neg (by omega), if_neg (by omega)] at hQ; exact hQ)

set_option maxRecDepth 100000 in
set_option maxHeartbeats 4000000 in
theorem kX7_memberOf {X : Cx} {d : Nat} {ω : Om} {Q : Option MV → Om → Prop} {s t m : Int} (hs : ω 29 7 = s) (h01 : 0 ≤ s ∧ s ≤ 1) (ht : 0 ≤ t ∧ t < 8) (hm : 0 ≤ m ∧ m < 12) (hQ : Q (some (vI (vw s ω 14 (t * 12 + m)))) ω) : Mc X mX7_memberOf d [vR 29, vI t, vI m] ω Q := by
  refine Mc_of [some (vR 29), some (vI t), some (vI m)] (by decide +kernel) rfl (Nat.le_of_ble_eq_true rfl) ?_
  refine J_aload_n 0 dX7_memberOf_0 rfl ?_
  refine J_getR lkF_X7_20 rfl dX7_memberOf_1 ?_
  refine J_bipush 96 dX7_memberOf_4 ⟨by decide, by decide⟩ (by decide) ?_
  refine J_aload_n 0 dX7_memberOf_6 rfl ?_
  refine J_getI 7 lkF_X7_140 rfl rfl rfl dX7_memberOf_7 ?_
  refine J_imul dX7_memberOf_10 ⟨by omega, by omega⟩ ?_
  refine J_bipush 12 dX7_memberOf_11 ⟨by decide, by decide⟩ (by decide) ?_
  refine J_iload_n 1 dX7_memberOf_13 rfl ?_
  refine J_imul dX7_memberOf_14 ⟨by omega, by omega⟩ ?_
  refine J_iadd dX7_memberOf_15 ⟨by omega, by omega⟩ ?_
  refine J_iload_n 2 dX7_memberOf_16 rfl ?_
  refine J_iadd dX7_memberOf_17 ⟨by omega, by omega⟩ ?_
  refine J_iaload _ rfl rfl (by omega) dX7_memberOf_18 ?_
  refine JM_iret rfl dX7_memberOf_19 ?_
  rw [hs, show (96 : Int) * s + 12 * t + m = 96 * s + (t * 12 + m) from by omega]; exact hQ

set_option maxRecDepth 100000 in
set_option maxHeartbeats 4000000 in
theorem kX7_isHidden {X : Cx} {d : Nat} {ω : Om} {Q : Option MV → Om → Prop} {s t m : Int} (hs : ω 29 7 = s) (h01 : 0 ≤ s ∧ s ≤ 1) (ht : 0 ≤ t ∧ t < 8) (hQ : Q (some (vI (zb (vw s ω 15 t) m))) ω) : Mc X mX7_isHidden (d + 1) [vR 29, vI t, vI m] ω Q := by
  have z01 := zb01 (vw s ω 15 t) m
  have e15 : ω 34 (8 * ω 29 7 + t) = vw s ω 15 t := by rw [hs]; rfl
  refine Mc_of [some (vR 29), some (vI t), some (vI m)] (by decide +kernel) rfl (Nat.le_of_ble_eq_true rfl) ?_
  refine J_aload_n 0 dX7_isHidden_0 rfl ?_
  refine J_getR lkF_X7_23 rfl dX7_isHidden_1 ?_
  refine J_bipush 8 dX7_isHidden_4 ⟨by decide, by decide⟩ (by decide) ?_
  refine J_aload_n 0 dX7_isHidden_6 rfl ?_
  refine J_getI 7 lkF_X7_140 rfl rfl rfl dX7_isHidden_7 ?_
  refine J_imul dX7_isHidden_10 ⟨by omega, by omega⟩ ?_
  refine J_iload_n 1 dX7_isHidden_11 rfl ?_
  refine J_iadd dX7_isHidden_12 ⟨by omega, by omega⟩ ?_
  refine J_iaload _ rfl rfl (by omega) dX7_isHidden_13 ?_
  refine J_iload_n 2 dX7_isHidden_14 rfl ?_
  refine JM_S2 lkM_X7_92 dX7_isHidden_15 (by decide) (Nat.le_of_ble_eq_true rfl) ?_
  refine kX7_hasBit ?_
  refine JM_zret rfl (by rw [e15]; omega) dX7_isHidden_18 ?_
  rw [e15]; exact hQ

set_option maxRecDepth 100000 in
set_option maxHeartbeats 4000000 in
theorem kX7_isType {X : Cx} {d : Nat} {ω : Om} {Q : Option MV → Om → Prop} {t : Int} (h8 : 0 ≤ ω 29 2 ∧ ω 29 2 ≤ 8) (hQ : Q (some (vI (if 0 ≤ t ∧ t < ω 29 2 then 1 else 0))) ω) : Mc X mX7_isType (d + 1) [vR 29, vI t] ω Q := by
  refine Mc_of [some (vR 29), some (vI t)] (by decide +kernel) rfl (Nat.le_of_ble_eq_true rfl) ?_
  refine J_iload_n 1 dX7_isType_0 rfl ?_
  refine J_iconst 0 dX7_isType_1 ⟨by decide, by decide⟩ ?_
  refine J_aload_n 0 dX7_isType_2 rfl ?_
  refine J_getI 2 lkF_X7_112 rfl rfl rfl dX7_isType_3 ?_
  refine J_iconst 1 dX7_isType_6 ⟨by decide, by decide⟩ ?_
  refine J_isub dX7_isType_7 ⟨by omega, by omega⟩ ?_
  refine JM_S3 lkM_X7_77 dX7_isType_8 (by decide) (Nat.le_of_ble_eq_true rfl) ?_
  refine kX7_within ?_
  generalize hg : (if 0 ≤ t ∧ t ≤ ω 29 2 - 1 then (1 : Int) else 0) = g
  have hg2 : (g = 1 ∧ (0 ≤ t ∧ t ≤ ω 29 2 - 1)) ∨ (g = 0 ∧ ¬ (0 ≤ t ∧ t ≤ ω 29 2 - 1)) := by
    subst hg
    split
    · left; exact ⟨rfl, by omega⟩
    · right; exact ⟨rfl, by omega⟩
  refine JM_zret rfl (by omega) dX7_isType_11 ?_
  rcases hg2 with ⟨q, r⟩ | ⟨q, r⟩
  · rw [if_pos (by omega)] at hQ; rw [q]; exact hQ
  · rw [if_neg (by omega)] at hQ; rw [q]; exact hQ

set_option maxRecDepth 100000 in
set_option maxHeartbeats 4000000 in
theorem kX7_isMember {X : Cx} {d : Nat} {ω : Om} {Q : Option MV → Om → Prop} {t m : Int} (n8 : 0 ≤ ω 29 2 ∧ ω 29 2 ≤ 8) (hQ : Q (some (vI (if (0 ≤ t ∧ t < ω 29 2) ∧ 0 ≤ m ∧ m < 12 then 1 else 0))) ω) : Mc X mX7_isMember (d + 2) [vR 29, vI t, vI m] ω Q := by
  refine Mc_of [some (vR 29), some (vI t), some (vI m)] (by decide +kernel) rfl (Nat.le_of_ble_eq_true rfl) ?_
  refine J_aload_n 0 dX7_isMember_0 rfl ?_
  refine J_iload_n 1 dX7_isMember_1 rfl ?_
  refine JM_V1 lkM_X7_147 rcv_29 dX7_isMember_2 (by decide) (Nat.le_of_ble_eq_true rfl) ?_
  refine kX7_isType n8 ?_
  generalize hg : (if 0 ≤ t ∧ t < ω 29 2 then (1 : Int) else 0) = g
  have hg2 : (g = 1 ∧ (0 ≤ t ∧ t < ω 29 2)) ∨ (g = 0 ∧ ¬ (0 ≤ t ∧ t < ω 29 2)) := by
    subst hg
    split
    · left; exact ⟨rfl, by omega⟩
    · right; exact ⟨rfl, by omega⟩
  refine J_if_eq 22 dX7_isMember_5 (by decide) (fun h5 => ?_) (fun h5 => ?_)
  · skip
    refine J_iconst 0 dX7_isMember_22 ⟨by decide, by decide⟩ ?_
    refine JM_zret rfl (by omega) dX7_isMember_23 ?_
    first | (rw [if_pos (by omega)] at hQ; exact hQ) | (rw [if_neg (by omega)] at hQ; exact hQ)
  · skip
    refine J_iload_n 2 dX7_isMember_8 rfl ?_
    refine J_iconst 0 dX7_isMember_9 ⟨by decide, by decide⟩ ?_
    refine J_bipush 11 dX7_isMember_10 ⟨by decide, by decide⟩ (by decide) ?_
    refine JM_S3 lkM_X7_77 dX7_isMember_12 (by decide) (Nat.le_of_ble_eq_true rfl) ?_
    refine kX7_within ?_
    generalize hg1 : (if 0 ≤ m ∧ m ≤ 11 then (1 : Int) else 0) = g1
    have hg12 : (g1 = 1 ∧ (0 ≤ m ∧ m ≤ 11)) ∨ (g1 = 0 ∧ ¬ (0 ≤ m ∧ m ≤ 11)) := by
      subst hg1
      split
      · left; exact ⟨rfl, by omega⟩
      · right; exact ⟨rfl, by omega⟩
    refine J_if_eq 22 dX7_isMember_15 (by decide) (fun h15 => ?_) (fun h15 => ?_)
    · skip
      refine J_iconst 0 dX7_isMember_22 ⟨by decide, by decide⟩ ?_
      refine JM_zret rfl (by omega) dX7_isMember_23 ?_
      first | (rw [if_pos (by omega)] at hQ; exact hQ) | (rw [if_neg (by omega)] at hQ; exact hQ)
    · skip
      refine J_iconst 1 dX7_isMember_18 ⟨by decide, by decide⟩ ?_
      refine J_goto 23 dX7_isMember_19 (by decide) ?_
      refine JM_zret rfl (by omega) dX7_isMember_23 ?_
      first | (rw [if_pos (by omega)] at hQ; exact hQ) | (rw [if_neg (by omega)] at hQ; exact hQ)

set_option maxRecDepth 100000 in
set_option maxHeartbeats 4000000 in
theorem kX7_isMethod {X : Cx} {d : Nat} {ω : Om} {Q : Option MV → Om → Prop} {t m : Int} (n8 : 0 ≤ ω 29 2 ∧ ω 29 2 ≤ 8) (hQ : Q (some (vI (if (0 ≤ t ∧ t < ω 29 2) ∧ 0 ≤ m ∧ m < 6 then 1 else 0))) ω) : Mc X mX7_isMethod (d + 2) [vR 29, vI t, vI m] ω Q := by
  refine Mc_of [some (vR 29), some (vI t), some (vI m)] (by decide +kernel) rfl (Nat.le_of_ble_eq_true rfl) ?_
  refine J_aload_n 0 dX7_isMethod_0 rfl ?_
  refine J_iload_n 1 dX7_isMethod_1 rfl ?_
  refine JM_V1 lkM_X7_147 rcv_29 dX7_isMethod_2 (by decide) (Nat.le_of_ble_eq_true rfl) ?_
  refine kX7_isType n8 ?_
  generalize hg : (if 0 ≤ t ∧ t < ω 29 2 then (1 : Int) else 0) = g
  have hg2 : (g = 1 ∧ (0 ≤ t ∧ t < ω 29 2)) ∨ (g = 0 ∧ ¬ (0 ≤ t ∧ t < ω 29 2)) := by
    subst hg
    split
    · left; exact ⟨rfl, by omega⟩
    · right; exact ⟨rfl, by omega⟩
  refine J_if_eq 21 dX7_isMethod_5 (by decide) (fun h5 => ?_) (fun h5 => ?_)
  · skip
    refine J_iconst 0 dX7_isMethod_21 ⟨by decide, by decide⟩ ?_
    refine JM_zret rfl (by omega) dX7_isMethod_22 ?_
    first | (rw [if_pos (by omega)] at hQ; exact hQ) | (rw [if_neg (by omega)] at hQ; exact hQ)
  · skip
    refine J_iload_n 2 dX7_isMethod_8 rfl ?_
    refine J_iconst 0 dX7_isMethod_9 ⟨by decide, by decide⟩ ?_
    refine J_iconst 5 dX7_isMethod_10 ⟨by decide, by decide⟩ ?_
    refine JM_S3 lkM_X7_77 dX7_isMethod_11 (by decide) (Nat.le_of_ble_eq_true rfl) ?_
    refine kX7_within ?_
    generalize hg1 : (if 0 ≤ m ∧ m ≤ 5 then (1 : Int) else 0) = g1
    have hg12 : (g1 = 1 ∧ (0 ≤ m ∧ m ≤ 5)) ∨ (g1 = 0 ∧ ¬ (0 ≤ m ∧ m ≤ 5)) := by
      subst hg1
      split
      · left; exact ⟨rfl, by omega⟩
      · right; exact ⟨rfl, by omega⟩
    refine J_if_eq 21 dX7_isMethod_14 (by decide) (fun h14 => ?_) (fun h14 => ?_)
    · skip
      refine J_iconst 0 dX7_isMethod_21 ⟨by decide, by decide⟩ ?_
      refine JM_zret rfl (by omega) dX7_isMethod_22 ?_
      first | (rw [if_pos (by omega)] at hQ; exact hQ) | (rw [if_neg (by omega)] at hQ; exact hQ)
    · skip
      refine J_iconst 1 dX7_isMethod_17 ⟨by decide, by decide⟩ ?_
      refine J_goto 22 dX7_isMethod_18 (by decide) ?_
      refine JM_zret rfl (by omega) dX7_isMethod_22 ?_
      first | (rw [if_pos (by omega)] at hQ; exact hQ) | (rw [if_neg (by omega)] at hQ; exact hQ)

set_option maxRecDepth 100000 in
set_option maxHeartbeats 4000000 in
theorem kX7_hollow {X : Cx} {d : Nat} {ω : Om} {Q : Option MV → Om → Prop} {t b : Int} (hM : MW ω) (hb : b = 0 ∨ b = 1) (hQ : if 0 ≤ t ∧ t < ω 29 2 then Q (some (vI (hol (vw 0 ω) t))) (up (up ω 32 t b) 29 12 0) else Q (some (vI (-1001))) ω) : Mc X mX7_hollow (d + 2) [vR 29, vI t, vI b] ω Q := by
  have n8 : 0 ≤ ω 29 2 ∧ ω 29 2 ≤ 8 := hM.1.1
  refine Mc_of [some (vR 29), some (vI t), some (vI b), none] (by decide +kernel) rfl (Nat.le_of_ble_eq_true rfl) ?_
  refine J_aload_n 0 dX7_hollow_0 rfl ?_
  refine J_iload_n 1 dX7_hollow_1 rfl ?_
  refine JM_V1 lkM_X7_147 rcv_29 dX7_hollow_2 (by decide) (Nat.le_of_ble_eq_true rfl) ?_
  refine kX7_isType n8 ?_
  generalize hg : (if 0 ≤ t ∧ t < ω 29 2 then (1 : Int) else 0) = g
  have hg2 : (g = 1 ∧ (0 ≤ t ∧ t < ω 29 2)) ∨ (g = 0 ∧ ¬ (0 ≤ t ∧ t < ω 29 2)) := by
    subst hg
    split
    · left; exact ⟨rfl, by omega⟩
    · right; exact ⟨rfl, by omega⟩
  refine J_if_ne 12 dX7_hollow_5 (by decide) (fun h5 => ?_) (fun h5 => ?_)
  · skip
    refine J_aload_n 0 dX7_hollow_12 rfl ?_
    refine J_getR lkF_X7_16 rfl dX7_hollow_13 ?_
    refine J_iload_n 1 dX7_hollow_16 rfl ?_
    refine J_baload _ rfl rfl (by omega) dX7_hollow_17 ?_
    refine J_if_eq 25 dX7_hollow_18 (by decide) (fun h18 => ?_) (fun h18 => ?_)
    · skip
      refine J_iconst 0 dX7_hollow_25 ⟨by decide, by decide⟩ ?_
      refine J_istore_3 dX7_hollow_26 (by decide) rfl ?_
      refine J_aload_n 0 dX7_hollow_27 rfl ?_
      refine J_getR lkF_X7_16 rfl dX7_hollow_28 ?_
      refine J_iload_n 1 dX7_hollow_31 rfl ?_
      refine J_iload_n 2 dX7_hollow_32 rfl ?_
      refine J_bastore _ rfl (by omega) (by omega) dX7_hollow_33 ?_
      refine J_aload_n 0 dX7_hollow_34 rfl ?_
      refine J_iconst 0 dX7_hollow_35 ⟨by decide, by decide⟩ ?_
      refine J_putI 12 lkF_X7_137 rfl fp_7_12 rfl dX7_hollow_36 ?_
      refine J_iload_n 3 dX7_hollow_39 rfl ?_
      refine JM_iret rfl dX7_hollow_40 ?_
      rw [if_pos (by omega)] at hQ
      unfold hol at hQ
      rw [vw37, vw13] at hQ
      first | (rw [if_pos ⟨by omega, by omega, by omega, by omega⟩] at hQ; exact hQ) | (rw [if_neg (by omega)] at hQ; exact hQ)
    · skip
      refine J_iconst 1 dX7_hollow_21 ⟨by decide, by decide⟩ ?_
      refine J_goto 26 dX7_hollow_22 (by decide) ?_
      refine J_istore_3 dX7_hollow_26 (by decide) rfl ?_
      refine J_aload_n 0 dX7_hollow_27 rfl ?_
      refine J_getR lkF_X7_16 rfl dX7_hollow_28 ?_
      refine J_iload_n 1 dX7_hollow_31 rfl ?_
      refine J_iload_n 2 dX7_hollow_32 rfl ?_
      refine J_bastore _ rfl (by omega) (by omega) dX7_hollow_33 ?_
      refine J_aload_n 0 dX7_hollow_34 rfl ?_
      refine J_iconst 0 dX7_hollow_35 ⟨by decide, by decide⟩ ?_
      refine J_putI 12 lkF_X7_137 rfl fp_7_12 rfl dX7_hollow_36 ?_
      refine J_iload_n 3 dX7_hollow_39 rfl ?_
      refine JM_iret rfl dX7_hollow_40 ?_
      rw [if_pos (by omega)] at hQ
      unfold hol at hQ
      rw [vw37, vw13] at hQ
      first | (rw [if_pos ⟨by omega, by omega, by omega, by omega⟩] at hQ; exact hQ) | (rw [if_neg (by omega)] at hQ; exact hQ)
  · skip
    refine J_sipush (-1001) dX7_hollow_8 ⟨by decide, by decide⟩ (by decide) ?_
    refine JM_iret rfl dX7_hollow_11 ?_
    rw [if_neg (by omega)] at hQ; exact hQ

theorem par_in {s : Int} {ω : Om} (hW : WfT (vw s ω)) {a : Int} (ha : 0 ≤ a ∧ a < ω 29 2) : -1 ≤ ω 31 a ∧ ω 31 a < a := hW.2.2.1 a ha.1 ha.2
theorem n8_vw {s : Int} {ω : Om} (hW : WfT (vw s ω)) : 0 ≤ ω 29 2 ∧ ω 29 2 ≤ 8 := hW.1
set_option maxRecDepth 100000 in
set_option maxHeartbeats 4000000 in
theorem l_ain {X : Cx} {d : Nat} {Q : Option MV → Om → Prop} {ω : Om} {s t0 m : Int} (hs : ω 29 7 = s) (h01 : 0 ≤ s ∧ s ≤ 1) (hW : WfT (vw s ω)) (hm : 0 ≤ m ∧ m < 12) : ∀ (f : Nat) (a : Int), a < f → (-1 ≤ a ∧ a < ω 29 2) → Q (some (vI (nr (vw s ω) m f a))) ω → JM X mX7_answersIn (d + 2) Q 2 [some (vR 29), some (vI t0), some (vI m), some (vI a)] [] ω := by
  have n8 := n8_vw hW
  intro f
  induction f with
  | zero =>
    intro a ha hi hQ
    refine J_iload_n 3 dX7_answersIn_2 rfl ?_
    refine J_iconst (-1) dX7_answersIn_3 ⟨by decide, by decide⟩ ?_
    refine J_icmp_eq 36 dX7_answersIn_4 (by decide) (fun h4 => ?_) (fun h4 => ?_)
    · skip
      refine J_iload_n 3 dX7_answersIn_36 rfl ?_
      refine JM_iret rfl dX7_answersIn_37 ?_
      rw [nr] at hQ; rw [show a = -1 from by omega]; exact hQ
    · skip
      exfalso; omega
  | succ f ih =>
    intro a ha hi hQ
    rw [nr] at hQ
    refine J_iload_n 3 dX7_answersIn_2 rfl ?_
    refine J_iconst (-1) dX7_answersIn_3 ⟨by decide, by decide⟩ ?_
    refine J_icmp_eq 36 dX7_answersIn_4 (by decide) (fun h4 => ?_) (fun h4 => ?_)
    · skip
      rw [if_neg (by omega)] at hQ
      refine J_iload_n 3 dX7_answersIn_36 rfl ?_
      refine JM_iret rfl dX7_answersIn_37 ?_
      first | exact hQ | (rw [show a = -1 from by omega]; exact hQ)
    · skip
      rw [vw37, if_pos (by omega)] at hQ
      have hp := par_in hW (a := a) (by omega)
      refine J_aload_n 0 dX7_answersIn_7 rfl ?_
      refine J_iload_n 3 dX7_answersIn_8 rfl ?_
      refine J_iload_n 2 dX7_answersIn_9 rfl ?_
      refine JM_V2 lkM_X7_150 rcv_29 dX7_answersIn_10 (by decide) (Nat.le_of_ble_eq_true rfl) ?_
      refine kX7_memberOf hs h01 (by omega) hm ?_
      refine J_iconst (-1) dX7_answersIn_13 ⟨by decide, by decide⟩ ?_
      refine J_icmp_eq 26 dX7_answersIn_14 (by decide) (fun h14 => ?_) (fun h14 => ?_)
      · skip
        rw [if_neg (fun q => q.1 h14)] at hQ
        refine J_aload_n 0 dX7_answersIn_26 rfl ?_
        refine J_getR lkF_X7_13 rfl dX7_answersIn_27 ?_
        refine J_iload_n 3 dX7_answersIn_30 rfl ?_
        refine J_iaload _ rfl rfl (by omega) dX7_answersIn_31 ?_
        refine J_istore_3 dX7_answersIn_32 (by decide) rfl ?_
        refine J_goto 2 dX7_answersIn_33 (by decide) ?_
        exact ih _ (by omega) (by omega) hQ
      · skip
        refine J_aload_n 0 dX7_answersIn_17 rfl ?_
        refine J_iload_n 3 dX7_answersIn_18 rfl ?_
        refine J_iload_n 2 dX7_answersIn_19 rfl ?_
        refine JM_V2 lkM_X7_154 rcv_29 dX7_answersIn_20 (by decide) (Nat.le_of_ble_eq_true rfl) ?_
        refine kX7_isHidden hs h01 (by omega) ?_
        refine J_if_eq 36 dX7_answersIn_23 (by decide) (fun h23 => ?_) (fun h23 => ?_)
        · skip
          rw [if_pos ⟨h14, h23⟩] at hQ
          refine J_iload_n 3 dX7_answersIn_36 rfl ?_
          refine JM_iret rfl dX7_answersIn_37 ?_
          first | exact hQ | (rw [show a = -1 from by omega]; exact hQ)
        · skip
          rw [if_neg (fun q => h23 q.2)] at hQ
          refine J_aload_n 0 dX7_answersIn_26 rfl ?_
          refine J_getR lkF_X7_13 rfl dX7_answersIn_27 ?_
          refine J_iload_n 3 dX7_answersIn_30 rfl ?_
          refine J_iaload _ rfl rfl (by omega) dX7_answersIn_31 ?_
          refine J_istore_3 dX7_answersIn_32 (by decide) rfl ?_
          refine J_goto 2 dX7_answersIn_33 (by decide) ?_
          exact ih _ (by omega) (by omega) hQ

set_option maxRecDepth 100000 in
set_option maxHeartbeats 4000000 in
theorem kX7_answersIn {X : Cx} {d : Nat} {ω : Om} {Q : Option MV → Om → Prop} {s t m : Int} (hs : ω 29 7 = s) (h01 : 0 ≤ s ∧ s ≤ 1) (hW : WfT (vw s ω)) (ht : -1 ≤ t ∧ t < ω 29 2) (hm : 0 ≤ m ∧ m < 12) (hQ : Q (some (vI (nrS (vw s ω) t m))) ω) : Mc X mX7_answersIn (d + 2) [vR 29, vI t, vI m] ω Q := by
  have n8 := n8_vw hW
  unfold nrS at hQ
  rw [if_pos hm] at hQ
  refine Mc_of [some (vR 29), some (vI t), some (vI m), none] (by decide +kernel) rfl (Nat.le_of_ble_eq_true rfl) ?_
  refine J_iload_n 1 dX7_answersIn_0 rfl ?_
  refine J_istore_3 dX7_answersIn_1 (by decide) rfl ?_
  exact l_ain hs h01 hW hm 8 t (by omega) ht hQ

theorem nr_rg {τ : Om} {m : Int} : ∀ (f : Nat) (t : Int), nr τ m f t = -1 ∨ ((0 ≤ nr τ m f t ∧ nr τ m f t < τ 3 7 ∧ nr τ m f t < 8) ∧ ¬ τ 14 (nr τ m f t * 12 + m) = -1 ∧ zb (τ 15 (nr τ m f t)) m = 0) := by
  intro f
  induction f with
  | zero => intro t; left; rfl
  | succ f ih =>
    intro t
    rw [nr]
    by_cases h : 0 ≤ t ∧ t < τ 3 7 ∧ t < 8
    · rw [if_pos h]
      by_cases q : ¬ τ 14 (t * 12 + m) = -1 ∧ zAnd (zShr (τ 15 t) m) 1 = 0
      · rw [if_pos q]; right; exact ⟨h, q.1, q.2⟩
      · rw [if_neg q]; exact ih _
    · rw [if_neg h]; left; rfl
theorem nrS_rg {τ : Om} (t m : Int) : nrS τ t m = -1 ∨ ((0 ≤ nrS τ t m ∧ nrS τ t m < τ 3 7 ∧ nrS τ t m < 8) ∧ ¬ τ 14 (nrS τ t m * 12 + m) = -1 ∧ zb (τ 15 (nrS τ t m)) m = 0) := by
  unfold nrS
  split
  · exact nr_rg 8 t
  · left; rfl
theorem hb_nrS {τ : Om} {t m : Int} (hm : 0 ≤ m ∧ m < 12) : (nrS τ t m = -1 → hb τ (nrS τ t m) m = -1) ∧ (¬ nrS τ t m = -1 → hb τ (nrS τ t m) m = τ 14 (nrS τ t m * 12 + m) ∧ ¬ hb τ (nrS τ t m) m = -1) := by
  refine ⟨fun h => ?_, fun h => ?_⟩
  · rw [h]; unfold hb; rw [if_neg (by omega)]
  · rcases nrS_rg (τ := τ) t m with q | q
    · exact absurd q h
    · unfold hb
      rw [if_pos (by omega)]
      exact ⟨rfl, q.2.1⟩
set_option maxRecDepth 100000 in
set_option maxHeartbeats 4000000 in
theorem l_slf {X : Cx} {d : Nat} {Q : Option MV → Om → Prop} {ω : Om} {s t0 m : Int} (hs : ω 29 7 = s) (h01 : 0 ≤ s ∧ s ≤ 1) (hW : WfT (vw s ω)) (hm : 6 ≤ m ∧ m < 12) : ∀ (f : Nat) (a : Int), a < f → (-1 ≤ a ∧ a < ω 29 2) → (JM X mX7_slotFrom (d + 1) Q 27 [some (vR 29), some (vI t0), some (vI m), some (vI (nr (vw s ω) m f a))] [] ω) → JM X mX7_slotFrom (d + 1) Q 2 [some (vR 29), some (vI t0), some (vI m), some (vI a)] [] ω := by
  have n8 := n8_vw hW
  intro f
  induction f with
  | zero =>
    intro a ha hi hQ
    refine J_iload_n 3 dX7_slotFrom_2 rfl ?_
    refine J_iconst (-1) dX7_slotFrom_3 ⟨by decide, by decide⟩ ?_
    refine J_icmp_eq 27 dX7_slotFrom_4 (by decide) (fun h4 => ?_) (fun h4 => ?_)
    · skip
      rw [nr] at hQ; rw [show a = -1 from by omega]; exact hQ
    · skip
      exfalso; omega
  | succ f ih =>
    intro a ha hi hQ
    rw [nr] at hQ
    refine J_iload_n 3 dX7_slotFrom_2 rfl ?_
    refine J_iconst (-1) dX7_slotFrom_3 ⟨by decide, by decide⟩ ?_
    refine J_icmp_eq 27 dX7_slotFrom_4 (by decide) (fun h4 => ?_) (fun h4 => ?_)
    · skip
      rw [if_neg (by omega)] at hQ
      rw [show a = -1 from by omega]; exact hQ
    · skip
      rw [vw37, if_pos (by omega)] at hQ
      have hp := par_in hW (a := a) (by omega)
      have hh := hW.2.2.2.2.2.1 a (by omega) (by rw [vw37]; omega)
      refine J_aload_n 0 dX7_slotFrom_7 rfl ?_
      refine J_iload_n 3 dX7_slotFrom_8 rfl ?_
      refine J_iload_n 2 dX7_slotFrom_9 rfl ?_
      refine JM_V2 lkM_X7_150 rcv_29 dX7_slotFrom_10 (by decide) (Nat.le_of_ble_eq_true rfl) ?_
      refine kX7_memberOf hs h01 (by omega) (by omega) ?_
      refine J_iconst (-1) dX7_slotFrom_13 ⟨by decide, by decide⟩ ?_
      refine J_icmp_ne 27 dX7_slotFrom_14 (by decide) (fun h14 => ?_) (fun h14 => ?_)
      · skip
        rw [if_pos ⟨h14, zb_high hh hm⟩] at hQ
        exact hQ
      · skip
        rw [if_neg (fun q => q.1 (by omega))] at hQ
        refine J_aload_n 0 dX7_slotFrom_17 rfl ?_
        refine J_getR lkF_X7_13 rfl dX7_slotFrom_18 ?_
        refine J_iload_n 3 dX7_slotFrom_21 rfl ?_
        refine J_iaload _ rfl rfl (by omega) dX7_slotFrom_22 ?_
        refine J_istore_3 dX7_slotFrom_23 (by decide) rfl ?_
        refine J_goto 2 dX7_slotFrom_24 (by decide) ?_
        exact ih _ (by omega) (by omega) hQ

set_option maxRecDepth 100000 in
set_option maxHeartbeats 4000000 in
theorem kX7_slotFrom {X : Cx} {d : Nat} {ω : Om} {Q : Option MV → Om → Prop} {s t m : Int} (hs : ω 29 7 = s) (h01 : 0 ≤ s ∧ s ≤ 1) (hW : WfT (vw s ω)) (ht : -1 ≤ t ∧ t < ω 29 2) (hm : 6 ≤ m ∧ m < 12) (hQ : Q (some (vI (hb (vw s ω) (nrS (vw s ω) t m) m))) ω) : Mc X mX7_slotFrom (d + 1) [vR 29, vI t, vI m] ω Q := by
  have n8 := n8_vw hW
  have hN : nrS (vw s ω) t m = nr (vw s ω) m 8 t := by unfold nrS; rw [if_pos (by omega)]
  have hr := nrS_rg (τ := vw s ω) t m
  have hh := hb_nrS (τ := vw s ω) (t := t) (m := m) (by omega)
  rw [hN] at hQ hr hh
  refine Mc_of [some (vR 29), some (vI t), some (vI m), none] (by decide +kernel) rfl (Nat.le_of_ble_eq_true rfl) ?_
  refine J_iload_n 1 dX7_slotFrom_0 rfl ?_
  refine J_istore_3 dX7_slotFrom_1 (by decide) rfl ?_
  refine l_slf hs h01 hW hm 8 t (by omega) ht ?_
  refine J_iload_n 3 dX7_slotFrom_27 rfl ?_
  refine J_iconst (-1) dX7_slotFrom_28 ⟨by decide, by decide⟩ ?_
  refine J_icmp_ne 36 dX7_slotFrom_29 (by decide) (fun h29 => ?_) (fun h29 => ?_)
  · skip
    refine J_aload_n 0 dX7_slotFrom_36 rfl ?_
    refine J_iload_n 3 dX7_slotFrom_37 rfl ?_
    refine J_iload_n 2 dX7_slotFrom_38 rfl ?_
    refine JM_V2 lkM_X7_150 rcv_29 dX7_slotFrom_39 (by decide) (Nat.le_of_ble_eq_true rfl) ?_
    refine kX7_memberOf hs h01 (by omega) (by omega) ?_
    refine JM_iret rfl dX7_slotFrom_42 ?_
    first | (rw [(hh.2 (by omega)).1] at hQ; exact hQ) | (rw [hh.1 (by omega)] at hQ; exact hQ)
  · skip
    refine J_iconst (-1) dX7_slotFrom_32 ⟨by decide, by decide⟩ ?_
    refine J_goto 42 dX7_slotFrom_33 (by decide) ?_
    refine JM_iret rfl dX7_slotFrom_42 ?_
    first | (rw [(hh.2 (by omega)).1] at hQ; exact hQ) | (rw [hh.1 (by omega)] at hQ; exact hQ)

theorem zOr0_tab : ∀ x : Fin 256, zOr x.val 0 = x.val := by decide +kernel
theorem zOr0 {x : Int} (h : 0 ≤ x ∧ x < 256) : zOr x 0 = x := by
  have := zOr0_tab ⟨x.toNat, by omega⟩
  rw [show (((⟨x.toNat, by omega⟩ : Fin 256).val : Nat) : Int) = x from by simp; omega] at this
  exact this
set_option maxRecDepth 100000 in
set_option maxHeartbeats 4000000 in
theorem l_anb {X : Cx} {d : Nat} {Q : Option MV → Om → Prop} {ω : Om} {s t : Int} (hs : ω 29 7 = s) (h01 : 0 ≤ s ∧ s ≤ 1) (hW : WfT (vw s ω)) (ht : -1 ≤ t ∧ t < ω 29 2) : ∀ (n k : Nat), k + n = 6 → Q (some (vI (bitsF (fun m => decide (¬ nrS (vw s ω) t m = -1)) 6))) ω → JM X mX7_answered (d + 3) Q 4 [some (vR 29), some (vI t), some (vI (bitsF (fun m => decide (¬ nrS (vw s ω) t m = -1)) k)), some (vI k)] [] ω := by
  intro n
  induction n with
  | zero =>
    intro k hk hQ
    refine J_iload_n 3 dX7_answered_4 rfl ?_
    refine J_bipush 6 dX7_answered_5 ⟨by decide, by decide⟩ (by decide) ?_
    refine J_icmp_ge 36 dX7_answered_7 (by decide) (fun h7 => ?_) (fun h7 => ?_)
    · skip
      refine J_iload_n 2 dX7_answered_36 rfl ?_
      refine JM_iret rfl dX7_answered_37 ?_
      rw [show k = 6 from by omega]; exact hQ
    · skip
      exfalso; omega
  | succ n ih =>
    intro k hk hQ
    refine J_iload_n 3 dX7_answered_4 rfl ?_
    refine J_bipush 6 dX7_answered_5 ⟨by decide, by decide⟩ (by decide) ?_
    refine J_icmp_ge 36 dX7_answered_7 (by decide) (fun h7 => ?_) (fun h7 => ?_)
    · skip
      exfalso; omega
    · skip
      refine J_iload_n 2 dX7_answered_10 rfl ?_
      refine J_aload_n 0 dX7_answered_11 rfl ?_
      refine J_iload_n 1 dX7_answered_12 rfl ?_
      refine J_iload_n 3 dX7_answered_13 rfl ?_
      refine JM_V2 lkM_X7_157 rcv_29 dX7_answered_14 (by decide) (Nat.le_of_ble_eq_true rfl) ?_
      refine kX7_answersIn hs h01 hW ht (by omega) ?_
      refine J_iconst (-1) dX7_answered_17 ⟨by decide, by decide⟩ ?_
      refine J_icmp_ne 25 dX7_answered_18 (by decide) (fun h18 => ?_) (fun h18 => ?_)
      · skip
        refine J_iconst 1 dX7_answered_25 ⟨by decide, by decide⟩ ?_
        refine J_iload_n 3 dX7_answered_26 rfl ?_
        refine J_ishl dX7_answered_27 ?_
        refine J_ior dX7_answered_28 ?_
        refine J_istore_2 dX7_answered_29 (by decide) rfl ?_
        refine J_iinc_3 dX7_answered_30 (by decide) ⟨by omega, by omega⟩ rfl ?_
        refine J_goto 4 dX7_answered_33 (by decide) ?_
        have e := ih (k + 1) (by omega) hQ
        rw [bitsF] at e
        first | (rw [if_pos (by simp only [decide_eq_true_eq]; exact h18)] at e; exact e) | (rw [if_neg (by simp only [decide_eq_true_eq]; omega)] at e; rw [zOr0 (bitsF_zb k (by omega)).1]; exact e)
      · skip
        refine J_iconst 0 dX7_answered_21 ⟨by decide, by decide⟩ ?_
        refine J_goto 28 dX7_answered_22 (by decide) ?_
        refine J_ior dX7_answered_28 ?_
        refine J_istore_2 dX7_answered_29 (by decide) rfl ?_
        refine J_iinc_3 dX7_answered_30 (by decide) ⟨by omega, by omega⟩ rfl ?_
        refine J_goto 4 dX7_answered_33 (by decide) ?_
        have e := ih (k + 1) (by omega) hQ
        rw [bitsF] at e
        first | (rw [if_pos (by simp only [decide_eq_true_eq]; exact h18)] at e; exact e) | (rw [if_neg (by simp only [decide_eq_true_eq]; omega)] at e; rw [zOr0 (bitsF_zb k (by omega)).1]; exact e)

set_option maxRecDepth 100000 in
set_option maxHeartbeats 4000000 in
theorem kX7_answered {X : Cx} {d : Nat} {ω : Om} {Q : Option MV → Om → Prop} {s t : Int} (hs : ω 29 7 = s) (h01 : 0 ≤ s ∧ s ≤ 1) (hW : WfT (vw s ω)) (ht : -1 ≤ t ∧ t < ω 29 2) (hQ : Q (some (vI (ansB (vw s ω) t))) ω) : Mc X mX7_answered (d + 3) [vR 29, vI t] ω Q := by
  refine Mc_of [some (vR 29), some (vI t), none, none] (by decide +kernel) rfl (Nat.le_of_ble_eq_true rfl) ?_
  refine J_iconst 0 dX7_answered_0 ⟨by decide, by decide⟩ ?_
  refine J_istore_2 dX7_answered_1 (by decide) rfl ?_
  refine J_iconst 0 dX7_answered_2 ⟨by decide, by decide⟩ ?_
  refine J_istore_3 dX7_answered_3 (by decide) rfl ?_
  exact l_anb hs h01 hW ht 6 0 (by omega) hQ

set_option maxRecDepth 100000 in
set_option maxHeartbeats 4000000 in
theorem l_hof {X : Cx} {d : Nat} {Q : Option MV → Om → Prop} {ω : Om} {t a : Int} (hM : MW ω) (ht : 0 ≤ t ∧ t < ω 29 2) (ha : a = 0 ∨ a = 6) : ∀ (n k : Nat), k + n = 6 → Q (some (vI (bitsF (fun k => decide (¬ hb (vw 0 ω) t (a + k) = -1)) 6))) ω → JM X mX7_hasOf (d + 1) Q 6 [some (vR 29), some (vI t), some (vI a), some (vI 6), some (vI (bitsF (fun k => decide (¬ hb (vw 0 ω) t (a + k) = -1)) k)), some (vI k)] [] ω := by
  have n8 := n8_vw hM.1
  intro n
  induction n with
  | zero =>
    intro k hk hQ
    refine J_iload 5 dX7_hasOf_6 rfl ?_
    refine J_iload_n 3 dX7_hasOf_8 rfl ?_
    refine J_icmp_ge 44 dX7_hasOf_9 (by decide) (fun h9 => ?_) (fun h9 => ?_)
    · skip
      refine J_iload 4 dX7_hasOf_44 rfl ?_
      refine JM_iret rfl dX7_hasOf_46 ?_
      rw [show k = 6 from by omega]; exact hQ
    · skip
      exfalso; omega
  | succ n ih =>
    intro k hk hQ
    refine J_iload 5 dX7_hasOf_6 rfl ?_
    refine J_iload_n 3 dX7_hasOf_8 rfl ?_
    refine J_icmp_ge 44 dX7_hasOf_9 (by decide) (fun h9 => ?_) (fun h9 => ?_)
    · skip
      exfalso; omega
    · skip
      refine J_iload 4 dX7_hasOf_12 rfl ?_
      refine J_aload_n 0 dX7_hasOf_14 rfl ?_
      refine J_iload_n 1 dX7_hasOf_15 rfl ?_
      refine J_iload_n 2 dX7_hasOf_16 rfl ?_
      refine J_iload 5 dX7_hasOf_17 rfl ?_
      refine J_iadd dX7_hasOf_19 ⟨by omega, by omega⟩ ?_
      refine JM_V2 lkM_X7_150 rcv_29 dX7_hasOf_20 (by decide) (Nat.le_of_ble_eq_true rfl) ?_
      refine kX7_memberOf hM.2 (by decide) (by omega) (by omega) ?_
      rw [← hb_in hM.1 (by rw [vw37]; omega) (by omega)]
      refine J_iconst (-1) dX7_hasOf_23 ⟨by decide, by decide⟩ ?_
      refine J_icmp_ne 31 dX7_hasOf_24 (by decide) (fun h24 => ?_) (fun h24 => ?_)
      · skip
        refine J_iconst 1 dX7_hasOf_31 ⟨by decide, by decide⟩ ?_
        refine J_iload 5 dX7_hasOf_32 rfl ?_
        refine J_ishl dX7_hasOf_34 ?_
        refine J_ior dX7_hasOf_35 ?_
        refine J_istore_4 dX7_hasOf_36 (by decide) rfl ?_
        refine J_iinc_5 dX7_hasOf_38 (by decide) ⟨by omega, by omega⟩ rfl ?_
        refine J_goto 6 dX7_hasOf_41 (by decide) ?_
        have e := ih (k + 1) (by omega) hQ
        rw [bitsF] at e
        first | (rw [if_pos (by simp only [decide_eq_true_eq]; exact h24)] at e; exact e) | (rw [if_neg (by simp only [decide_eq_true_eq]; omega)] at e; rw [zOr0 (bitsF_zb k (by omega)).1]; exact e)
      · skip
        refine J_iconst 0 dX7_hasOf_27 ⟨by decide, by decide⟩ ?_
        refine J_goto 35 dX7_hasOf_28 (by decide) ?_
        refine J_ior dX7_hasOf_35 ?_
        refine J_istore_4 dX7_hasOf_36 (by decide) rfl ?_
        refine J_iinc_5 dX7_hasOf_38 (by decide) ⟨by omega, by omega⟩ rfl ?_
        refine J_goto 6 dX7_hasOf_41 (by decide) ?_
        have e := ih (k + 1) (by omega) hQ
        rw [bitsF] at e
        first | (rw [if_pos (by simp only [decide_eq_true_eq]; exact h24)] at e; exact e) | (rw [if_neg (by simp only [decide_eq_true_eq]; omega)] at e; rw [zOr0 (bitsF_zb k (by omega)).1]; exact e)

set_option maxRecDepth 100000 in
set_option maxHeartbeats 4000000 in
theorem kX7_hasOf {X : Cx} {d : Nat} {ω : Om} {Q : Option MV → Om → Prop} {t a : Int} (hM : MW ω) (ht : 0 ≤ t ∧ t < ω 29 2) (ha : a = 0 ∨ a = 6) (hQ : Q (some (vI (bitsF (fun k => decide (¬ hb (vw 0 ω) t (a + k) = -1)) 6))) ω) : Mc X mX7_hasOf (d + 1) [vR 29, vI t, vI a, vI 6] ω Q := by
  refine Mc_of [some (vR 29), some (vI t), some (vI a), some (vI 6), none, none] (by decide +kernel) rfl (Nat.le_of_ble_eq_true rfl) ?_
  refine J_iconst 0 dX7_hasOf_0 ⟨by decide, by decide⟩ ?_
  refine J_istore_4 dX7_hasOf_1 (by decide) rfl ?_
  refine J_iconst 0 dX7_hasOf_3 ⟨by decide, by decide⟩ ?_
  refine J_istore_5 dX7_hasOf_4 (by decide) rfl ?_
  exact l_hof hM ht ha 6 0 (by omega) hQ

set_option maxRecDepth 100000 in
set_option maxHeartbeats 4000000 in
theorem l_blw {X : Cx} {d : Nat} {Q : Option MV → Om → Prop} {ω : Om} {t : Int} (hM : MW ω) : ∀ (n k : Nat), k + n = (ω 29 2).toNat → Q (some (vI (bitsF (fun c => decide (pr (vw 0 ω) c = t)) (ω 29 2).toNat))) ω → JM X mX7_below d Q 4 [some (vR 29), some (vI t), some (vI (bitsF (fun c => decide (pr (vw 0 ω) c = t)) k)), some (vI k)] [] ω := by
  have n8 := n8_vw hM.1
  intro n
  induction n with
  | zero =>
    intro k hk hQ
    refine J_iload_n 3 dX7_below_4 rfl ?_
    refine J_aload_n 0 dX7_below_5 rfl ?_
    refine J_getI 2 lkF_X7_112 rfl rfl rfl dX7_below_6 ?_
    refine J_icmp_ge 38 dX7_below_9 (by decide) (fun h9 => ?_) (fun h9 => ?_)
    · skip
      refine J_iload_n 2 dX7_below_38 rfl ?_
      refine JM_iret rfl dX7_below_39 ?_
      rw [show k = (ω 29 2).toNat from by omega]; exact hQ
    · skip
      exfalso; omega
  | succ n ih =>
    intro k hk hQ
    refine J_iload_n 3 dX7_below_4 rfl ?_
    refine J_aload_n 0 dX7_below_5 rfl ?_
    refine J_getI 2 lkF_X7_112 rfl rfl rfl dX7_below_6 ?_
    refine J_icmp_ge 38 dX7_below_9 (by decide) (fun h9 => ?_) (fun h9 => ?_)
    · skip
      exfalso; omega
    · skip
      refine J_iload_n 2 dX7_below_12 rfl ?_
      refine J_aload_n 0 dX7_below_13 rfl ?_
      refine J_getR lkF_X7_13 rfl dX7_below_14 ?_
      refine J_iload_n 3 dX7_below_17 rfl ?_
      refine J_iaload _ rfl rfl (by omega) dX7_below_18 ?_
      refine J_iload_n 1 dX7_below_19 rfl ?_
      refine J_icmp_ne 29 dX7_below_20 (by decide) (fun h20 => ?_) (fun h20 => ?_)
      · skip
        refine J_iconst 0 dX7_below_29 ⟨by decide, by decide⟩ ?_
        refine J_ior dX7_below_30 ?_
        refine J_istore_2 dX7_below_31 (by decide) rfl ?_
        refine J_iinc_3 dX7_below_32 (by decide) ⟨by omega, by omega⟩ rfl ?_
        refine J_goto 4 dX7_below_35 (by decide) ?_
        have hp := pr_in hM.1 (t := (k : Int)) (by rw [vw37]; omega)
        rw [vw12] at hp
        have e := ih (k + 1) (by omega) hQ
        rw [bitsF] at e
        first | (rw [if_pos (by simp only [decide_eq_true_eq]; omega)] at e; exact e) | (rw [if_neg (by simp only [decide_eq_true_eq]; omega)] at e; rw [zOr0 (bitsF_zb k (by omega)).1]; exact e)
      · skip
        refine J_iconst 1 dX7_below_23 ⟨by decide, by decide⟩ ?_
        refine J_iload_n 3 dX7_below_24 rfl ?_
        refine J_ishl dX7_below_25 ?_
        refine J_goto 30 dX7_below_26 (by decide) ?_
        refine J_ior dX7_below_30 ?_
        refine J_istore_2 dX7_below_31 (by decide) rfl ?_
        refine J_iinc_3 dX7_below_32 (by decide) ⟨by omega, by omega⟩ rfl ?_
        refine J_goto 4 dX7_below_35 (by decide) ?_
        have hp := pr_in hM.1 (t := (k : Int)) (by rw [vw37]; omega)
        rw [vw12] at hp
        have e := ih (k + 1) (by omega) hQ
        rw [bitsF] at e
        first | (rw [if_pos (by simp only [decide_eq_true_eq]; omega)] at e; exact e) | (rw [if_neg (by simp only [decide_eq_true_eq]; omega)] at e; rw [zOr0 (bitsF_zb k (by omega)).1]; exact e)

set_option maxRecDepth 100000 in
set_option maxHeartbeats 4000000 in
theorem kX7_below {X : Cx} {d : Nat} {ω : Om} {Q : Option MV → Om → Prop} {t : Int} (hM : MW ω) (hQ : Q (some (vI (bitsF (fun c => decide (pr (vw 0 ω) c = t)) (ω 29 2).toNat))) ω) : Mc X mX7_below d [vR 29, vI t] ω Q := by
  have n8 := n8_vw hM.1
  refine Mc_of [some (vR 29), some (vI t), none, none] (by decide +kernel) rfl (Nat.le_of_ble_eq_true rfl) ?_
  refine J_iconst 0 dX7_below_0 ⟨by decide, by decide⟩ ?_
  refine J_istore_2 dX7_below_1 (by decide) rfl ?_
  refine J_iconst 0 dX7_below_2 ⟨by decide, by decide⟩ ?_
  refine J_istore_3 dX7_below_3 (by decide) rfl ?_
  exact l_blw hM (ω 29 2).toNat 0 (by omega) hQ

set_option maxRecDepth 100000 in
set_option maxHeartbeats 4000000 in
theorem kX7_typeNow {X : Cx} {d : Nat} {ω : Om} {Q : Option MV → Om → Prop} {t w : Int} (hM : MW ω) (ht : 0 ≤ t ∧ t < ω 29 2) (hw : 0 ≤ w ∧ w ≤ 6) (hQ : Q (some (vI (aOf (vw 0 ω) t w))) ω) : Mc X mX7_typeNow (d + 4) [vR 29, vI t, vI w] ω Q := by
  have n8 := n8_vw hM.1
  unfold aOf at hQ
  rw [vw37, if_pos (by omega)] at hQ
  refine Mc_of [some (vR 29), some (vI t), some (vI w)] (by decide +kernel) rfl (Nat.le_of_ble_eq_true rfl) ?_
  refine J_iload_n 2 dX7_typeNow_0 rfl ?_
  refine J_switch dX7_typeNow_1 94 (by decide) (fun h1 => ?_) (fun h1a h1b => ?_)
  · skip
    refine J_aload_n 0 dX7_typeNow_94 rfl ?_
    refine J_iload_n 1 dX7_typeNow_95 rfl ?_
    refine JM_V1 lkM_X7_167 rcv_29 dX7_typeNow_96 (by decide) (Nat.le_of_ble_eq_true rfl) ?_
    refine kX7_below hM ?_
    refine JM_iret rfl dX7_typeNow_99 ?_
    obtain rfl : w = 6 := by omega
    rw [if_neg (by decide), if_neg (by decide), if_neg (by decide), if_neg (by decide), if_neg (by decide), if_neg (by decide), if_pos rfl] at hQ; exact hQ
  · skip
    rcases (show w = 0 ∨ w = 1 ∨ w = 2 ∨ w = 3 ∨ w = 4 ∨ w = 5 by omega) with rfl | rfl | rfl | rfl | rfl | rfl
    · skip
      refine ⟨39, 40, rfl, by decide, ?_⟩
      refine J_aload_n 0 dX7_typeNow_40 rfl ?_
      refine J_getR lkF_X7_13 rfl dX7_typeNow_41 ?_
      refine J_iload_n 1 dX7_typeNow_44 rfl ?_
      refine J_iaload _ rfl rfl (by omega) dX7_typeNow_45 ?_
      refine JM_iret rfl dX7_typeNow_46 ?_
      rw [if_pos rfl, pr_in hM.1 (by rw [vw37]; omega)] at hQ; exact hQ
    · skip
      refine ⟨46, 47, rfl, by decide, ?_⟩
      refine J_aload_n 0 dX7_typeNow_47 rfl ?_
      refine J_getR lkF_X7_16 rfl dX7_typeNow_48 ?_
      refine J_iload_n 1 dX7_typeNow_51 rfl ?_
      refine J_baload _ rfl rfl (by omega) dX7_typeNow_52 ?_
      refine J_if_eq 60 dX7_typeNow_53 (by decide) (fun h53 => ?_) (fun h53 => ?_)
      · skip
        refine J_iconst 0 dX7_typeNow_60 ⟨by decide, by decide⟩ ?_
        refine JM_iret rfl dX7_typeNow_61 ?_
        rw [if_neg (by decide), if_pos rfl] at hQ
        unfold hol at hQ
        rw [vw37, vw13] at hQ
        first | (rw [if_pos ⟨by omega, by omega, by omega, by omega⟩] at hQ; exact hQ) | (rw [if_neg (by omega)] at hQ; exact hQ)
      · skip
        refine J_iconst 1 dX7_typeNow_56 ⟨by decide, by decide⟩ ?_
        refine J_goto 61 dX7_typeNow_57 (by decide) ?_
        refine JM_iret rfl dX7_typeNow_61 ?_
        rw [if_neg (by decide), if_pos rfl] at hQ
        unfold hol at hQ
        rw [vw37, vw13] at hQ
        first | (rw [if_pos ⟨by omega, by omega, by omega, by omega⟩] at hQ; exact hQ) | (rw [if_neg (by omega)] at hQ; exact hQ)
    · skip
      refine ⟨61, 62, rfl, by decide, ?_⟩
      refine J_aload_n 0 dX7_typeNow_62 rfl ?_
      refine J_iload_n 1 dX7_typeNow_63 rfl ?_
      refine J_iconst 0 dX7_typeNow_64 ⟨by decide, by decide⟩ ?_
      refine J_bipush 6 dX7_typeNow_65 ⟨by decide, by decide⟩ (by decide) ?_
      refine JM_V3 lkM_X7_160 rcv_29 dX7_typeNow_67 (by decide) (Nat.le_of_ble_eq_true rfl) ?_
      refine kX7_hasOf hM ht (Or.inl rfl) ?_
      refine JM_iret rfl dX7_typeNow_70 ?_
      rw [if_neg (by decide), if_neg (by decide), if_pos rfl] at hQ; exact hQ
    · skip
      refine ⟨70, 71, rfl, by decide, ?_⟩
      refine J_aload_n 0 dX7_typeNow_71 rfl ?_
      refine J_getR lkF_X7_23 rfl dX7_typeNow_72 ?_
      refine J_iload_n 1 dX7_typeNow_75 rfl ?_
      refine J_iaload _ rfl rfl (by omega) dX7_typeNow_76 ?_
      refine JM_iret rfl dX7_typeNow_77 ?_
      rw [if_neg (by decide), if_neg (by decide), if_neg (by decide), if_pos rfl, vw15, show (8 : Int) * 0 + t = t from by omega] at hQ; exact hQ
    · skip
      refine ⟨77, 78, rfl, by decide, ?_⟩
      refine J_aload_n 0 dX7_typeNow_78 rfl ?_
      refine J_iload_n 1 dX7_typeNow_79 rfl ?_
      refine J_bipush 6 dX7_typeNow_80 ⟨by decide, by decide⟩ (by decide) ?_
      refine J_bipush 6 dX7_typeNow_82 ⟨by decide, by decide⟩ (by decide) ?_
      refine JM_V3 lkM_X7_160 rcv_29 dX7_typeNow_84 (by decide) (Nat.le_of_ble_eq_true rfl) ?_
      refine kX7_hasOf hM ht (Or.inr rfl) ?_
      refine JM_iret rfl dX7_typeNow_87 ?_
      rw [if_neg (by decide), if_neg (by decide), if_neg (by decide), if_neg (by decide), if_pos rfl] at hQ; exact hQ
    · skip
      refine ⟨87, 88, rfl, by decide, ?_⟩
      refine J_aload_n 0 dX7_typeNow_88 rfl ?_
      refine J_iload_n 1 dX7_typeNow_89 rfl ?_
      refine JM_V1 lkM_X7_164 rcv_29 dX7_typeNow_90 (by decide) (Nat.le_of_ble_eq_true rfl) ?_
      refine kX7_answered hM.2 (by decide) hM.1 (by omega) ?_
      refine JM_iret rfl dX7_typeNow_93 ?_
      rw [if_neg (by decide), if_neg (by decide), if_neg (by decide), if_neg (by decide), if_neg (by decide), if_pos rfl] at hQ; exact hQ

set_option maxRecDepth 100000 in
set_option maxHeartbeats 4000000 in
theorem kX7_of {X : Cx} {d : Nat} {ω : Om} {Q : Option MV → Om → Prop} {t w : Int} (hM : MW ω) (hQ : Q (some (vI (aOf (vw 0 ω) t w))) ω) : Mc X mX7_of (d + 5) [vR 29, vI t, vI w] ω Q := by
  have n8 := n8_vw hM.1
  refine Mc_of [some (vR 29), some (vI t), some (vI w)] (by decide +kernel) rfl (Nat.le_of_ble_eq_true rfl) ?_
  refine J_aload_n 0 dX7_of_0 rfl ?_
  refine J_iload_n 1 dX7_of_1 rfl ?_
  refine JM_V1 lkM_X7_147 rcv_29 dX7_of_2 (by decide) (Nat.le_of_ble_eq_true rfl) ?_
  refine kX7_isType n8 ?_
  generalize hg : (if 0 ≤ t ∧ t < ω 29 2 then (1 : Int) else 0) = g
  have hg2 : (g = 1 ∧ (0 ≤ t ∧ t < ω 29 2)) ∨ (g = 0 ∧ ¬ (0 ≤ t ∧ t < ω 29 2)) := by
    subst hg
    split
    · left; exact ⟨rfl, by omega⟩
    · right; exact ⟨rfl, by omega⟩
  refine J_if_ne 12 dX7_of_5 (by decide) (fun h5 => ?_) (fun h5 => ?_)
  · skip
    refine J_iload_n 2 dX7_of_12 rfl ?_
    refine J_iconst 0 dX7_of_13 ⟨by decide, by decide⟩ ?_
    refine J_bipush 6 dX7_of_14 ⟨by decide, by decide⟩ (by decide) ?_
    refine JM_S3 lkM_X7_77 dX7_of_16 (by decide) (Nat.le_of_ble_eq_true rfl) ?_
    refine kX7_within ?_
    generalize hg1 : (if 0 ≤ w ∧ w ≤ 6 then (1 : Int) else 0) = g1
    have hg12 : (g1 = 1 ∧ (0 ≤ w ∧ w ≤ 6)) ∨ (g1 = 0 ∧ ¬ (0 ≤ w ∧ w ≤ 6)) := by
      subst hg1
      split
      · left; exact ⟨rfl, by omega⟩
      · right; exact ⟨rfl, by omega⟩
    refine J_if_eq 31 dX7_of_19 (by decide) (fun h19 => ?_) (fun h19 => ?_)
    · skip
      refine J_sipush (-1002) dX7_of_31 ⟨by decide, by decide⟩ (by decide) ?_
      refine JM_iret rfl dX7_of_34 ?_
      first | exact hQ | (unfold aOf at hQ; rw [vw37, if_pos (by omega), if_neg (by omega), if_neg (by omega), if_neg (by omega), if_neg (by omega), if_neg (by omega), if_neg (by omega), if_neg (by omega)] at hQ; exact hQ)
    · skip
      refine J_aload_n 0 dX7_of_22 rfl ?_
      refine J_iload_n 1 dX7_of_23 rfl ?_
      refine J_iload_n 2 dX7_of_24 rfl ?_
      refine JM_V2 lkM_X7_170 rcv_29 dX7_of_25 (by decide) (Nat.le_of_ble_eq_true rfl) ?_
      refine kX7_typeNow hM (by omega) (by omega) ?_
      refine J_goto 34 dX7_of_28 (by decide) ?_
      refine JM_iret rfl dX7_of_34 ?_
      first | exact hQ | (unfold aOf at hQ; rw [vw37, if_pos (by omega), if_neg (by omega), if_neg (by omega), if_neg (by omega), if_neg (by omega), if_neg (by omega), if_neg (by omega), if_neg (by omega)] at hQ; exact hQ)
  · skip
    refine J_sipush (-1001) dX7_of_8 ⟨by decide, by decide⟩ (by decide) ?_
    refine JM_iret rfl dX7_of_11 ?_
    unfold aOf at hQ
    rw [vw37, if_neg (by omega)] at hQ; exact hQ

set_option maxRecDepth 100000 in
set_option maxHeartbeats 4000000 in
theorem kX7_has {X : Cx} {d : Nat} {ω : Om} {Q : Option MV → Om → Prop} {t m : Int} (hM : MW ω) (hQ : Q (some (vI (aHas (vw 0 ω) t m))) ω) : Mc X mX7_has (d + 3) [vR 29, vI t, vI m] ω Q := by
  have n8 := n8_vw hM.1
  unfold aHas at hQ
  rw [vw37] at hQ
  refine Mc_of [some (vR 29), some (vI t), some (vI m)] (by decide +kernel) rfl (Nat.le_of_ble_eq_true rfl) ?_
  refine J_aload_n 0 dX7_has_0 rfl ?_
  refine J_iload_n 1 dX7_has_1 rfl ?_
  refine J_iload_n 2 dX7_has_2 rfl ?_
  refine JM_V2 lkM_X7_173 rcv_29 dX7_has_3 (by decide) (Nat.le_of_ble_eq_true rfl) ?_
  refine kX7_isMember n8 ?_
  generalize hg : (if (0 ≤ t ∧ t < ω 29 2) ∧ 0 ≤ m ∧ m < 12 then (1 : Int) else 0) = g
  have hg2 : (g = 1 ∧ ((0 ≤ t ∧ t < ω 29 2) ∧ 0 ≤ m ∧ m < 12)) ∨ (g = 0 ∧ ¬ ((0 ≤ t ∧ t < ω 29 2) ∧ 0 ≤ m ∧ m < 12)) := by
    subst hg
    split
    · left; exact ⟨rfl, by omega⟩
    · right; exact ⟨rfl, by omega⟩
  refine J_if_eq 18 dX7_has_6 (by decide) (fun h6 => ?_) (fun h6 => ?_)
  · skip
    refine J_sipush (-1001) dX7_has_18 ⟨by decide, by decide⟩ (by decide) ?_
    refine JM_iret rfl dX7_has_21 ?_
    first | (rw [if_pos (by omega)] at hQ; exact hQ) | (rw [if_neg (by omega)] at hQ; exact hQ)
  · skip
    refine J_aload_n 0 dX7_has_9 rfl ?_
    refine J_iload_n 1 dX7_has_10 rfl ?_
    refine J_iload_n 2 dX7_has_11 rfl ?_
    refine JM_V2 lkM_X7_150 rcv_29 dX7_has_12 (by decide) (Nat.le_of_ble_eq_true rfl) ?_
    refine kX7_memberOf hM.2 (by decide) (by omega) (by omega) ?_
    rw [← hb_in hM.1 (by rw [vw37]; omega) (by omega)]
    refine J_goto 21 dX7_has_15 (by decide) ?_
    refine JM_iret rfl dX7_has_21 ?_
    first | (rw [if_pos (by omega)] at hQ; exact hQ) | (rw [if_neg (by omega)] at hQ; exact hQ)

set_option maxRecDepth 100000 in
set_option maxHeartbeats 4000000 in
theorem kX7_answerNow {X : Cx} {d : Nat} {ω : Om} {Q : Option MV → Om → Prop} {t m w : Int} (hM : MW ω) (ht : 0 ≤ t ∧ t < ω 29 2) (hm : 0 ≤ m ∧ m < 6) (hQ : Q (some (vI (ansN (vw 0 ω) t m w))) ω) : Mc X mX7_answerNow (d + 3) [vR 29, vI t, vI m, vI w] ω Q := by
  have n8 := n8_vw hM.1
  have hr := nrS_rg (τ := vw 0 ω) t m
  rw [vw37] at hr
  have hh := hb_nrS (τ := vw 0 ω) (t := t) (m := m) (by omega)
  unfold ansN at hQ
  refine Mc_of [some (vR 29), some (vI t), some (vI m), some (vI w), none] (by decide +kernel) rfl (Nat.le_of_ble_eq_true rfl) ?_
  refine J_aload_n 0 dX7_answerNow_0 rfl ?_
  refine J_iload_n 1 dX7_answerNow_1 rfl ?_
  refine J_iload_n 2 dX7_answerNow_2 rfl ?_
  refine JM_V2 lkM_X7_157 rcv_29 dX7_answerNow_3 (by decide) (Nat.le_of_ble_eq_true rfl) ?_
  refine kX7_answersIn hM.2 (by decide) hM.1 (by omega) (by omega) ?_
  refine J_istore_4 dX7_answerNow_6 (by decide) rfl ?_
  refine J_iload 4 dX7_answerNow_8 rfl ?_
  refine J_iconst (-1) dX7_answerNow_10 ⟨by decide, by decide⟩ ?_
  refine J_icmp_ne 18 dX7_answerNow_11 (by decide) (fun h11 => ?_) (fun h11 => ?_)
  · skip
    refine J_iload_n 3 dX7_answerNow_18 rfl ?_
    refine J_if_ne 32 dX7_answerNow_19 (by decide) (fun h19 => ?_) (fun h19 => ?_)
    · skip
      refine J_iload 4 dX7_answerNow_32 rfl ?_
      refine JM_iret rfl dX7_answerNow_34 ?_
      first | (rw [if_pos (by omega)] at hQ; exact hQ) | (rw [if_neg (by omega), if_pos (by omega), (hh.2 (by omega)).1] at hQ; exact hQ) | (rw [if_neg (by omega), if_neg (by omega)] at hQ; exact hQ)
    · skip
      refine J_aload_n 0 dX7_answerNow_22 rfl ?_
      refine J_iload 4 dX7_answerNow_23 rfl ?_
      refine J_iload_n 2 dX7_answerNow_25 rfl ?_
      refine JM_V2 lkM_X7_150 rcv_29 dX7_answerNow_26 (by decide) (Nat.le_of_ble_eq_true rfl) ?_
      refine kX7_memberOf hM.2 (by decide) (by omega) (by omega) ?_
      refine J_goto 34 dX7_answerNow_29 (by decide) ?_
      refine JM_iret rfl dX7_answerNow_34 ?_
      first | (rw [if_pos (by omega)] at hQ; exact hQ) | (rw [if_neg (by omega), if_pos (by omega), (hh.2 (by omega)).1] at hQ; exact hQ) | (rw [if_neg (by omega), if_neg (by omega)] at hQ; exact hQ)
  · skip
    refine J_iconst (-1) dX7_answerNow_14 ⟨by decide, by decide⟩ ?_
    refine J_goto 34 dX7_answerNow_15 (by decide) ?_
    refine JM_iret rfl dX7_answerNow_34 ?_
    first | (rw [if_pos (by omega)] at hQ; exact hQ) | (rw [if_neg (by omega), if_pos (by omega), (hh.2 (by omega)).1] at hQ; exact hQ) | (rw [if_neg (by omega), if_neg (by omega)] at hQ; exact hQ)

set_option maxRecDepth 100000 in
set_option maxHeartbeats 4000000 in
theorem kX7_answer {X : Cx} {d : Nat} {ω : Om} {Q : Option MV → Om → Prop} {t m w : Int} (hM : MW ω) (hQ : Q (some (vI (aAns (vw 0 ω) t m w))) ω) : Mc X mX7_answer (d + 4) [vR 29, vI t, vI m, vI w] ω Q := by
  have n8 := n8_vw hM.1
  unfold aAns at hQ
  rw [vw37] at hQ
  refine Mc_of [some (vR 29), some (vI t), some (vI m), some (vI w)] (by decide +kernel) rfl (Nat.le_of_ble_eq_true rfl) ?_
  refine J_aload_n 0 dX7_answer_0 rfl ?_
  refine J_iload_n 1 dX7_answer_1 rfl ?_
  refine J_iload_n 2 dX7_answer_2 rfl ?_
  refine JM_V2 lkM_X7_176 rcv_29 dX7_answer_3 (by decide) (Nat.le_of_ble_eq_true rfl) ?_
  refine kX7_isMethod n8 ?_
  generalize hg : (if (0 ≤ t ∧ t < ω 29 2) ∧ 0 ≤ m ∧ m < 6 then (1 : Int) else 0) = g
  have hg2 : (g = 1 ∧ ((0 ≤ t ∧ t < ω 29 2) ∧ 0 ≤ m ∧ m < 6)) ∨ (g = 0 ∧ ¬ ((0 ≤ t ∧ t < ω 29 2) ∧ 0 ≤ m ∧ m < 6)) := by
    subst hg
    split
    · left; exact ⟨rfl, by omega⟩
    · right; exact ⟨rfl, by omega⟩
  refine J_if_ne 13 dX7_answer_6 (by decide) (fun h6 => ?_) (fun h6 => ?_)
  · skip
    refine J_iload_n 3 dX7_answer_13 rfl ?_
    refine J_iconst 0 dX7_answer_14 ⟨by decide, by decide⟩ ?_
    refine J_iconst 1 dX7_answer_15 ⟨by decide, by decide⟩ ?_
    refine JM_S3 lkM_X7_77 dX7_answer_16 (by decide) (Nat.le_of_ble_eq_true rfl) ?_
    refine kX7_within ?_
    generalize hg1 : (if 0 ≤ w ∧ w ≤ 1 then (1 : Int) else 0) = g1
    have hg12 : (g1 = 1 ∧ (0 ≤ w ∧ w ≤ 1)) ∨ (g1 = 0 ∧ ¬ (0 ≤ w ∧ w ≤ 1)) := by
      subst hg1
      split
      · left; exact ⟨rfl, by omega⟩
      · right; exact ⟨rfl, by omega⟩
    refine J_if_eq 32 dX7_answer_19 (by decide) (fun h19 => ?_) (fun h19 => ?_)
    · skip
      refine J_sipush (-1002) dX7_answer_32 ⟨by decide, by decide⟩ (by decide) ?_
      refine JM_iret rfl dX7_answer_35 ?_
      first | (rw [if_neg (by omega)] at hQ; exact hQ) | (rw [if_pos (by omega), if_neg (by omega)] at hQ; exact hQ) | (rw [if_pos (by omega), if_pos (by omega)] at hQ; exact hQ)
    · skip
      refine J_aload_n 0 dX7_answer_22 rfl ?_
      refine J_iload_n 1 dX7_answer_23 rfl ?_
      refine J_iload_n 2 dX7_answer_24 rfl ?_
      refine J_iload_n 3 dX7_answer_25 rfl ?_
      refine JM_V3 lkM_X7_179 rcv_29 dX7_answer_26 (by decide) (Nat.le_of_ble_eq_true rfl) ?_
      refine kX7_answerNow hM (by omega) (by omega) ?_
      refine J_goto 35 dX7_answer_29 (by decide) ?_
      refine JM_iret rfl dX7_answer_35 ?_
      first | (rw [if_neg (by omega)] at hQ; exact hQ) | (rw [if_pos (by omega), if_neg (by omega)] at hQ; exact hQ) | (rw [if_pos (by omega), if_pos (by omega)] at hQ; exact hQ)
  · skip
    refine J_sipush (-1001) dX7_answer_9 ⟨by decide, by decide⟩ (by decide) ?_
    refine JM_iret rfl dX7_answer_12 ?_
    first | (rw [if_neg (by omega)] at hQ; exact hQ) | (rw [if_pos (by omega), if_neg (by omega)] at hQ; exact hQ) | (rw [if_pos (by omega), if_pos (by omega)] at hQ; exact hQ)

theorem itA_vw {s : Int} {ω : Om} (hW : WfT (vw s ω)) {b p : Int} (hb : 0 ≤ b ∧ b < ω 29 8) (hp : 0 ≤ p ∧ p < 6) : itA (vw s ω) b p = if p < ω 36 b then ω 37 (6 * b + p) else -1 := by
  have h8 : 0 ≤ ω 29 8 ∧ ω 29 8 ≤ 40 := hW.2.1
  unfold itA
  rw [vw38, vw17, vw18, show b * 6 + p = 6 * b + p from by omega]
  by_cases q : p < ω 36 b
  · rw [if_pos (by omega), if_pos q]
  · rw [if_neg (by omega), if_neg q]
set_option maxRecDepth 100000 in
set_option maxHeartbeats 4000000 in
theorem kX7_bodyNow {X : Cx} {d : Nat} {ω : Om} {Q : Option MV → Om → Prop} {b w : Int} (hM : MW ω) (hb : 0 ≤ b ∧ b < ω 29 8) (hw : w = 0 ∨ (10 ≤ w ∧ w < 16)) (hQ : Q (some (vI (bdN (vw 0 ω) b w))) ω) : Mc X mX7_bodyNow d [vR 29, vI b, vI w] ω Q := by
  have h8 : 0 ≤ ω 29 8 ∧ ω 29 8 ≤ 40 := hM.1.2.1
  have h6 := hM.1.2.2.2.2.2.2.2.1 b hb.1 hb.2
  rw [vw17] at h6
  unfold bdN at hQ
  rw [vw17] at hQ
  refine Mc_of [some (vR 29), some (vI b), some (vI w)] (by decide +kernel) rfl (Nat.le_of_ble_eq_true rfl) ?_
  refine J_iload_n 2 dX7_bodyNow_0 rfl ?_
  refine J_if_ne 13 dX7_bodyNow_1 (by decide) (fun h1 => ?_) (fun h1 => ?_)
  · skip
    refine J_iload_n 2 dX7_bodyNow_13 rfl ?_
    refine J_bipush 10 dX7_bodyNow_14 ⟨by decide, by decide⟩ (by decide) ?_
    refine J_isub dX7_bodyNow_16 ⟨by omega, by omega⟩ ?_
    refine J_aload_n 0 dX7_bodyNow_17 rfl ?_
    refine J_getR lkF_X7_29 rfl dX7_bodyNow_18 ?_
    refine J_iload_n 1 dX7_bodyNow_21 rfl ?_
    refine J_iaload _ rfl rfl (by omega) dX7_bodyNow_22 ?_
    refine J_icmp_ge 43 dX7_bodyNow_23 (by decide) (fun h23 => ?_) (fun h23 => ?_)
    · skip
      refine J_iconst (-1) dX7_bodyNow_43 ⟨by decide, by decide⟩ ?_
      refine JM_iret rfl dX7_bodyNow_44 ?_
      first | (rw [if_pos (by omega)] at hQ; exact hQ) | (rw [if_neg (by omega), itA_vw hM.1 hb (by omega), if_pos (by omega), show 6 * b + (w - 10) = 6 * b + w - 10 from by omega] at hQ; exact hQ) | (rw [if_neg (by omega), itA_vw hM.1 hb (by omega), if_neg (by omega)] at hQ; exact hQ)
    · skip
      refine J_aload_n 0 dX7_bodyNow_26 rfl ?_
      refine J_getR lkF_X7_32 rfl dX7_bodyNow_27 ?_
      refine J_bipush 6 dX7_bodyNow_30 ⟨by decide, by decide⟩ (by decide) ?_
      refine J_iload_n 1 dX7_bodyNow_32 rfl ?_
      refine J_imul dX7_bodyNow_33 ⟨by omega, by omega⟩ ?_
      refine J_iload_n 2 dX7_bodyNow_34 rfl ?_
      refine J_iadd dX7_bodyNow_35 ⟨by omega, by omega⟩ ?_
      refine J_bipush 10 dX7_bodyNow_36 ⟨by decide, by decide⟩ (by decide) ?_
      refine J_isub dX7_bodyNow_38 ⟨by omega, by omega⟩ ?_
      refine J_iaload _ rfl rfl (by omega) dX7_bodyNow_39 ?_
      refine J_goto 44 dX7_bodyNow_40 (by decide) ?_
      refine JM_iret rfl dX7_bodyNow_44 ?_
      first | (rw [if_pos (by omega)] at hQ; exact hQ) | (rw [if_neg (by omega), itA_vw hM.1 hb (by omega), if_pos (by omega), show 6 * b + (w - 10) = 6 * b + w - 10 from by omega] at hQ; exact hQ) | (rw [if_neg (by omega), itA_vw hM.1 hb (by omega), if_neg (by omega)] at hQ; exact hQ)
  · skip
    refine J_aload_n 0 dX7_bodyNow_4 rfl ?_
    refine J_getR lkF_X7_29 rfl dX7_bodyNow_5 ?_
    refine J_iload_n 1 dX7_bodyNow_8 rfl ?_
    refine J_iaload _ rfl rfl (by omega) dX7_bodyNow_9 ?_
    refine J_goto 44 dX7_bodyNow_10 (by decide) ?_
    refine JM_iret rfl dX7_bodyNow_44 ?_
    first | (rw [if_pos (by omega)] at hQ; exact hQ) | (rw [if_neg (by omega), itA_vw hM.1 hb (by omega), if_pos (by omega), show 6 * b + (w - 10) = 6 * b + w - 10 from by omega] at hQ; exact hQ) | (rw [if_neg (by omega), itA_vw hM.1 hb (by omega), if_neg (by omega)] at hQ; exact hQ)

set_option maxRecDepth 100000 in
set_option maxHeartbeats 4000000 in
theorem kX7_body {X : Cx} {d : Nat} {ω : Om} {Q : Option MV → Om → Prop} {b w : Int} (hM : MW ω) (hQ : Q (some (vI (aBody (vw 0 ω) b w))) ω) : Mc X mX7_body (d + 1) [vR 29, vI b, vI w] ω Q := by
  have h8 : 0 ≤ ω 29 8 ∧ ω 29 8 ≤ 40 := hM.1.2.1
  unfold aBody at hQ
  rw [vw38] at hQ
  refine Mc_of [some (vR 29), some (vI b), some (vI w)] (by decide +kernel) rfl (Nat.le_of_ble_eq_true rfl) ?_
  refine J_iload_n 1 dX7_body_0 rfl ?_
  refine J_iconst 0 dX7_body_1 ⟨by decide, by decide⟩ ?_
  refine J_aload_n 0 dX7_body_2 rfl ?_
  refine J_getI 8 lkF_X7_134 rfl rfl rfl dX7_body_3 ?_
  refine J_iconst 1 dX7_body_6 ⟨by decide, by decide⟩ ?_
  refine J_isub dX7_body_7 ⟨by omega, by omega⟩ ?_
  refine JM_S3 lkM_X7_77 dX7_body_8 (by decide) (Nat.le_of_ble_eq_true rfl) ?_
  refine kX7_within ?_
  generalize hg : (if 0 ≤ b ∧ b ≤ ω 29 8 - 1 then (1 : Int) else 0) = g
  have hg2 : (g = 1 ∧ (0 ≤ b ∧ b ≤ ω 29 8 - 1)) ∨ (g = 0 ∧ ¬ (0 ≤ b ∧ b ≤ ω 29 8 - 1)) := by
    subst hg
    split
    · left; exact ⟨rfl, by omega⟩
    · right; exact ⟨rfl, by omega⟩
  refine J_if_ne 18 dX7_body_11 (by decide) (fun h11 => ?_) (fun h11 => ?_)
  · skip
    refine J_iload_n 2 dX7_body_18 rfl ?_
    refine J_if_eq 33 dX7_body_19 (by decide) (fun h19 => ?_) (fun h19 => ?_)
    · skip
      refine J_aload_n 0 dX7_body_33 rfl ?_
      refine J_iload_n 1 dX7_body_34 rfl ?_
      refine J_iload_n 2 dX7_body_35 rfl ?_
      refine JM_V2 lkM_X7_182 rcv_29 dX7_body_36 (by decide) (Nat.le_of_ble_eq_true rfl) ?_
      refine kX7_bodyNow hM (by omega) (by omega) ?_
      refine J_goto 45 dX7_body_39 (by decide) ?_
      refine JM_iret rfl dX7_body_45 ?_
      first | (rw [if_neg (by omega)] at hQ; exact hQ) | (rw [if_pos (by omega), if_neg (by omega)] at hQ; exact hQ) | (rw [if_pos (by omega), if_pos (by omega)] at hQ; exact hQ)
    · skip
      refine J_iload_n 2 dX7_body_22 rfl ?_
      refine J_bipush 10 dX7_body_23 ⟨by decide, by decide⟩ (by decide) ?_
      refine J_bipush 15 dX7_body_25 ⟨by decide, by decide⟩ (by decide) ?_
      refine JM_S3 lkM_X7_77 dX7_body_27 (by decide) (Nat.le_of_ble_eq_true rfl) ?_
      refine kX7_within ?_
      generalize hg1 : (if 10 ≤ w ∧ w ≤ 15 then (1 : Int) else 0) = g1
      have hg12 : (g1 = 1 ∧ (10 ≤ w ∧ w ≤ 15)) ∨ (g1 = 0 ∧ ¬ (10 ≤ w ∧ w ≤ 15)) := by
        subst hg1
        split
        · left; exact ⟨rfl, by omega⟩
        · right; exact ⟨rfl, by omega⟩
      refine J_if_eq 42 dX7_body_30 (by decide) (fun h30 => ?_) (fun h30 => ?_)
      · skip
        refine J_sipush (-1002) dX7_body_42 ⟨by decide, by decide⟩ (by decide) ?_
        refine JM_iret rfl dX7_body_45 ?_
        first | (rw [if_neg (by omega)] at hQ; exact hQ) | (rw [if_pos (by omega), if_neg (by omega)] at hQ; exact hQ) | (rw [if_pos (by omega), if_pos (by omega)] at hQ; exact hQ)
      · skip
        refine J_aload_n 0 dX7_body_33 rfl ?_
        refine J_iload_n 1 dX7_body_34 rfl ?_
        refine J_iload_n 2 dX7_body_35 rfl ?_
        refine JM_V2 lkM_X7_182 rcv_29 dX7_body_36 (by decide) (Nat.le_of_ble_eq_true rfl) ?_
        refine kX7_bodyNow hM (by omega) (by omega) ?_
        refine J_goto 45 dX7_body_39 (by decide) ?_
        refine JM_iret rfl dX7_body_45 ?_
        first | (rw [if_neg (by omega)] at hQ; exact hQ) | (rw [if_pos (by omega), if_neg (by omega)] at hQ; exact hQ) | (rw [if_pos (by omega), if_pos (by omega)] at hQ; exact hQ)
  · skip
    refine J_sipush (-1001) dX7_body_14 ⟨by decide, by decide⟩ (by decide) ?_
    refine JM_iret rfl dX7_body_17 ?_
    first | (rw [if_neg (by omega)] at hQ; exact hQ) | (rw [if_pos (by omega), if_neg (by omega)] at hQ; exact hQ) | (rw [if_pos (by omega), if_pos (by omega)] at hQ; exact hQ)
