/-! what the tree's reads answer -/
def tIn (ω : Om) (t : Int) : Prop := 0 ≤ t ∧ t < ω 3 7 ∧ t < 8
def hb (ω : Om) (t m : Int) : Int := if 0 ≤ t ∧ t < ω 3 7 ∧ t < 8 ∧ 0 ≤ m ∧ m < 12 then ω 14 (t * 12 + m) else -1
def pr (ω : Om) (t : Int) : Int := if 0 ≤ t ∧ t < ω 3 7 ∧ t < 8 then ω 12 t else -1
def hds (ω : Om) (t m : Int) : Int := if 0 ≤ t ∧ t < ω 3 7 ∧ t < 8 ∧ ¬ zAnd (zShr (ω 15 t) m) 1 = 0 then 1 else 0
def itA (ω : Om) (b p : Int) : Int := if 0 ≤ b ∧ b < ω 3 8 ∧ b < 40 ∧ 0 ≤ p ∧ p < ω 17 b ∧ p < 6 then ω 18 (b * 6 + p) else -1
def hol (ω : Om) (t : Int) : Int := if 0 ≤ t ∧ t < ω 3 7 ∧ t < 8 ∧ ¬ ω 13 t = 0 then 1 else 0
/-- the nearest class, from t on upwards, that has member m, not hidden -/
def nr (ω : Om) (m : Int) : Nat → Int → Int
  | 0, _ => -1
  | f + 1, t => if 0 ≤ t ∧ t < ω 3 7 ∧ t < 8 then (if ¬ ω 14 (t * 12 + m) = -1 ∧ zAnd (zShr (ω 15 t) m) 1 = 0 then t else nr ω m f (ω 12 t)) else -1
def nrS (ω : Om) (t m : Int) : Int := if 0 ≤ m ∧ m < 12 then nr ω m 8 t else -1
/-- the bits of those among the first k that p tells -/
def bitsF (p : Int → Bool) : Nat → Int
  | 0 => 0
  | k + 1 => if p k = true then zOr (bitsF p k) (zShl 1 k) else bitsF p k
set_option maxRecDepth 100000 in
set_option maxHeartbeats 4000000 in
theorem kX5_hasType {X : Cx} {d : Nat} {ω : Om} {Q : Option MV → Om → Prop} {t : Int} (hQ : Q (some (vI (if 0 ≤ t ∧ t < ω 3 7 ∧ t < 8 then 1 else 0))) ω) : Mc X mX5_hasType d [vR 3, vI t] ω Q := by
  refine Mc_of [some (vR 3), some (vI t)] (by decide +kernel) rfl (Nat.le_of_ble_eq_true rfl) ?_
  refine J_iload_n 1 dX5_hasType_0 rfl ?_
  refine J_if_lt 22 dX5_hasType_1 (by decide) (fun h1 => ?_) (fun h1 => ?_)
  · skip
    refine J_iconst 0 dX5_hasType_22 ⟨by decide, by decide⟩ ?_
    refine JM_zret rfl (by omega) dX5_hasType_23 ?_
    (repeat' split at hQ) <;> first | exact hQ | (exfalso; omega)
  · skip
    refine J_iload_n 1 dX5_hasType_4 rfl ?_
    refine J_aload_n 0 dX5_hasType_5 rfl ?_
    refine J_getI 7 lkF_X5_34 rfl rfl rfl dX5_hasType_6 ?_
    refine J_icmp_ge 22 dX5_hasType_9 (by decide) (fun h9 => ?_) (fun h9 => ?_)
    · skip
      refine J_iconst 0 dX5_hasType_22 ⟨by decide, by decide⟩ ?_
      refine JM_zret rfl (by omega) dX5_hasType_23 ?_
      (repeat' split at hQ) <;> first | exact hQ | (exfalso; omega)
    · skip
      refine J_iload_n 1 dX5_hasType_12 rfl ?_
      refine J_bipush 8 dX5_hasType_13 ⟨by decide, by decide⟩ (by decide) ?_
      refine J_icmp_ge 22 dX5_hasType_15 (by decide) (fun h15 => ?_) (fun h15 => ?_)
      · skip
        refine J_iconst 0 dX5_hasType_22 ⟨by decide, by decide⟩ ?_
        refine JM_zret rfl (by omega) dX5_hasType_23 ?_
        (repeat' split at hQ) <;> first | exact hQ | (exfalso; omega)
      · skip
        refine J_iconst 1 dX5_hasType_18 ⟨by decide, by decide⟩ ?_
        refine J_goto 23 dX5_hasType_19 (by decide) ?_
        refine JM_zret rfl (by omega) dX5_hasType_23 ?_
        (repeat' split at hQ) <;> first | exact hQ | (exfalso; omega)

set_option maxRecDepth 100000 in
set_option maxHeartbeats 4000000 in
theorem kX5_hasBody {X : Cx} {d : Nat} {ω : Om} {Q : Option MV → Om → Prop} {t : Int} (hQ : Q (some (vI (if 0 ≤ t ∧ t < ω 3 8 ∧ t < 40 then 1 else 0))) ω) : Mc X mX5_hasBody d [vR 3, vI t] ω Q := by
  refine Mc_of [some (vR 3), some (vI t)] (by decide +kernel) rfl (Nat.le_of_ble_eq_true rfl) ?_
  refine J_iload_n 1 dX5_hasBody_0 rfl ?_
  refine J_if_lt 22 dX5_hasBody_1 (by decide) (fun h1 => ?_) (fun h1 => ?_)
  · skip
    refine J_iconst 0 dX5_hasBody_22 ⟨by decide, by decide⟩ ?_
    refine JM_zret rfl (by omega) dX5_hasBody_23 ?_
    (repeat' split at hQ) <;> first | exact hQ | (exfalso; omega)
  · skip
    refine J_iload_n 1 dX5_hasBody_4 rfl ?_
    refine J_aload_n 0 dX5_hasBody_5 rfl ?_
    refine J_getI 8 lkF_X5_38 rfl rfl rfl dX5_hasBody_6 ?_
    refine J_icmp_ge 22 dX5_hasBody_9 (by decide) (fun h9 => ?_) (fun h9 => ?_)
    · skip
      refine J_iconst 0 dX5_hasBody_22 ⟨by decide, by decide⟩ ?_
      refine JM_zret rfl (by omega) dX5_hasBody_23 ?_
      (repeat' split at hQ) <;> first | exact hQ | (exfalso; omega)
    · skip
      refine J_iload_n 1 dX5_hasBody_12 rfl ?_
      refine J_bipush 40 dX5_hasBody_13 ⟨by decide, by decide⟩ (by decide) ?_
      refine J_icmp_ge 22 dX5_hasBody_15 (by decide) (fun h15 => ?_) (fun h15 => ?_)
      · skip
        refine J_iconst 0 dX5_hasBody_22 ⟨by decide, by decide⟩ ?_
        refine JM_zret rfl (by omega) dX5_hasBody_23 ?_
        (repeat' split at hQ) <;> first | exact hQ | (exfalso; omega)
      · skip
        refine J_iconst 1 dX5_hasBody_18 ⟨by decide, by decide⟩ ?_
        refine J_goto 23 dX5_hasBody_19 (by decide) ?_
        refine JM_zret rfl (by omega) dX5_hasBody_23 ?_
        (repeat' split at hQ) <;> first | exact hQ | (exfalso; omega)

set_option maxRecDepth 100000 in
set_option maxHeartbeats 4000000 in
theorem kX5_parentOf {X : Cx} {d : Nat} {ω : Om} {Q : Option MV → Om → Prop} {t : Int} (hQ : Q (some (vI (pr ω t))) ω) : Mc X mX5_parentOf d [vR 3, vI t] ω Q := by
  refine Mc_of [some (vR 3), some (vI t)] (by decide +kernel) rfl (Nat.le_of_ble_eq_true rfl) ?_
  refine J_iload_n 1 dX5_parentOf_0 rfl ?_
  refine J_if_lt 27 dX5_parentOf_1 (by decide) (fun h1 => ?_) (fun h1 => ?_)
  · skip
    refine J_iconst (-1) dX5_parentOf_27 ⟨by decide, by decide⟩ ?_
    refine JM_iret rfl dX5_parentOf_28 ?_
    unfold pr at hQ
    (repeat' split at hQ) <;> first | exact hQ | (exfalso; omega)
  · skip
    refine J_iload_n 1 dX5_parentOf_4 rfl ?_
    refine J_aload_n 0 dX5_parentOf_5 rfl ?_
    refine J_getI 7 lkF_X5_34 rfl rfl rfl dX5_parentOf_6 ?_
    refine J_icmp_ge 27 dX5_parentOf_9 (by decide) (fun h9 => ?_) (fun h9 => ?_)
    · skip
      refine J_iconst (-1) dX5_parentOf_27 ⟨by decide, by decide⟩ ?_
      refine JM_iret rfl dX5_parentOf_28 ?_
      unfold pr at hQ
      (repeat' split at hQ) <;> first | exact hQ | (exfalso; omega)
    · skip
      refine J_iload_n 1 dX5_parentOf_12 rfl ?_
      refine J_bipush 8 dX5_parentOf_13 ⟨by decide, by decide⟩ (by decide) ?_
      refine J_icmp_ge 27 dX5_parentOf_15 (by decide) (fun h15 => ?_) (fun h15 => ?_)
      · skip
        refine J_iconst (-1) dX5_parentOf_27 ⟨by decide, by decide⟩ ?_
        refine JM_iret rfl dX5_parentOf_28 ?_
        unfold pr at hQ
        (repeat' split at hQ) <;> first | exact hQ | (exfalso; omega)
      · skip
        refine J_aload_n 0 dX5_parentOf_18 rfl ?_
        refine J_getR lkF_X5_9 rfl dX5_parentOf_19 ?_
        refine J_iload_n 1 dX5_parentOf_22 rfl ?_
        refine J_iaload _ rfl rfl (by omega) dX5_parentOf_23 ?_
        refine J_goto 28 dX5_parentOf_24 (by decide) ?_
        refine JM_iret rfl dX5_parentOf_28 ?_
        unfold pr at hQ
        (repeat' split at hQ) <;> first | exact hQ | (exfalso; omega)

set_option maxRecDepth 100000 in
set_option maxHeartbeats 4000000 in
theorem kX5_hides {X : Cx} {d : Nat} {ω : Om} {Q : Option MV → Om → Prop} {t m : Int} (hQ : Q (some (vI (hds ω t m))) ω) : Mc X mX5_hides d [vR 3, vI t, vI m] ω Q := by
  refine Mc_of [some (vR 3), some (vI t), some (vI m)] (by decide +kernel) rfl (Nat.le_of_ble_eq_true rfl) ?_
  refine J_iload_n 1 dX5_hides_0 rfl ?_
  refine J_if_lt 35 dX5_hides_1 (by decide) (fun h1 => ?_) (fun h1 => ?_)
  · skip
    refine J_iconst 0 dX5_hides_35 ⟨by decide, by decide⟩ ?_
    refine JM_zret rfl (by omega) dX5_hides_36 ?_
    unfold hds at hQ
    (repeat' split at hQ) <;> first | exact hQ | (exfalso; omega)
  · skip
    refine J_iload_n 1 dX5_hides_4 rfl ?_
    refine J_aload_n 0 dX5_hides_5 rfl ?_
    refine J_getI 7 lkF_X5_34 rfl rfl rfl dX5_hides_6 ?_
    refine J_icmp_ge 35 dX5_hides_9 (by decide) (fun h9 => ?_) (fun h9 => ?_)
    · skip
      refine J_iconst 0 dX5_hides_35 ⟨by decide, by decide⟩ ?_
      refine JM_zret rfl (by omega) dX5_hides_36 ?_
      unfold hds at hQ
      (repeat' split at hQ) <;> first | exact hQ | (exfalso; omega)
    · skip
      refine J_iload_n 1 dX5_hides_12 rfl ?_
      refine J_bipush 8 dX5_hides_13 ⟨by decide, by decide⟩ (by decide) ?_
      refine J_icmp_ge 35 dX5_hides_15 (by decide) (fun h15 => ?_) (fun h15 => ?_)
      · skip
        refine J_iconst 0 dX5_hides_35 ⟨by decide, by decide⟩ ?_
        refine JM_zret rfl (by omega) dX5_hides_36 ?_
        unfold hds at hQ
        (repeat' split at hQ) <;> first | exact hQ | (exfalso; omega)
      · skip
        refine J_aload_n 0 dX5_hides_18 rfl ?_
        refine J_getR lkF_X5_22 rfl dX5_hides_19 ?_
        refine J_iload_n 1 dX5_hides_22 rfl ?_
        refine J_iaload _ rfl rfl (by omega) dX5_hides_23 ?_
        refine J_iload_n 2 dX5_hides_24 rfl ?_
        refine J_ishr dX5_hides_25 ?_
        refine J_iconst 1 dX5_hides_26 ⟨by decide, by decide⟩ ?_
        refine J_iand dX5_hides_27 ?_
        refine J_if_eq 35 dX5_hides_28 (by decide) (fun h28 => ?_) (fun h28 => ?_)
        · skip
          refine J_iconst 0 dX5_hides_35 ⟨by decide, by decide⟩ ?_
          refine JM_zret rfl (by omega) dX5_hides_36 ?_
          unfold hds at hQ
          (repeat' split at hQ) <;> first | exact hQ | (exfalso; omega)
        · skip
          refine J_iconst 1 dX5_hides_31 ⟨by decide, by decide⟩ ?_
          refine J_goto 36 dX5_hides_32 (by decide) ?_
          refine JM_zret rfl (by omega) dX5_hides_36 ?_
          unfold hds at hQ
          (repeat' split at hQ) <;> first | exact hQ | (exfalso; omega)

set_option maxRecDepth 100000 in
set_option maxHeartbeats 4000000 in
theorem kX5_heldBy {X : Cx} {d : Nat} {ω : Om} {Q : Option MV → Om → Prop} {t m : Int} (hQ : Q (some (vI (hb ω t m))) ω) : Mc X mX5_heldBy d [vR 3, vI t, vI m] ω Q := by
  refine Mc_of [some (vR 3), some (vI t), some (vI m)] (by decide +kernel) rfl (Nat.le_of_ble_eq_true rfl) ?_
  refine J_iload_n 1 dX5_heldBy_0 rfl ?_
  refine J_if_lt 42 dX5_heldBy_1 (by decide) (fun h1 => ?_) (fun h1 => ?_)
  · skip
    refine J_iconst (-1) dX5_heldBy_42 ⟨by decide, by decide⟩ ?_
    refine JM_iret rfl dX5_heldBy_43 ?_
    unfold hb at hQ
    (repeat' split at hQ) <;> first | exact hQ | (exfalso; omega)
  · skip
    refine J_iload_n 1 dX5_heldBy_4 rfl ?_
    refine J_aload_n 0 dX5_heldBy_5 rfl ?_
    refine J_getI 7 lkF_X5_34 rfl rfl rfl dX5_heldBy_6 ?_
    refine J_icmp_ge 42 dX5_heldBy_9 (by decide) (fun h9 => ?_) (fun h9 => ?_)
    · skip
      refine J_iconst (-1) dX5_heldBy_42 ⟨by decide, by decide⟩ ?_
      refine JM_iret rfl dX5_heldBy_43 ?_
      unfold hb at hQ
      (repeat' split at hQ) <;> first | exact hQ | (exfalso; omega)
    · skip
      refine J_iload_n 1 dX5_heldBy_12 rfl ?_
      refine J_bipush 8 dX5_heldBy_13 ⟨by decide, by decide⟩ (by decide) ?_
      refine J_icmp_ge 42 dX5_heldBy_15 (by decide) (fun h15 => ?_) (fun h15 => ?_)
      · skip
        refine J_iconst (-1) dX5_heldBy_42 ⟨by decide, by decide⟩ ?_
        refine JM_iret rfl dX5_heldBy_43 ?_
        unfold hb at hQ
        (repeat' split at hQ) <;> first | exact hQ | (exfalso; omega)
      · skip
        refine J_iload_n 2 dX5_heldBy_18 rfl ?_
        refine J_if_lt 42 dX5_heldBy_19 (by decide) (fun h19 => ?_) (fun h19 => ?_)
        · skip
          refine J_iconst (-1) dX5_heldBy_42 ⟨by decide, by decide⟩ ?_
          refine JM_iret rfl dX5_heldBy_43 ?_
          unfold hb at hQ
          (repeat' split at hQ) <;> first | exact hQ | (exfalso; omega)
        · skip
          refine J_iload_n 2 dX5_heldBy_22 rfl ?_
          refine J_bipush 12 dX5_heldBy_23 ⟨by decide, by decide⟩ (by decide) ?_
          refine J_icmp_ge 42 dX5_heldBy_25 (by decide) (fun h25 => ?_) (fun h25 => ?_)
          · skip
            refine J_iconst (-1) dX5_heldBy_42 ⟨by decide, by decide⟩ ?_
            refine JM_iret rfl dX5_heldBy_43 ?_
            unfold hb at hQ
            (repeat' split at hQ) <;> first | exact hQ | (exfalso; omega)
          · skip
            refine J_aload_n 0 dX5_heldBy_28 rfl ?_
            refine J_getR lkF_X5_19 rfl dX5_heldBy_29 ?_
            refine J_iload_n 1 dX5_heldBy_32 rfl ?_
            refine J_bipush 12 dX5_heldBy_33 ⟨by decide, by decide⟩ (by decide) ?_
            refine J_imul dX5_heldBy_35 ⟨by omega, by omega⟩ ?_
            refine J_iload_n 2 dX5_heldBy_36 rfl ?_
            refine J_iadd dX5_heldBy_37 ⟨by omega, by omega⟩ ?_
            refine J_iaload _ rfl rfl (by omega) dX5_heldBy_38 ?_
            refine J_goto 43 dX5_heldBy_39 (by decide) ?_
            refine JM_iret rfl dX5_heldBy_43 ?_
            unfold hb at hQ
            (repeat' split at hQ) <;> first | exact hQ | (exfalso; omega)

set_option maxRecDepth 100000 in
set_option maxHeartbeats 4000000 in
theorem kX5_itemAt {X : Cx} {d : Nat} {ω : Om} {Q : Option MV → Om → Prop} {b p : Int} (hQ : Q (some (vI (itA ω b p))) ω) : Mc X mX5_itemAt d [vR 3, vI b, vI p] ω Q := by
  refine Mc_of [some (vR 3), some (vI b), some (vI p)] (by decide +kernel) rfl (Nat.le_of_ble_eq_true rfl) ?_
  refine J_iload_n 1 dX5_itemAt_0 rfl ?_
  refine J_if_lt 52 dX5_itemAt_1 (by decide) (fun h1 => ?_) (fun h1 => ?_)
  · skip
    refine J_iconst (-1) dX5_itemAt_52 ⟨by decide, by decide⟩ ?_
    refine JM_iret rfl dX5_itemAt_53 ?_
    unfold itA at hQ
    (repeat' split at hQ) <;> first | exact hQ | (exfalso; omega)
  · skip
    refine J_iload_n 1 dX5_itemAt_4 rfl ?_
    refine J_aload_n 0 dX5_itemAt_5 rfl ?_
    refine J_getI 8 lkF_X5_38 rfl rfl rfl dX5_itemAt_6 ?_
    refine J_icmp_ge 52 dX5_itemAt_9 (by decide) (fun h9 => ?_) (fun h9 => ?_)
    · skip
      refine J_iconst (-1) dX5_itemAt_52 ⟨by decide, by decide⟩ ?_
      refine JM_iret rfl dX5_itemAt_53 ?_
      unfold itA at hQ
      (repeat' split at hQ) <;> first | exact hQ | (exfalso; omega)
    · skip
      refine J_iload_n 1 dX5_itemAt_12 rfl ?_
      refine J_bipush 40 dX5_itemAt_13 ⟨by decide, by decide⟩ (by decide) ?_
      refine J_icmp_ge 52 dX5_itemAt_15 (by decide) (fun h15 => ?_) (fun h15 => ?_)
      · skip
        refine J_iconst (-1) dX5_itemAt_52 ⟨by decide, by decide⟩ ?_
        refine JM_iret rfl dX5_itemAt_53 ?_
        unfold itA at hQ
        (repeat' split at hQ) <;> first | exact hQ | (exfalso; omega)
      · skip
        refine J_iload_n 2 dX5_itemAt_18 rfl ?_
        refine J_if_lt 52 dX5_itemAt_19 (by decide) (fun h19 => ?_) (fun h19 => ?_)
        · skip
          refine J_iconst (-1) dX5_itemAt_52 ⟨by decide, by decide⟩ ?_
          refine JM_iret rfl dX5_itemAt_53 ?_
          unfold itA at hQ
          (repeat' split at hQ) <;> first | exact hQ | (exfalso; omega)
        · skip
          refine J_iload_n 2 dX5_itemAt_22 rfl ?_
          refine J_aload_n 0 dX5_itemAt_23 rfl ?_
          refine J_getR lkF_X5_28 rfl dX5_itemAt_24 ?_
          refine J_iload_n 1 dX5_itemAt_27 rfl ?_
          refine J_iaload _ rfl rfl (by omega) dX5_itemAt_28 ?_
          refine J_icmp_ge 52 dX5_itemAt_29 (by decide) (fun h29 => ?_) (fun h29 => ?_)
          · skip
            refine J_iconst (-1) dX5_itemAt_52 ⟨by decide, by decide⟩ ?_
            refine JM_iret rfl dX5_itemAt_53 ?_
            unfold itA at hQ
            (repeat' split at hQ) <;> first | exact hQ | (exfalso; omega)
          · skip
            refine J_iload_n 2 dX5_itemAt_32 rfl ?_
            refine J_bipush 6 dX5_itemAt_33 ⟨by decide, by decide⟩ (by decide) ?_
            refine J_icmp_ge 52 dX5_itemAt_35 (by decide) (fun h35 => ?_) (fun h35 => ?_)
            · skip
              refine J_iconst (-1) dX5_itemAt_52 ⟨by decide, by decide⟩ ?_
              refine JM_iret rfl dX5_itemAt_53 ?_
              unfold itA at hQ
              (repeat' split at hQ) <;> first | exact hQ | (exfalso; omega)
            · skip
              refine J_aload_n 0 dX5_itemAt_38 rfl ?_
              refine J_getR lkF_X5_31 rfl dX5_itemAt_39 ?_
              refine J_iload_n 1 dX5_itemAt_42 rfl ?_
              refine J_bipush 6 dX5_itemAt_43 ⟨by decide, by decide⟩ (by decide) ?_
              refine J_imul dX5_itemAt_45 ⟨by omega, by omega⟩ ?_
              refine J_iload_n 2 dX5_itemAt_46 rfl ?_
              refine J_iadd dX5_itemAt_47 ⟨by omega, by omega⟩ ?_
              refine J_iaload _ rfl rfl (by omega) dX5_itemAt_48 ?_
              refine J_goto 53 dX5_itemAt_49 (by decide) ?_
              refine JM_iret rfl dX5_itemAt_53 ?_
              unfold itA at hQ
              (repeat' split at hQ) <;> first | exact hQ | (exfalso; omega)

set_option maxRecDepth 100000 in
set_option maxHeartbeats 4000000 in
theorem kX6_isMember {X : Cx} {d : Nat} {ω : Om} {Q : Option MV → Om → Prop} {m : Int} (hQ : Q (some (vI (if 0 ≤ m ∧ m < 12 then 1 else 0))) ω) : Mc X mX6_isMember d [vI m] ω Q := by
  refine Mc_of [some (vI m)] (by decide +kernel) rfl (Nat.le_of_ble_eq_true rfl) ?_
  refine J_iload_n 0 dX6_isMember_0 rfl ?_
  refine J_if_lt 14 dX6_isMember_1 (by decide) (fun h1 => ?_) (fun h1 => ?_)
  · skip
    refine J_iconst 0 dX6_isMember_14 ⟨by decide, by decide⟩ ?_
    refine JM_zret rfl (by omega) dX6_isMember_15 ?_
    (repeat' split at hQ) <;> first | exact hQ | (exfalso; omega)
  · skip
    refine J_iload_n 0 dX6_isMember_4 rfl ?_
    refine J_bipush 12 dX6_isMember_5 ⟨by decide, by decide⟩ (by decide) ?_
    refine J_icmp_ge 14 dX6_isMember_7 (by decide) (fun h7 => ?_) (fun h7 => ?_)
    · skip
      refine J_iconst 0 dX6_isMember_14 ⟨by decide, by decide⟩ ?_
      refine JM_zret rfl (by omega) dX6_isMember_15 ?_
      (repeat' split at hQ) <;> first | exact hQ | (exfalso; omega)
    · skip
      refine J_iconst 1 dX6_isMember_10 ⟨by decide, by decide⟩ ?_
      refine J_goto 15 dX6_isMember_11 (by decide) ?_
      refine JM_zret rfl (by omega) dX6_isMember_15 ?_
      (repeat' split at hQ) <;> first | exact hQ | (exfalso; omega)

set_option maxRecDepth 100000 in
set_option maxHeartbeats 4000000 in
theorem kX6_isMethod {X : Cx} {d : Nat} {ω : Om} {Q : Option MV → Om → Prop} {m : Int} (hQ : Q (some (vI (if 0 ≤ m ∧ m < 6 then 1 else 0))) ω) : Mc X mX6_isMethod d [vI m] ω Q := by
  refine Mc_of [some (vI m)] (by decide +kernel) rfl (Nat.le_of_ble_eq_true rfl) ?_
  refine J_iload_n 0 dX6_isMethod_0 rfl ?_
  refine J_if_lt 14 dX6_isMethod_1 (by decide) (fun h1 => ?_) (fun h1 => ?_)
  · skip
    refine J_iconst 0 dX6_isMethod_14 ⟨by decide, by decide⟩ ?_
    refine JM_zret rfl (by omega) dX6_isMethod_15 ?_
    (repeat' split at hQ) <;> first | exact hQ | (exfalso; omega)
  · skip
    refine J_iload_n 0 dX6_isMethod_4 rfl ?_
    refine J_bipush 6 dX6_isMethod_5 ⟨by decide, by decide⟩ (by decide) ?_
    refine J_icmp_ge 14 dX6_isMethod_7 (by decide) (fun h7 => ?_) (fun h7 => ?_)
    · skip
      refine J_iconst 0 dX6_isMethod_14 ⟨by decide, by decide⟩ ?_
      refine JM_zret rfl (by omega) dX6_isMethod_15 ?_
      (repeat' split at hQ) <;> first | exact hQ | (exfalso; omega)
    · skip
      refine J_iconst 1 dX6_isMethod_10 ⟨by decide, by decide⟩ ?_
      refine J_goto 15 dX6_isMethod_11 (by decide) ?_
      refine JM_zret rfl (by omega) dX6_isMethod_15 ?_
      (repeat' split at hQ) <;> first | exact hQ | (exfalso; omega)

set_option maxRecDepth 100000 in
set_option maxHeartbeats 4000000 in
theorem kX5_isHollow {X : Cx} {d : Nat} {ω : Om} {Q : Option MV → Om → Prop} {t : Int} (hQ : Q (some (vI (hol ω t))) ω) : Mc X mX5_isHollow (d + 1) [vR 3, vI t] ω Q := by
  refine Mc_of [some (vR 3), some (vI t)] (by decide +kernel) rfl (Nat.le_of_ble_eq_true rfl) ?_
  refine J_aload_n 0 dX5_isHollow_0 rfl ?_
  refine J_iload_n 1 dX5_isHollow_1 rfl ?_
  refine JM_V1 lkM_X5_44 rcv_3 dX5_isHollow_2 (by decide) (Nat.le_of_ble_eq_true rfl) ?_
  refine kX5_hasType ?_
  generalize hg : (if 0 ≤ t ∧ t < ω 3 7 ∧ t < 8 then (1 : Int) else 0) = g
  have hg2 : (g = 1 ∧ 0 ≤ t ∧ t < ω 3 7 ∧ t < 8) ∨ (g = 0 ∧ ¬ (0 ≤ t ∧ t < ω 3 7 ∧ t < 8)) := by (subst hg; split) <;> simp_all
  refine J_if_eq 21 dX5_isHollow_5 (by decide) (fun h5 => ?_) (fun h5 => ?_)
  · skip
    refine J_iconst 0 dX5_isHollow_21 ⟨by decide, by decide⟩ ?_
    refine JM_zret rfl (by omega) dX5_isHollow_22 ?_
    unfold hol at hQ
    (repeat' split at hQ) <;> first | exact hQ | (exfalso; omega)
  · skip
    refine J_aload_n 0 dX5_isHollow_8 rfl ?_
    refine J_getR lkF_X5_15 rfl dX5_isHollow_9 ?_
    refine J_iload_n 1 dX5_isHollow_12 rfl ?_
    refine J_baload _ rfl rfl (by omega) dX5_isHollow_13 ?_
    refine J_if_eq 21 dX5_isHollow_14 (by decide) (fun h14 => ?_) (fun h14 => ?_)
    · skip
      refine J_iconst 0 dX5_isHollow_21 ⟨by decide, by decide⟩ ?_
      refine JM_zret rfl (by omega) dX5_isHollow_22 ?_
      unfold hol at hQ
      (repeat' split at hQ) <;> first | exact hQ | (exfalso; omega)
    · skip
      refine J_iconst 1 dX5_isHollow_17 ⟨by decide, by decide⟩ ?_
      refine J_goto 22 dX5_isHollow_18 (by decide) ?_
      refine JM_zret rfl (by omega) dX5_isHollow_22 ?_
      unfold hol at hQ
      (repeat' split at hQ) <;> first | exact hQ | (exfalso; omega)

set_option maxRecDepth 100000 in
set_option maxHeartbeats 4000000 in
theorem l_nearest {X : Cx} {d : Nat} {Q : Option MV → Om → Prop} {ω : Om} {t0 m : Int} (hm : 0 ≤ m ∧ m < 12) : ∀ (f : Nat) (a : Int), f ≤ 8 → Q (some (vI (nr ω m f a))) ω → JM X mX5_nearest d Q 17 [some (vR 3), some (vI t0), some (vI m), some (vI a), some (vI (8 - f))] [] ω := by
  intro f
  induction f with
  | zero =>
    intro a hf hQ
    refine J_iload 4 dX5_nearest_17 rfl ?_
    refine J_bipush 8 dX5_nearest_19 ⟨by decide, by decide⟩ (by decide) ?_
    refine J_icmp_ge 85 dX5_nearest_21 (by decide) (fun h21 => ?_) (fun h21 => ?_)
    · skip
      refine J_iconst (-1) dX5_nearest_85 ⟨by decide, by decide⟩ ?_
      refine JM_iret rfl dX5_nearest_86 ?_
      exact hQ
    · skip
      exfalso; omega
  | succ f ih =>
    intro a hf hQ
    unfold nr at hQ
    refine J_iload 4 dX5_nearest_17 rfl ?_
    refine J_bipush 8 dX5_nearest_19 ⟨by decide, by decide⟩ (by decide) ?_
    refine J_icmp_ge 85 dX5_nearest_21 (by decide) (fun h21 => ?_) (fun h21 => ?_)
    · skip
      exfalso; omega
    · skip
      refine J_iload_n 3 dX5_nearest_24 rfl ?_
      refine J_if_lt 85 dX5_nearest_25 (by decide) (fun h25 => ?_) (fun h25 => ?_)
      · skip
        rw [if_neg (by omega)] at hQ
        refine J_iconst (-1) dX5_nearest_85 ⟨by decide, by decide⟩ ?_
        refine JM_iret rfl dX5_nearest_86 ?_
        exact hQ
      · skip
        refine J_iload_n 3 dX5_nearest_28 rfl ?_
        refine J_aload_n 0 dX5_nearest_29 rfl ?_
        refine J_getI 7 lkF_X5_34 rfl rfl rfl dX5_nearest_30 ?_
        refine J_icmp_ge 85 dX5_nearest_33 (by decide) (fun h33 => ?_) (fun h33 => ?_)
        · skip
          rw [if_neg (by omega)] at hQ
          refine J_iconst (-1) dX5_nearest_85 ⟨by decide, by decide⟩ ?_
          refine JM_iret rfl dX5_nearest_86 ?_
          exact hQ
        · skip
          refine J_iload_n 3 dX5_nearest_36 rfl ?_
          refine J_bipush 8 dX5_nearest_37 ⟨by decide, by decide⟩ (by decide) ?_
          refine J_icmp_ge 85 dX5_nearest_39 (by decide) (fun h39 => ?_) (fun h39 => ?_)
          · skip
            rw [if_neg (by omega)] at hQ
            refine J_iconst (-1) dX5_nearest_85 ⟨by decide, by decide⟩ ?_
            refine JM_iret rfl dX5_nearest_86 ?_
            exact hQ
          · skip
            rw [if_pos (by omega)] at hQ
            refine J_aload_n 0 dX5_nearest_42 rfl ?_
            refine J_getR lkF_X5_19 rfl dX5_nearest_43 ?_
            refine J_iload_n 3 dX5_nearest_46 rfl ?_
            refine J_bipush 12 dX5_nearest_47 ⟨by decide, by decide⟩ (by decide) ?_
            refine J_imul dX5_nearest_49 ⟨by omega, by omega⟩ ?_
            refine J_iload_n 2 dX5_nearest_50 rfl ?_
            refine J_iadd dX5_nearest_51 ⟨by omega, by omega⟩ ?_
            refine J_iaload _ rfl rfl (by omega) dX5_nearest_52 ?_
            refine J_iconst (-1) dX5_nearest_53 ⟨by decide, by decide⟩ ?_
            refine J_icmp_eq 72 dX5_nearest_54 (by decide) (fun h54 => ?_) (fun h54 => ?_)
            · skip
              rw [if_neg (by omega)] at hQ
              refine J_aload_n 0 dX5_nearest_72 rfl ?_
              refine J_getR lkF_X5_9 rfl dX5_nearest_73 ?_
              refine J_iload_n 3 dX5_nearest_76 rfl ?_
              refine J_iaload _ rfl rfl (by omega) dX5_nearest_77 ?_
              refine J_istore_3 dX5_nearest_78 (by decide) rfl ?_
              refine J_iinc_4 dX5_nearest_79 (by decide) ⟨by omega, by omega⟩ rfl ?_
              refine J_goto 17 dX5_nearest_82 (by decide) ?_
              have e : (8 - ((f + 1 : Nat) : Int)) + 1 = 8 - (f : Int) := by omega
              rw [e]
              exact ih _ (by omega) hQ
            · skip
              refine J_aload_n 0 dX5_nearest_57 rfl ?_
              refine J_getR lkF_X5_22 rfl dX5_nearest_58 ?_
              refine J_iload_n 3 dX5_nearest_61 rfl ?_
              refine J_iaload _ rfl rfl (by omega) dX5_nearest_62 ?_
              refine J_iload_n 2 dX5_nearest_63 rfl ?_
              refine J_ishr dX5_nearest_64 ?_
              refine J_iconst 1 dX5_nearest_65 ⟨by decide, by decide⟩ ?_
              refine J_iand dX5_nearest_66 ?_
              refine J_if_ne 72 dX5_nearest_67 (by decide) (fun h67 => ?_) (fun h67 => ?_)
              · skip
                rw [if_neg (by omega)] at hQ
                refine J_aload_n 0 dX5_nearest_72 rfl ?_
                refine J_getR lkF_X5_9 rfl dX5_nearest_73 ?_
                refine J_iload_n 3 dX5_nearest_76 rfl ?_
                refine J_iaload _ rfl rfl (by omega) dX5_nearest_77 ?_
                refine J_istore_3 dX5_nearest_78 (by decide) rfl ?_
                refine J_iinc_4 dX5_nearest_79 (by decide) ⟨by omega, by omega⟩ rfl ?_
                refine J_goto 17 dX5_nearest_82 (by decide) ?_
                have e : (8 - ((f + 1 : Nat) : Int)) + 1 = 8 - (f : Int) := by omega
                rw [e]
                exact ih _ (by omega) hQ
              · skip
                rw [if_pos (by omega)] at hQ
                refine J_iload_n 3 dX5_nearest_70 rfl ?_
                refine JM_iret rfl dX5_nearest_71 ?_
                exact hQ

set_option maxRecDepth 100000 in
set_option maxHeartbeats 4000000 in
theorem kX5_nearest {X : Cx} {d : Nat} {ω : Om} {Q : Option MV → Om → Prop} {t m : Int} (hQ : Q (some (vI (nrS ω t m))) ω) : Mc X mX5_nearest d [vR 3, vI t, vI m] ω Q := by
  unfold nrS at hQ
  refine Mc_of [some (vR 3), some (vI t), some (vI m), none, none] (by decide +kernel) rfl (Nat.le_of_ble_eq_true rfl) ?_
  refine J_iload_n 2 dX5_nearest_0 rfl ?_
  refine J_if_lt 10 dX5_nearest_1 (by decide) (fun h1 => ?_) (fun h1 => ?_)
  · skip
    rw [if_neg (by omega)] at hQ
    refine J_iconst (-1) dX5_nearest_10 ⟨by decide, by decide⟩ ?_
    refine JM_iret rfl dX5_nearest_11 ?_
    exact hQ
  · skip
    refine J_iload_n 2 dX5_nearest_4 rfl ?_
    refine J_bipush 12 dX5_nearest_5 ⟨by decide, by decide⟩ (by decide) ?_
    refine J_icmp_lt 12 dX5_nearest_7 (by decide) (fun h7 => ?_) (fun h7 => ?_)
    · skip
      rw [if_pos (by omega)] at hQ
      refine J_iload_n 1 dX5_nearest_12 rfl ?_
      refine J_istore_3 dX5_nearest_13 (by decide) rfl ?_
      refine J_iconst 0 dX5_nearest_14 ⟨by decide, by decide⟩ ?_
      refine J_istore_4 dX5_nearest_15 (by decide) rfl ?_
      exact l_nearest (by omega) 8 t (by omega) hQ
    · skip
      rw [if_neg (by omega)] at hQ
      refine J_iconst (-1) dX5_nearest_10 ⟨by decide, by decide⟩ ?_
      refine JM_iret rfl dX5_nearest_11 ?_
      exact hQ

set_option maxRecDepth 100000 in
set_option maxHeartbeats 4000000 in
theorem l_answerBits {X : Cx} {d : Nat} {Q : Option MV → Om → Prop} {ω : Om} {t : Int} : ∀ (n k : Nat), k + n = 6 → Q (some (vI (bitsF (fun m => decide (¬ nrS ω t m = -1)) 6))) ω → JM X mX5_answerBits (d + 1) Q 4 [some (vR 3), some (vI t), some (vI (bitsF (fun m => decide (¬ nrS ω t m = -1)) k)), some (vI k)] [] ω := by
  intro n
  induction n with
  | zero =>
    intro k hk hQ
    refine J_iload_n 3 dX5_answerBits_4 rfl ?_
    refine J_bipush 6 dX5_answerBits_5 ⟨by decide, by decide⟩ (by decide) ?_
    refine J_icmp_ge 32 dX5_answerBits_7 (by decide) (fun h7 => ?_) (fun h7 => ?_)
    · skip
      refine J_iload_n 2 dX5_answerBits_32 rfl ?_
      refine JM_iret rfl dX5_answerBits_33 ?_
      rw [show k = 6 from by omega]; exact hQ
    · skip
      exfalso; omega
  | succ n ih =>
    intro k hk hQ
    refine J_iload_n 3 dX5_answerBits_4 rfl ?_
    refine J_bipush 6 dX5_answerBits_5 ⟨by decide, by decide⟩ (by decide) ?_
    refine J_icmp_ge 32 dX5_answerBits_7 (by decide) (fun h7 => ?_) (fun h7 => ?_)
    · skip
      exfalso; omega
    · skip
      refine J_aload_n 0 dX5_answerBits_10 rfl ?_
      refine J_iload_n 1 dX5_answerBits_11 rfl ?_
      refine J_iload_n 3 dX5_answerBits_12 rfl ?_
      refine JM_V2 lkM_X5_59 rcv_3 dX5_answerBits_13 (by decide) (Nat.le_of_ble_eq_true rfl) ?_
      refine kX5_nearest ?_
      refine J_iconst (-1) dX5_answerBits_16 ⟨by decide, by decide⟩ ?_
      refine J_icmp_eq 26 dX5_answerBits_17 (by decide) (fun h17 => ?_) (fun h17 => ?_)
      · skip
        refine J_iinc_3 dX5_answerBits_26 (by decide) ⟨by omega, by omega⟩ rfl ?_
        refine J_goto 4 dX5_answerBits_29 (by decide) ?_
        have e := ih (k + 1) (by omega) hQ
        rw [bitsF] at e
        first | (rw [if_pos (by simpa using h17)] at e; exact e) | (rw [if_neg (by simpa using h17)] at e; exact e)
      · skip
        refine J_iload_n 2 dX5_answerBits_20 rfl ?_
        refine J_iconst 1 dX5_answerBits_21 ⟨by decide, by decide⟩ ?_
        refine J_iload_n 3 dX5_answerBits_22 rfl ?_
        refine J_ishl dX5_answerBits_23 ?_
        refine J_ior dX5_answerBits_24 ?_
        refine J_istore_2 dX5_answerBits_25 (by decide) rfl ?_
        refine J_iinc_3 dX5_answerBits_26 (by decide) ⟨by omega, by omega⟩ rfl ?_
        refine J_goto 4 dX5_answerBits_29 (by decide) ?_
        have e := ih (k + 1) (by omega) hQ
        rw [bitsF] at e
        first | (rw [if_pos (by simpa using h17)] at e; exact e) | (rw [if_neg (by simpa using h17)] at e; exact e)

set_option maxRecDepth 100000 in
set_option maxHeartbeats 4000000 in
theorem kX5_answerBits {X : Cx} {d : Nat} {ω : Om} {Q : Option MV → Om → Prop} {t : Int} (hQ : Q (some (vI (bitsF (fun m => decide (¬ nrS ω t m = -1)) 6))) ω) : Mc X mX5_answerBits (d + 1) [vR 3, vI t] ω Q := by
  refine Mc_of [some (vR 3), some (vI t), none, none] (by decide +kernel) rfl (Nat.le_of_ble_eq_true rfl) ?_
  refine J_iconst 0 dX5_answerBits_0 ⟨by decide, by decide⟩ ?_
  refine J_istore_2 dX5_answerBits_1 (by decide) rfl ?_
  refine J_iconst 0 dX5_answerBits_2 ⟨by decide, by decide⟩ ?_
  refine J_istore_3 dX5_answerBits_3 (by decide) rfl ?_
  exact l_answerBits 6 0 rfl hQ
