set_option maxRecDepth 100000 in
set_option maxHeartbeats 4000000 in
theorem kX5_put {X : Cx} {d : Nat} {ω : Om} {Q : Option MV → Om → Prop} {t m v h : Int} (ht : 0 ≤ t ∧ t < 8) (hm : 0 ≤ m ∧ m < 12) (hQ : Q none (up (up ω 14 (t * 12 + m) v) 15 t (zset (ω 15 t) m h))) : Mc X mX5_put (d + 1) [vR 3, vI t, vI m, vI v, vI h] ω Q := by
  unfold zset at hQ
  refine Mc_of [some (vR 3), some (vI t), some (vI m), some (vI v), some (vI h), none] (by decide +kernel) rfl (Nat.le_of_ble_eq_true rfl) ?_
  refine J_iload_n 1 dX5_put_0 rfl ?_
  refine J_if_lt 17 dX5_put_1 (by decide) (fun h1 => ?_) (fun h1 => ?_)
  · skip
    exfalso; omega
  · skip
    refine J_iload_n 1 dX5_put_4 rfl ?_
    refine J_bipush 8 dX5_put_5 ⟨by decide, by decide⟩ (by decide) ?_
    refine J_icmp_ge 17 dX5_put_7 (by decide) (fun h7 => ?_) (fun h7 => ?_)
    · skip
      exfalso; omega
    · skip
      refine J_iload_n 2 dX5_put_10 rfl ?_
      refine JM_S1 lkM_X5_48 dX5_put_11 (by decide) (Nat.le_of_ble_eq_true rfl) ?_
      refine kX6_isMember ?_
      rw [if_pos (by omega)]
      refine J_if_ne 18 dX5_put_14 (by decide) (fun h14 => ?_) (fun h14 => ?_)
      · skip
        refine J_aload_n 0 dX5_put_18 rfl ?_
        refine J_getR lkF_X5_19 rfl dX5_put_19 ?_
        refine J_iload_n 1 dX5_put_22 rfl ?_
        refine J_bipush 12 dX5_put_23 ⟨by decide, by decide⟩ (by decide) ?_
        refine J_imul dX5_put_25 ⟨by omega, by omega⟩ ?_
        refine J_iload_n 2 dX5_put_26 rfl ?_
        refine J_iadd dX5_put_27 ⟨by omega, by omega⟩ ?_
        refine J_iload_n 3 dX5_put_28 rfl ?_
        refine J_iastore _ rfl (by omega) dX5_put_29 ?_
        refine J_iconst 1 dX5_put_30 ⟨by decide, by decide⟩ ?_
        refine J_iload_n 2 dX5_put_31 rfl ?_
        refine J_ishl dX5_put_32 ?_
        refine J_istore_5 dX5_put_33 (by decide) rfl ?_
        refine J_aload_n 0 dX5_put_35 rfl ?_
        refine J_getR lkF_X5_22 rfl dX5_put_36 ?_
        refine J_iload_n 1 dX5_put_39 rfl ?_
        refine J_iload 4 dX5_put_40 rfl ?_
        refine J_if_eq 57 dX5_put_42 (by decide) (fun h42 => ?_) (fun h42 => ?_)
        · skip
          rw [if_pos h42] at hQ
          refine J_aload_n 0 dX5_put_57 rfl ?_
          refine J_getR lkF_X5_22 rfl dX5_put_58 ?_
          refine J_iload_n 1 dX5_put_61 rfl ?_
          refine J_iaload _ rfl rfl (by omega) dX5_put_62 ?_
          try simp (config := {decide := true}) only [up_s, up_k, up_i]
          refine J_iload 5 dX5_put_63 rfl ?_
          refine J_iconst (-1) dX5_put_65 ⟨by decide, by decide⟩ ?_
          refine J_ixor dX5_put_66 ?_
          refine J_iand dX5_put_67 ?_
          refine J_iastore _ rfl (by omega) dX5_put_68 ?_
          refine JM_vret rfl dX5_put_69 ?_
          exact hQ
        · skip
          rw [if_neg h42] at hQ
          refine J_aload_n 0 dX5_put_45 rfl ?_
          refine J_getR lkF_X5_22 rfl dX5_put_46 ?_
          refine J_iload_n 1 dX5_put_49 rfl ?_
          refine J_iaload _ rfl rfl (by omega) dX5_put_50 ?_
          try simp (config := {decide := true}) only [up_s, up_k, up_i]
          refine J_iload 5 dX5_put_51 rfl ?_
          refine J_ior dX5_put_53 ?_
          refine J_goto 68 dX5_put_54 (by decide) ?_
          refine J_iastore _ rfl (by omega) dX5_put_68 ?_
          refine JM_vret rfl dX5_put_69 ?_
          exact hQ
      · skip
        exfalso; omega

theorem bitsF_zero {p : Int → Bool} : ∀ k : Nat, (∀ j : Nat, j < k → p j = false) → bitsF p k = 0 := by
  intro k
  induction k with
  | zero => intro _; rfl
  | succ k ih => intro h; simp only [bitsF]; rw [if_neg (by rw [h k (by omega)]; decide)]; exact ih (fun j hj => h j (by omega))
theorem z256_fin {x t : Int} (hx : 0 ≤ x ∧ x < 256) (ht : 0 ≤ t ∧ t < 8) : (0 ≤ zOr x (zShl 1 t) ∧ zOr x (zShl 1 t) < 256) ∧ ∀ n, 0 ≤ n → n < 8 → zb (zOr x (zShl 1 t)) n = if n = t then 1 else zb x n := by
  have h := z256_tab ⟨x.toNat, by omega⟩ ⟨t.toNat, by omega⟩
  simp only [Int.toNat_of_nonneg hx.1, Int.toNat_of_nonneg ht.1] at h
  refine ⟨h.1, fun n n0 n1 => ?_⟩
  have := h.2 ⟨n.toNat, by omega⟩
  simp only [Int.toNat_of_nonneg n0] at this
  rw [this]
  by_cases e : n = t
  · subst e; simp
  · rw [if_neg e, if_neg (by simp only [Fin.mk.injEq]; omega)]
theorem zb0_tab : ∀ n : Fin 8, zb 0 n.val = 0 := by decide +kernel
theorem zb_0 {n : Int} (h : 0 ≤ n ∧ n < 8) : zb 0 n = 0 := by
  have := zb0_tab ⟨n.toNat, by omega⟩
  simpa only [Int.toNat_of_nonneg h.1] using this
theorem bitsF_zb {p : Int → Bool} : ∀ k : Nat, k ≤ 8 → (0 ≤ bitsF p k ∧ bitsF p k < 256) ∧ ∀ n, 0 ≤ n → n < 8 → zb (bitsF p k) n = if n < k ∧ p n = true then 1 else 0 := by
  intro k
  induction k with
  | zero => intro _; exact ⟨⟨Int.le_refl 0, show (0 : Int) < 256 by decide⟩, fun n n0 n1 => by rw [if_neg (by omega)]; exact zb_0 ⟨n0, n1⟩⟩
  | succ k ih =>
    intro hk
    have h := ih (by omega)
    simp only [bitsF]
    by_cases hp : p k = true
    · rw [if_pos hp]
      have z := z256_fin h.1 (t := (k : Int)) (by omega)
      refine ⟨z.1, fun n n0 n1 => ?_⟩
      rw [z.2 n n0 n1, h.2 n n0 n1]
      by_cases e : n = (k : Int)
      · subst e; rw [if_pos rfl, if_pos ⟨by omega, hp⟩]
      · rw [if_neg e]
        by_cases q : n < (k : Int) ∧ p n = true
        · rw [if_pos q, if_pos ⟨by omega, q.2⟩]
        · rw [if_neg q, if_neg (fun w => q ⟨by omega, w.2⟩)]
    · rw [if_neg hp]
      refine ⟨h.1, fun n n0 n1 => ?_⟩
      rw [h.2 n n0 n1]
      by_cases q : n < (k : Int) ∧ p n = true
      · rw [if_pos q, if_pos ⟨by omega, q.2⟩]
      · rw [if_neg q, if_neg (fun w => q ⟨by
          have : n ≠ (k : Int) := fun e => hp (by rw [← e]; exact w.2)
          omega, w.2⟩)]
theorem anyB_iff {p : Int → Bool} : ∀ n : Nat, anyB p n = true ↔ ∃ k : Nat, k < n ∧ p k = true := by
  intro n
  induction n with
  | zero => simp [anyB]
  | succ n ih =>
    simp only [anyB, Bool.or_eq_true, ih]
    constructor
    · rintro (⟨k, h1, h2⟩ | h)
      · exact ⟨k, by omega, h2⟩
      · exact ⟨n, by omega, h⟩
    · rintro ⟨k, h1, h2⟩
      by_cases e : k = n
      · subst e; exact Or.inr h2
      · exact Or.inl ⟨k, by omega, h2⟩
theorem anyB_no {p : Int → Bool} {n : Nat} (h : ∀ k : Nat, k < n → p k = false) : anyB p n = false := by
  rw [Bool.eq_false_iff]; intro q
  obtain ⟨k, h1, h2⟩ := (anyB_iff n).mp q
  rw [h k h1] at h2; cases h2
theorem bitsF_any {p : Int → Bool} {n : Nat} (hn : n ≤ 8) : bitsF p n = 0 ↔ anyB p n = false := by
  have h := bitsF_zb (p := p) n hn
  constructor
  · intro e
    refine anyB_no (fun k hk => ?_)
    have := h.2 k (by omega) (by omega)
    rw [e, zb_0 (by omega)] at this
    rw [Bool.eq_false_iff]; intro q
    rw [if_pos ⟨by omega, q⟩] at this; omega
  · intro e
    refine bitsF_zero n (fun j hj => ?_)
    rw [Bool.eq_false_iff]; intro q
    rw [(anyB_iff n).mpr ⟨j, hj, q⟩] at e; cases e
set_option maxRecDepth 100000 in
set_option maxHeartbeats 4000000 in
theorem l_childBits {X : Cx} {d : Nat} {Q : Option MV → Om → Prop} {ω : Om} {t : Int} (hn : 0 ≤ ω 3 7 ∧ ω 3 7 ≤ 8) : ∀ (n k : Nat), k + n = (ω 3 7).toNat → Q (some (vI (bitsF (fun c => decide (pr ω c = t)) (ω 3 7).toNat))) ω → JM X mX5_childBits (d + 1) Q 6 [some (vR 3), some (vI t), some (vI (bitsF (fun c => decide (pr ω c = t)) k)), some (vI k)] [] ω := by
  intro n
  induction n with
  | zero =>
    intro k hk hQ
    refine J_iload_n 3 dX5_childBits_6 rfl ?_
    refine J_aload_n 0 dX5_childBits_7 rfl ?_
    refine J_getI 7 lkF_X5_34 rfl rfl rfl dX5_childBits_8 ?_
    refine J_icmp_ge 35 dX5_childBits_11 (by decide) (fun h11 => ?_) (fun h11 => ?_)
    · skip
      refine J_iload_n 2 dX5_childBits_35 rfl ?_
      refine JM_iret rfl dX5_childBits_36 ?_
      rw [show k = (ω 3 7).toNat from by omega]; exact hQ
    · skip
      exfalso; omega
  | succ n ih =>
    intro k hk hQ
    refine J_iload_n 3 dX5_childBits_6 rfl ?_
    refine J_aload_n 0 dX5_childBits_7 rfl ?_
    refine J_getI 7 lkF_X5_34 rfl rfl rfl dX5_childBits_8 ?_
    refine J_icmp_ge 35 dX5_childBits_11 (by decide) (fun h11 => ?_) (fun h11 => ?_)
    · skip
      exfalso; omega
    · skip
      refine J_aload_n 0 dX5_childBits_14 rfl ?_
      refine J_iload_n 3 dX5_childBits_15 rfl ?_
      refine JM_V1 lkM_X5_55 rcv_3 dX5_childBits_16 (by decide) (Nat.le_of_ble_eq_true rfl) ?_
      refine kX5_parentOf ?_
      refine J_iload_n 1 dX5_childBits_19 rfl ?_
      refine J_icmp_ne 29 dX5_childBits_20 (by decide) (fun h20 => ?_) (fun h20 => ?_)
      · skip
        refine J_iinc_3 dX5_childBits_29 (by decide) ⟨by omega, by omega⟩ rfl ?_
        refine J_goto 6 dX5_childBits_32 (by decide) ?_
        have e := ih (k + 1) (by omega) hQ
        rw [bitsF] at e
        first | (rw [if_pos (by simpa using h20)] at e; exact e) | (rw [if_neg (by simpa using h20)] at e; exact e)
      · skip
        refine J_iload_n 2 dX5_childBits_23 rfl ?_
        refine J_iconst 1 dX5_childBits_24 ⟨by decide, by decide⟩ ?_
        refine J_iload_n 3 dX5_childBits_25 rfl ?_
        refine J_ishl dX5_childBits_26 ?_
        refine J_ior dX5_childBits_27 ?_
        refine J_istore_2 dX5_childBits_28 (by decide) rfl ?_
        refine J_iinc_3 dX5_childBits_29 (by decide) ⟨by omega, by omega⟩ rfl ?_
        refine J_goto 6 dX5_childBits_32 (by decide) ?_
        have e := ih (k + 1) (by omega) hQ
        rw [bitsF] at e
        first | (rw [if_pos (by simpa using h20)] at e; exact e) | (rw [if_neg (by simpa using h20)] at e; exact e)

set_option maxRecDepth 100000 in
set_option maxHeartbeats 4000000 in
theorem kX5_childBits {X : Cx} {d : Nat} {ω : Om} {Q : Option MV → Om → Prop} {t : Int} (hW : WfT ω) (ht : 0 ≤ t ∧ t < ω 3 7) (hQ : Q (some (vI (bitsF (fun c => decide (pr ω c = t)) (ω 3 7).toNat))) ω) : Mc X mX5_childBits (d + 1) [vR 3, vI t] ω Q := by
  have hn := hW.1
  have hz : bitsF (fun c => decide (pr ω c = t)) (t.toNat + 1) = 0 := bitsF_zero _ (fun j hj => by
    have h1 := hW.2.2.1 j (by omega) (by omega)
    have h2 := pr_in hW (t := (j : Int)) (by omega)
    simp only [decide_eq_false_iff_not]; omega)
  refine Mc_of [some (vR 3), some (vI t), none, none] (by decide +kernel) rfl (Nat.le_of_ble_eq_true rfl) ?_
  refine J_iconst 0 dX5_childBits_0 ⟨by decide, by decide⟩ ?_
  refine J_istore_2 dX5_childBits_1 (by decide) rfl ?_
  refine J_iload_n 1 dX5_childBits_2 rfl ?_
  refine J_iconst 1 dX5_childBits_3 ⟨by decide, by decide⟩ ?_
  refine J_iadd dX5_childBits_4 ⟨by omega, by omega⟩ ?_
  refine J_istore_3 dX5_childBits_5 (by decide) rfl ?_
  have e := l_childBits (X := X) (d := d) (Q := Q) (t := t) hn ((ω 3 7).toNat - (t.toNat + 1)) (t.toNat + 1) (by omega) hQ
  rw [hz, show ((t.toNat + 1 : Nat) : Int) = t + 1 from by omega] at e
  exact e

set_option maxRecDepth 100000 in
set_option maxHeartbeats 4000000 in
theorem l_someLack {X : Cx} {d : Nat} {Q : Option MV → Om → Prop} {ω : Om} {t m : Int} (hn : 0 ≤ ω 3 7 ∧ ω 3 7 ≤ 8) : ∀ (n k : Nat), k + n = (ω 3 7).toNat → (∀ j : Nat, j < k → (fun c => decide (pr ω c = t ∧ hb ω c m = -1)) j = false) → Q (some (vI (if anyB (fun c => decide (pr ω c = t ∧ hb ω c m = -1)) (ω 3 7).toNat = true then 1 else 0))) ω → JM X mX0_someLack (d + 1) Q 2 [some (vR 6), some (vI (bitsF (fun c => decide (pr ω c = t)) (ω 3 7).toNat)), some (vI m), some (vI k)] [] ω := by
  intro n
  have hbb := bitsF_zb (p := (fun c => decide (pr ω c = t))) (ω 3 7).toNat (by omega)
  induction n with
  | zero =>
    intro k hk hj hQ
    refine J_iload_n 3 dX0_someLack_2 rfl ?_
    refine J_aload_n 0 dX0_someLack_3 rfl ?_
    refine J_getR lkF_X0_37 rfl dX0_someLack_4 ?_
    refine J_getI 7 lkF_X0_97 rfl rfl rfl dX0_someLack_7 ?_
    refine J_icmp_ge 42 dX0_someLack_10 (by decide) (fun h10 => ?_) (fun h10 => ?_)
    · skip
      refine J_iconst 0 dX0_someLack_42 ⟨by decide, by decide⟩ ?_
      refine JM_zret rfl (by omega) dX0_someLack_43 ?_
      rw [if_neg (by rw [anyB_no (fun j h => hj j (by omega))]; decide)] at hQ; exact hQ
    · skip
      exfalso; omega
  | succ n ih =>
    intro k hk hj hQ
    have hzk := hbb.2 k (by omega) (by omega)
    unfold zb at hzk
    refine J_iload_n 3 dX0_someLack_2 rfl ?_
    refine J_aload_n 0 dX0_someLack_3 rfl ?_
    refine J_getR lkF_X0_37 rfl dX0_someLack_4 ?_
    refine J_getI 7 lkF_X0_97 rfl rfl rfl dX0_someLack_7 ?_
    refine J_icmp_ge 42 dX0_someLack_10 (by decide) (fun h10 => ?_) (fun h10 => ?_)
    · skip
      exfalso; omega
    · skip
      refine J_iload_n 1 dX0_someLack_13 rfl ?_
      refine J_iload_n 3 dX0_someLack_14 rfl ?_
      refine J_ishr dX0_someLack_15 ?_
      refine J_iconst 1 dX0_someLack_16 ⟨by decide, by decide⟩ ?_
      refine J_iand dX0_someLack_17 ?_
      refine J_if_eq 36 dX0_someLack_18 (by decide) (fun h18 => ?_) (fun h18 => ?_)
      · skip
        rw [h18] at hzk
        refine J_iinc_3 dX0_someLack_36 (by decide) ⟨by omega, by omega⟩ rfl ?_
        refine J_goto 2 dX0_someLack_39 (by decide) ?_
        refine ih (k + 1) (by omega) (fun j hj' => ?_) hQ
        by_cases e : j = k
        · subst e
          simp only [decide_eq_false_iff_not]
          first
            | exact fun q => h31 q.2
            | (intro q; rw [if_pos (by simp only [decide_eq_true_eq]; exact ⟨by omega, q.1⟩)] at hzk; omega)
        · exact hj j (by omega)
      · skip
        have hpk : pr ω k = t := by
          by_cases q : pr ω k = t
          · exact q
          · rw [if_neg (by simp [q])] at hzk; omega
        refine J_aload_n 0 dX0_someLack_21 rfl ?_
        refine J_getR lkF_X0_37 rfl dX0_someLack_22 ?_
        refine J_iload_n 3 dX0_someLack_25 rfl ?_
        refine J_iload_n 2 dX0_someLack_26 rfl ?_
        refine JM_V2 lkM_X0_49 rcv_3 dX0_someLack_27 (by decide) (Nat.le_of_ble_eq_true rfl) ?_
        refine kX5_heldBy ?_
        refine J_iconst (-1) dX0_someLack_30 ⟨by decide, by decide⟩ ?_
        refine J_icmp_ne 36 dX0_someLack_31 (by decide) (fun h31 => ?_) (fun h31 => ?_)
        · skip
          refine J_iinc_3 dX0_someLack_36 (by decide) ⟨by omega, by omega⟩ rfl ?_
          refine J_goto 2 dX0_someLack_39 (by decide) ?_
          refine ih (k + 1) (by omega) (fun j hj' => ?_) hQ
          by_cases e : j = k
          · subst e
            simp only [decide_eq_false_iff_not]
            first
              | exact fun q => h31 q.2
              | (intro q; rw [if_pos (by simp only [decide_eq_true_eq]; exact ⟨by omega, q.1⟩)] at hzk; omega)
          · exact hj j (by omega)
        · skip
          refine J_iconst 1 dX0_someLack_34 ⟨by decide, by decide⟩ ?_
          refine JM_zret rfl (by omega) dX0_someLack_35 ?_
          rw [if_pos ((anyB_iff _).mpr ⟨k, by omega, by simp only [decide_eq_true_eq]; exact ⟨hpk, h31⟩⟩)] at hQ; exact hQ

set_option maxRecDepth 100000 in
set_option maxHeartbeats 4000000 in
theorem kX0_someLack {X : Cx} {d : Nat} {ω : Om} {Q : Option MV → Om → Prop} {t m bits : Int} (hn : 0 ≤ ω 3 7 ∧ ω 3 7 ≤ 8) (hbits : bits = bitsF (fun c => decide (pr ω c = t)) (ω 3 7).toNat) (hQ : Q (some (vI (if anyB (fun c => decide (pr ω c = t ∧ hb ω c m = -1)) (ω 3 7).toNat = true then 1 else 0))) ω) : Mc X mX0_someLack (d + 1) [vR 6, vI bits, vI m] ω Q := by
  refine Mc_of [some (vR 6), some (vI bits), some (vI m), none] (by decide +kernel) rfl (Nat.le_of_ble_eq_true rfl) ?_
  refine J_iconst 0 dX0_someLack_0 ⟨by decide, by decide⟩ ?_
  refine J_istore_3 dX0_someLack_1 (by decide) rfl ?_
  subst hbits
  exact l_someLack hn (ω 3 7).toNat 0 (by omega) (fun j h => absurd h (by omega)) hQ

/-- a row of saved members, the first t classes of it -/
def SvR (ω0 ω : Om) (row m : Int) (t : Nat) : Prop := Fr [26, 27, 28] ω0 ω ∧ ω 28 row = m ∧ (0 ≤ ω 27 row ∧ ω 27 row < 256) ∧ (∀ j : Int, 0 ≤ j → j < t → ω 26 (row * 8 + j) = hb ω0 j m ∧ zb (ω 27 row) j = hds ω0 j m) ∧ (∀ j : Int, (t : Int) ≤ j → j < 8 → zb (ω 27 row) j = 0) ∧
  (∀ q, (q < row * 8 ∨ row * 8 + 8 ≤ q) → ω 26 q = ω0 26 q) ∧ ∀ r, r ≠ row → ω 27 r = ω0 27 r ∧ ω 28 r = ω0 28 r
theorem SvR_0 (ω : Om) (row m : Int) : SvR ω (up (up ω 28 row m) 27 row 0) row m 0 := by
  refine ⟨Fr.up (Fr.up Fr.rf (by decide)) (by decide), by rw [up_k (by decide), up_s], by rw [up_s]; exact ⟨by decide, by decide⟩, fun j a b => by omega, fun j a b => by rw [up_s]; exact zb_0 ⟨by omega, b⟩, fun q _ => by rw [up_k (by decide), up_k (by decide)], fun r hr => ⟨by rw [up_i hr, up_k (by decide)], by rw [up_k (by decide), up_i hr]⟩⟩
theorem SvR_skip {ω0 ω : Om} {row m : Int} {t : Nat} (ht : t < 8) (h : SvR ω0 ω row m t) (hh : hds ω0 t m = 0) : SvR ω0 (up ω 26 (row * 8 + t) (hb ω0 t m)) row m (t + 1) := by
  obtain ⟨a, b, c, d, e, f, g⟩ := h
  refine ⟨a.up (by decide), by rw [up_k (by decide)]; exact b, by rw [up_k (by decide)]; exact c, fun j j0 j1 => ?_, fun j j0 j1 => by rw [up_k (by decide)]; exact e j (by omega) j1, fun q hq => by rw [up_i (by omega)]; exact f q hq, fun r hr => by rw [up_k (by decide), up_k (by decide)]; exact g r hr⟩
  by_cases ej : j = (t : Int)
  · subst ej; rw [up_s, up_k (by decide), e _ (by omega) (by omega), hh]; exact ⟨rfl, rfl⟩
  · rw [up_i (by omega), up_k (by decide)]; exact d j j0 (by omega)
theorem SvR_set {ω0 ω : Om} {row m : Int} {t : Nat} (ht : t < 8) (h : SvR ω0 ω row m t) (hh : hds ω0 t m = 1) : SvR ω0 (up (up ω 26 (row * 8 + t) (hb ω0 t m)) 27 row (zOr (ω 27 row) (zShl 1 t))) row m (t + 1) := by
  obtain ⟨a, b, c, d, e, f, g⟩ := h
  have z := z256_fin c (t := (t : Int)) (by omega)
  refine ⟨(a.up (by decide)).up (by decide), by rw [up_k (by decide), up_k (by decide)]; exact b, by rw [up_s]; exact z.1, fun j j0 j1 => ?_, fun j j0 j1 => ?_, fun q hq => by rw [up_k (by decide), up_i (by omega)]; exact f q hq, fun r hr => by rw [up_i hr, up_k (by decide), up_k (by decide), up_k (by decide)]; exact g r hr⟩
  · rw [up_k (by decide), up_s, z.2 j j0 (by omega)]
    by_cases ej : j = (t : Int)
    · subst ej; rw [up_s, if_pos rfl, hh]; exact ⟨rfl, rfl⟩
    · rw [up_i (by omega), if_neg ej]; exact d j j0 (by omega)
  · rw [up_s, z.2 j (by omega) j1, if_neg (by omega)]; exact e j (by omega) j1
theorem tree_fr {ω ω' : Om} {K : List Nat} (hf : Fr K ω ω') (hk : ([3, 12, 13, 14, 15, 16, 17, 18] : List Nat).all (fun k => !K.contains k) = true) : TE ω ω' := (TE.rf ω).fr hf hk
set_option maxRecDepth 100000 in
set_option maxHeartbeats 4000000 in
theorem l_save {X : Cx} {d : Nat} {Q : Option MV → Om → Prop} {ω0 : Om} {row m : Int} (hr : 0 ≤ row ∧ row < 21) : ∀ (n t : Nat) (ω : Om), t + n = 8 → SvR ω0 ω row m t → (∀ ω', SvR ω0 ω' row m 8 → Q none ω') → JM X mX0_save (d + 1) Q 27 [some (vR 6), some (vI row), some (vI m), some (vI t)] [] ω := by
  intro n
  induction n with
  | zero =>
    intro t ω ht hS hQ
    have e8 : t = 8 := by omega
    subst e8
    refine J_iload_n 3 dX0_save_27 rfl ?_
    refine J_bipush 8 dX0_save_28 ⟨by decide, by decide⟩ (by decide) ?_
    refine J_icmp_ge 83 dX0_save_30 (by decide) (fun h30 => ?_) (fun h30 => ?_)
    · skip
      refine JM_vret rfl dX0_save_83 ?_
      exact hQ _ hS
    · skip
      exfalso; omega
  | succ n ih =>
    intro t ω ht hS hQ
    have hE := tree_fr hS.1 rfl
    refine J_iload_n 3 dX0_save_27 rfl ?_
    refine J_bipush 8 dX0_save_28 ⟨by decide, by decide⟩ (by decide) ?_
    refine J_icmp_ge 83 dX0_save_30 (by decide) (fun h30 => ?_) (fun h30 => ?_)
    · skip
      exfalso; omega
    · skip
      refine J_aload_n 0 dX0_save_33 rfl ?_
      refine J_getR lkF_X0_11 rfl dX0_save_34 ?_
      refine J_iload_n 1 dX0_save_37 rfl ?_
      refine J_bipush 8 dX0_save_38 ⟨by decide, by decide⟩ (by decide) ?_
      refine J_imul dX0_save_40 ⟨by omega, by omega⟩ ?_
      refine J_iload_n 3 dX0_save_41 rfl ?_
      refine J_iadd dX0_save_42 ⟨by omega, by omega⟩ ?_
      refine J_aload_n 0 dX0_save_43 rfl ?_
      refine J_getR lkF_X0_37 rfl dX0_save_44 ?_
      refine J_iload_n 3 dX0_save_47 rfl ?_
      refine J_iload_n 2 dX0_save_48 rfl ?_
      refine JM_V2 lkM_X0_49 rcv_3 dX0_save_49 (by decide) (Nat.le_of_ble_eq_true rfl) ?_
      refine kX5_heldBy ?_
      rw [hb_TE hE]
      refine J_iastore _ rfl (by omega) dX0_save_52 ?_
      refine J_aload_n 0 dX0_save_53 rfl ?_
      refine J_getR lkF_X0_37 rfl dX0_save_54 ?_
      refine J_iload_n 3 dX0_save_57 rfl ?_
      refine J_iload_n 2 dX0_save_58 rfl ?_
      refine JM_V2 lkM_X0_104 rcv_3 dX0_save_59 (by decide) (Nat.le_of_ble_eq_true rfl) ?_
      refine kX5_hides ?_
      rw [hds_TE (hE.fr (K := [26]) ((Fr.up Fr.rf (by decide))) rfl)]
      refine J_if_eq 77 dX0_save_62 (by decide) (fun h62 => ?_) (fun h62 => ?_)
      · skip
        refine J_iinc_3 dX0_save_77 (by decide) ⟨by omega, by omega⟩ rfl ?_
        refine J_goto 27 dX0_save_80 (by decide) ?_
        first
          | exact ih (t + 1) _ (by omega) (SvR_skip (by omega) hS h62) hQ
          | exact ih (t + 1) _ (by omega) (SvR_set (by omega) hS (by rcases hds01 ω0 t m with q | q; exact absurd q h62; exact q)) hQ
      · skip
        refine J_aload_n 0 dX0_save_65 rfl ?_
        refine J_getR lkF_X0_15 rfl dX0_save_66 ?_
        refine J_iload_n 1 dX0_save_69 rfl ?_
        refine J_dup2 dX0_save_70 ?_
        refine J_iaload _ rfl rfl (by omega) dX0_save_71 ?_
        try simp (config := {decide := true}) only [up_s, up_k, up_i]
        refine J_iconst 1 dX0_save_72 ⟨by decide, by decide⟩ ?_
        refine J_iload_n 3 dX0_save_73 rfl ?_
        refine J_ishl dX0_save_74 ?_
        refine J_ior dX0_save_75 ?_
        refine J_iastore _ rfl (by omega) dX0_save_76 ?_
        refine J_iinc_3 dX0_save_77 (by decide) ⟨by omega, by omega⟩ rfl ?_
        refine J_goto 27 dX0_save_80 (by decide) ?_
        first
          | exact ih (t + 1) _ (by omega) (SvR_skip (by omega) hS h62) hQ
          | exact ih (t + 1) _ (by omega) (SvR_set (by omega) hS (by rcases hds01 ω0 t m with q | q; exact absurd q h62; exact q)) hQ

set_option maxRecDepth 100000 in
set_option maxHeartbeats 4000000 in
theorem kX0_save {X : Cx} {d : Nat} {ω : Om} {Q : Option MV → Om → Prop} {row m : Int} (hr : 0 ≤ row ∧ row < 21) (hQ : ∀ ω', SvR ω ω' row m 8 → Q none ω') : Mc X mX0_save (d + 1) [vR 6, vI row, vI m] ω Q := by
  refine Mc_of [some (vR 6), some (vI row), some (vI m), none] (by decide +kernel) rfl (Nat.le_of_ble_eq_true rfl) ?_
  refine J_iload_n 1 dX0_save_0 rfl ?_
  refine J_if_lt 10 dX0_save_1 (by decide) (fun h1 => ?_) (fun h1 => ?_)
  · skip
    exfalso; omega
  · skip
    refine J_iload_n 1 dX0_save_4 rfl ?_
    refine J_bipush 21 dX0_save_5 ⟨by decide, by decide⟩ (by decide) ?_
    refine J_icmp_lt 11 dX0_save_7 (by decide) (fun h7 => ?_) (fun h7 => ?_)
    · skip
      refine J_aload_n 0 dX0_save_11 rfl ?_
      refine J_getR lkF_X0_18 rfl dX0_save_12 ?_
      refine J_iload_n 1 dX0_save_15 rfl ?_
      refine J_iload_n 2 dX0_save_16 rfl ?_
      refine J_iastore _ rfl (by omega) dX0_save_17 ?_
      refine J_aload_n 0 dX0_save_18 rfl ?_
      refine J_getR lkF_X0_15 rfl dX0_save_19 ?_
      refine J_iload_n 1 dX0_save_22 rfl ?_
      refine J_iconst 0 dX0_save_23 ⟨by decide, by decide⟩ ?_
      refine J_iastore _ rfl (by omega) dX0_save_24 ?_
      refine J_iconst 0 dX0_save_25 ⟨by decide, by decide⟩ ?_
      refine J_istore_3 dX0_save_26 (by decide) rfl ?_
      exact l_save hr 8 0 _ rfl (SvR_0 ω row m) hQ
    · skip
      exfalso; omega

/-- member m has been put into the classes S -/
def PP (ω0 ω : Om) (m : Int) (S : Int → Bool) (v b : Int → Int) : Prop := Fr [14, 15] ω0 ω ∧ (∀ j n : Int, 0 ≤ j → j < 8 → 0 ≤ n → n < 12 → ω 14 (j * 12 + n) = if n = m ∧ S j = true then v j else ω0 14 (j * 12 + n)) ∧ (∀ j : Int, 0 ≤ j → j < 8 → ω 15 j = if S j = true then zset (ω0 15 j) m (b j) else ω0 15 j)
theorem PP_0 (ω : Om) (m : Int) {S : Int → Bool} (v b : Int → Int) (hS : ∀ j, 0 ≤ j → j < 8 → S j = false) : PP ω ω m S v b := ⟨Fr.rf, fun j n a b _ _ => by rw [if_neg (by rw [hS j a b]; simp)], fun j a b => by rw [if_neg (by rw [hS j a b]; simp)]⟩
theorem PP_put {ω0 ω : Om} {m c x y : Int} {S S' : Int → Bool} {v b : Int → Int} (h : PP ω0 ω m S v b) (hm : 0 ≤ m ∧ m < 12) (hc : 0 ≤ c ∧ c < 8) (hn : S c = false) (hx : x = v c) (hy : y = b c) (hS : ∀ j, 0 ≤ j → j < 8 → (S' j = true ↔ (S j = true ∨ j = c))) : PP ω0 (up (up ω 14 (c * 12 + m) x) 15 c (zset (ω 15 c) m y)) m S' v b := by
  obtain ⟨a, d, e⟩ := h
  have ec := e c hc.1 hc.2
  rw [if_neg (by rw [hn]; simp)] at ec
  refine ⟨(a.up (by decide)).up (by decide), fun j n j0 j1 n0 n1 => ?_, fun j j0 j1 => ?_⟩
  · rw [up_k (by decide)]
    by_cases e1 : j = c ∧ n = m
    · obtain ⟨rfl, rfl⟩ := e1
      rw [up_s, if_pos ⟨rfl, (hS j j0 j1).mpr (Or.inr rfl)⟩, hx]
    · rw [up_i (by omega), d j n j0 j1 n0 n1]
      by_cases q : n = m ∧ S j = true
      · rw [if_pos q, if_pos ⟨q.1, (hS j j0 j1).mpr (Or.inl q.2)⟩]
      · rw [if_neg q, if_neg (fun w => q ⟨w.1, by
          rcases (hS j j0 j1).mp w.2 with z | z
          · exact z
          · exact absurd ⟨z, w.1⟩ e1⟩)]
  · by_cases e1 : j = c
    · subst e1; rw [up_s, if_pos ((hS j j0 j1).mpr (Or.inr rfl)), ec, hy]
    · rw [up_i e1, up_k (by decide), e j j0 j1]
      by_cases q : S j = true
      · rw [if_pos q, if_pos ((hS j j0 j1).mpr (Or.inl q))]
      · rw [if_neg q, if_neg (fun w => q (((hS j j0 j1).mp w).resolve_right e1))]
theorem PP_cg {ω0 ω : Om} {m : Int} {S S' : Int → Bool} {v b : Int → Int} (h : PP ω0 ω m S v b) (hS : ∀ j, 0 ≤ j → j < 8 → S' j = S j) : PP ω0 ω m S' v b :=
  ⟨h.1, fun j n j0 j1 n0 n1 => by rw [hS j j0 j1]; exact h.2.1 j n j0 j1 n0 n1, fun j j0 j1 => by rw [hS j j0 j1]; exact h.2.2 j j0 j1⟩
/-- hidden bits are small words, also beyond the last class -/
def GW (ω : Om) : Prop := ∀ t, 0 ≤ t → t < 8 → 0 ≤ ω 15 t ∧ ω 15 t < 64
theorem PP_GW {ω0 ω : Om} {m : Int} {S : Int → Bool} {v b : Int → Int} (h : PP ω0 ω m S v b) (hm : 0 ≤ m ∧ m < 12) (hb : ∀ j, 0 ≤ j → j < 8 → b j = 0 ∨ (b j = 1 ∧ m < 6)) (hG : GW ω0) : GW ω := by
  intro t t0 t1
  rw [h.2.2 t t0 t1]
  split
  · exact (zset_fin (hG t t0 t1) hm (hb t t0 t1)).1
  · exact hG t t0 t1
theorem PP_pr {ω0 ω : Om} {m : Int} {S : Int → Bool} {v b : Int → Int} (h : PP ω0 ω m S v b) (c : Int) : pr ω c = pr ω0 c := by unfold pr; rw [h.1 3 (by decide), h.1 12 (by decide)]
theorem PP_hb {ω0 ω : Om} {m : Int} {S : Int → Bool} {v b : Int → Int} (h : PP ω0 ω m S v b) {c : Int} (hS : 0 ≤ c → c < 8 → S c = false) : hb ω c m = hb ω0 c m := by
  unfold hb; rw [h.1 3 (by decide)]; split
  · rename_i g; rw [h.2.1 c m g.1 g.2.2.1 g.2.2.2.1 g.2.2.2.2, if_neg (by rw [hS g.1 g.2.2.1]; simp)]
  · rfl
theorem PP_hds {ω0 ω : Om} {m : Int} {S : Int → Bool} {v b : Int → Int} (h : PP ω0 ω m S v b) {c : Int} (hS : 0 ≤ c → c < 8 → S c = false) : hds ω c m = hds ω0 c m := by
  unfold hds; rw [h.1 3 (by decide)]
  by_cases g : 0 ≤ c ∧ c < 8
  · have e15 : ω 15 c = ω0 15 c := by rw [h.2.2 c g.1 g.2, if_neg (by rw [hS g.1 g.2]; simp)]
    rw [e15]
  · rw [if_neg (by omega), if_neg (by omega)]
set_option maxRecDepth 100000 in
set_option maxHeartbeats 4000000 in
theorem l_restore {X : Cx} {d : Nat} {Q : Option MV → Om → Prop} {ω0 : Om} {row m : Int} (hr : 0 ≤ row ∧ row < 21) (hm : 0 ≤ m ∧ m < 12) (hmm : ω0 28 row = m) : ∀ (n t : Nat) (ω : Om) (x : Option MV), t + n = 8 → PP ω0 ω m (fun j => decide (j < t)) (fun j => ω0 26 (row * 8 + j)) (fun j => zb (ω0 27 row) j) → (∀ ω', PP ω0 ω' m (fun _ => true) (fun j => ω0 26 (row * 8 + j)) (fun j => zb (ω0 27 row) j) → Q none ω') → JM X mX0_restore (d + 2) Q 13 [some (vR 6), some (vI row), some (vI t), x] [] ω := by
  intro n
  induction n with
  | zero =>
    intro t ω x ht hS hQ
    refine J_iload_n 2 dX0_restore_13 rfl ?_
    refine J_bipush 8 dX0_restore_14 ⟨by decide, by decide⟩ (by decide) ?_
    refine J_icmp_ge 70 dX0_restore_16 (by decide) (fun h16 => ?_) (fun h16 => ?_)
    · skip
      refine JM_vret rfl dX0_restore_70 ?_
      exact hQ _ (PP_cg hS (fun j j0 j1 => by simp only [true_eq_decide_iff]; omega))
    · skip
      exfalso; omega
  | succ n ih =>
    intro t ω x ht hS hQ
    have e27 : ω 27 = ω0 27 := hS.1 27 (by decide)
    have e28 : ω 28 = ω0 28 := hS.1 28 (by decide)
    have e26 : ω 26 = ω0 26 := hS.1 26 (by decide)
    refine J_iload_n 2 dX0_restore_13 rfl ?_
    refine J_bipush 8 dX0_restore_14 ⟨by decide, by decide⟩ (by decide) ?_
    refine J_icmp_ge 70 dX0_restore_16 (by decide) (fun h16 => ?_) (fun h16 => ?_)
    · skip
      exfalso; omega
    · skip
      refine J_aload_n 0 dX0_restore_19 rfl ?_
      refine J_getR lkF_X0_15 rfl dX0_restore_20 ?_
      refine J_iload_n 1 dX0_restore_23 rfl ?_
      refine J_iaload _ rfl rfl (by omega) dX0_restore_24 ?_
      refine J_iload_n 2 dX0_restore_25 rfl ?_
      refine J_ishr dX0_restore_26 ?_
      refine J_iconst 1 dX0_restore_27 ⟨by decide, by decide⟩ ?_
      refine J_iand dX0_restore_28 ?_
      refine J_if_eq 36 dX0_restore_29 (by decide) (fun h29 => ?_) (fun h29 => ?_)
      · skip
        refine J_iconst 0 dX0_restore_36 ⟨by decide, by decide⟩ ?_
        refine J_istore_3 dX0_restore_37 (by decide) rfl ?_
        refine J_aload_n 0 dX0_restore_38 rfl ?_
        refine J_getR lkF_X0_37 rfl dX0_restore_39 ?_
        refine J_iload_n 2 dX0_restore_42 rfl ?_
        refine J_aload_n 0 dX0_restore_43 rfl ?_
        refine J_getR lkF_X0_18 rfl dX0_restore_44 ?_
        refine J_iload_n 1 dX0_restore_47 rfl ?_
        refine J_iaload _ rfl rfl (by omega) dX0_restore_48 ?_
        refine J_aload_n 0 dX0_restore_49 rfl ?_
        refine J_getR lkF_X0_11 rfl dX0_restore_50 ?_
        refine J_iload_n 1 dX0_restore_53 rfl ?_
        refine J_bipush 8 dX0_restore_54 ⟨by decide, by decide⟩ (by decide) ?_
        refine J_imul dX0_restore_56 ⟨by omega, by omega⟩ ?_
        refine J_iload_n 2 dX0_restore_57 rfl ?_
        refine J_iadd dX0_restore_58 ⟨by omega, by omega⟩ ?_
        refine J_iaload _ rfl rfl (by omega) dX0_restore_59 ?_
        refine J_iload_n 3 dX0_restore_60 rfl ?_
        rw [e28, hmm]
        refine JM_V4 lkM_X0_114 rcv_3 dX0_restore_61 (by decide) (Nat.le_of_ble_eq_true rfl) ?_
        refine kX5_put (by omega) hm ?_
        refine J_iinc_2 dX0_restore_64 (by decide) ⟨by omega, by omega⟩ rfl ?_
        refine J_goto 13 dX0_restore_67 (by decide) ?_
        refine ih (t + 1) _ _ (by omega) (PP_put hS hm (by omega) (by simp) (by rw [e26]) ?_ (fun j j0 j1 => by simp only [decide_eq_true_eq]; omega)) hQ
        rw [e27] at h29
        have := zb01 (ω0 27 row) t
        unfold zb at this ⊢
        omega
      · skip
        refine J_iconst 1 dX0_restore_32 ⟨by decide, by decide⟩ ?_
        refine J_goto 37 dX0_restore_33 (by decide) ?_
        refine J_istore_3 dX0_restore_37 (by decide) rfl ?_
        refine J_aload_n 0 dX0_restore_38 rfl ?_
        refine J_getR lkF_X0_37 rfl dX0_restore_39 ?_
        refine J_iload_n 2 dX0_restore_42 rfl ?_
        refine J_aload_n 0 dX0_restore_43 rfl ?_
        refine J_getR lkF_X0_18 rfl dX0_restore_44 ?_
        refine J_iload_n 1 dX0_restore_47 rfl ?_
        refine J_iaload _ rfl rfl (by omega) dX0_restore_48 ?_
        refine J_aload_n 0 dX0_restore_49 rfl ?_
        refine J_getR lkF_X0_11 rfl dX0_restore_50 ?_
        refine J_iload_n 1 dX0_restore_53 rfl ?_
        refine J_bipush 8 dX0_restore_54 ⟨by decide, by decide⟩ (by decide) ?_
        refine J_imul dX0_restore_56 ⟨by omega, by omega⟩ ?_
        refine J_iload_n 2 dX0_restore_57 rfl ?_
        refine J_iadd dX0_restore_58 ⟨by omega, by omega⟩ ?_
        refine J_iaload _ rfl rfl (by omega) dX0_restore_59 ?_
        refine J_iload_n 3 dX0_restore_60 rfl ?_
        rw [e28, hmm]
        refine JM_V4 lkM_X0_114 rcv_3 dX0_restore_61 (by decide) (Nat.le_of_ble_eq_true rfl) ?_
        refine kX5_put (by omega) hm ?_
        refine J_iinc_2 dX0_restore_64 (by decide) ⟨by omega, by omega⟩ rfl ?_
        refine J_goto 13 dX0_restore_67 (by decide) ?_
        refine ih (t + 1) _ _ (by omega) (PP_put hS hm (by omega) (by simp) (by rw [e26]) ?_ (fun j j0 j1 => by simp only [decide_eq_true_eq]; omega)) hQ
        rw [e27] at h29
        have := zb01 (ω0 27 row) t
        unfold zb at this ⊢
        omega

set_option maxRecDepth 100000 in
set_option maxHeartbeats 4000000 in
theorem kX0_restore {X : Cx} {d : Nat} {ω : Om} {Q : Option MV → Om → Prop} {row m : Int} (hr : 0 ≤ row ∧ row < 21) (hm : 0 ≤ m ∧ m < 12) (hmm : ω 28 row = m) (hQ : ∀ ω', PP ω ω' m (fun _ => true) (fun j => ω 26 (row * 8 + j)) (fun j => zb (ω 27 row) j) → Q none ω') : Mc X mX0_restore (d + 2) [vR 6, vI row] ω Q := by
  refine Mc_of [some (vR 6), some (vI row), none, none] (by decide +kernel) rfl (Nat.le_of_ble_eq_true rfl) ?_
  refine J_iload_n 1 dX0_restore_0 rfl ?_
  refine J_if_lt 10 dX0_restore_1 (by decide) (fun h1 => ?_) (fun h1 => ?_)
  · skip
    exfalso; omega
  · skip
    refine J_iload_n 1 dX0_restore_4 rfl ?_
    refine J_bipush 21 dX0_restore_5 ⟨by decide, by decide⟩ (by decide) ?_
    refine J_icmp_lt 11 dX0_restore_7 (by decide) (fun h7 => ?_) (fun h7 => ?_)
    · skip
      refine J_iconst 0 dX0_restore_11 ⟨by decide, by decide⟩ ?_
      refine J_istore_2 dX0_restore_12 (by decide) rfl ?_
      exact l_restore hr hm hmm 8 0 ω none rfl (PP_0 ω m _ _ (fun j j0 j1 => by simp only [decide_eq_false_iff_not]; omega)) hQ
    · skip
      exfalso; omega

set_option maxRecDepth 100000 in
set_option maxHeartbeats 4000000 in
theorem l_shiftUp {X : Cx} {d : Nat} {Q : Option MV → Om → Prop} {ω0 : Om} {p m v h : Int} (hn : 0 ≤ ω0 3 7 ∧ ω0 3 7 ≤ 8) (hm : 0 ≤ m ∧ m < 12) (hp : 0 ≤ p ∧ p < 8) (hpp : ¬ pr ω0 p = p) : ∀ (n c : Nat) (ω : Om), c + n = (ω0 3 7).toNat → PP ω0 ω m (fun j => decide (j < c ∧ (pr ω0 j = p ∧ hb ω0 j m = v ∧ hds ω0 j m = h))) (fun j => if j = p then v else -1) (fun j => if j = p then h else 0) → (∀ ω', PP ω0 ω' m (fun j => decide ((j < ω0 3 7 ∧ (pr ω0 j = p ∧ hb ω0 j m = v ∧ hds ω0 j m = h)) ∨ j = p)) (fun j => if j = p then v else -1) (fun j => if j = p then h else 0) → Q none ω') → JM X mX0_shiftUp (d + 2) Q 3 [some (vR 6), some (vI p), some (vI m), some (vI v), some (vI h), some (vI c)] [] ω := by
  intro n
  induction n with
  | zero =>
    intro c ω hc hS hQ
    have e3 : ω 3 = ω0 3 := hS.1 3 (by decide)
    refine J_iload 5 dX0_shiftUp_3 rfl ?_
    refine J_aload_n 0 dX0_shiftUp_5 rfl ?_
    refine J_getR lkF_X0_37 rfl dX0_shiftUp_6 ?_
    skip
    refine J_getI 7 lkF_X0_97 rfl rfl rfl dX0_shiftUp_9 ?_
    refine J_icmp_ge 75 dX0_shiftUp_12 (by decide) (fun h12 => ?_) (fun h12 => ?_)
    · skip
      refine J_aload_n 0 dX0_shiftUp_75 rfl ?_
      refine J_getR lkF_X0_37 rfl dX0_shiftUp_76 ?_
      refine J_iload_n 1 dX0_shiftUp_79 rfl ?_
      refine J_iload_n 2 dX0_shiftUp_80 rfl ?_
      refine J_iload_n 3 dX0_shiftUp_81 rfl ?_
      refine J_iload 4 dX0_shiftUp_82 rfl ?_
      refine JM_V4 lkM_X0_114 rcv_3 dX0_shiftUp_84 (by decide) (Nat.le_of_ble_eq_true rfl) ?_
      refine kX5_put hp hm ?_
      refine JM_vret rfl dX0_shiftUp_87 ?_
      refine hQ _ (PP_put hS hm hp ?_ (by rw [if_pos rfl]) (by rw [if_pos rfl]) (fun j j0 j1 => ?_))
      · simp only [decide_eq_false_iff_not]; exact fun q => hpp q.2.1
      · simp only [decide_eq_true_eq]
        have : (j < (c : Int)) ↔ j < ω0 3 7 := by omega
        rw [this]
    · skip
      rw [e3] at h12; exfalso; omega
  | succ n ih =>
    intro c ω hc hS hQ
    have e3 : ω 3 = ω0 3 := hS.1 3 (by decide)
    have hSc : (0 : Int) ≤ c → (c : Int) < 8 → decide ((c : Int) < c ∧ (pr ω0 c = p ∧ hb ω0 c m = v ∧ hds ω0 c m = h)) = false := fun _ _ => by simp only [decide_eq_false_iff_not]; omega
    refine J_iload 5 dX0_shiftUp_3 rfl ?_
    refine J_aload_n 0 dX0_shiftUp_5 rfl ?_
    refine J_getR lkF_X0_37 rfl dX0_shiftUp_6 ?_
    refine J_getI 7 lkF_X0_97 rfl rfl rfl dX0_shiftUp_9 ?_
    refine J_icmp_ge 75 dX0_shiftUp_12 (by decide) (fun h12 => ?_) (fun h12 => ?_)
    · skip
      rw [e3] at h12; exfalso; omega
    · skip
      refine J_aload_n 0 dX0_shiftUp_15 rfl ?_
      refine J_getR lkF_X0_37 rfl dX0_shiftUp_16 ?_
      refine J_iload 5 dX0_shiftUp_19 rfl ?_
      refine JM_V1 lkM_X0_59 rcv_3 dX0_shiftUp_21 (by decide) (Nat.le_of_ble_eq_true rfl) ?_
      refine kX5_parentOf ?_
      rw [PP_pr hS]
      refine J_iload_n 1 dX0_shiftUp_24 rfl ?_
      refine J_icmp_ne 69 dX0_shiftUp_25 (by decide) (fun h25 => ?_) (fun h25 => ?_)
      · skip
        refine J_iinc_5 dX0_shiftUp_69 (by decide) ⟨by omega, by omega⟩ rfl ?_
        refine J_goto 3 dX0_shiftUp_72 (by decide) ?_
        first
          | (refine ih (c + 1) _ (by omega) (PP_put hS hm (by omega) (hSc (by omega) (by omega)) (by rw [if_neg hcp]) (by rw [if_neg hcp]) (fun j j0 j1 => ?_)) hQ
             simp only [decide_eq_true_eq]
             constructor
             · intro q
               by_cases e : j = (c : Int)
               · exact Or.inr e
               · exact Or.inl ⟨by omega, q.2⟩
             · rintro (q | q)
               · exact ⟨by omega, q.2⟩
               · subst q; exact ⟨by omega, h25, h39, h54⟩)
          | (refine ih (c + 1) _ (by omega) (PP_cg hS (fun j j0 j1 => ?_)) hQ
             rw [Bool.eq_iff_iff]
             simp only [decide_eq_true_eq]
             constructor
             · intro q
               refine ⟨?_, q.2⟩
               by_cases e : j = (c : Int)
               · subst e; first | exact absurd q.2.1 h25 | exact absurd q.2.2.1 h39 | exact absurd q.2.2.2 h54
               · omega
             · intro q; exact ⟨by omega, q.2⟩)
      · skip
        refine J_aload_n 0 dX0_shiftUp_28 rfl ?_
        refine J_getR lkF_X0_37 rfl dX0_shiftUp_29 ?_
        refine J_iload 5 dX0_shiftUp_32 rfl ?_
        refine J_iload_n 2 dX0_shiftUp_34 rfl ?_
        refine JM_V2 lkM_X0_49 rcv_3 dX0_shiftUp_35 (by decide) (Nat.le_of_ble_eq_true rfl) ?_
        refine kX5_heldBy ?_
        rw [PP_hb hS hSc]
        refine J_iload_n 3 dX0_shiftUp_38 rfl ?_
        refine J_icmp_ne 69 dX0_shiftUp_39 (by decide) (fun h39 => ?_) (fun h39 => ?_)
        · skip
          refine J_iinc_5 dX0_shiftUp_69 (by decide) ⟨by omega, by omega⟩ rfl ?_
          refine J_goto 3 dX0_shiftUp_72 (by decide) ?_
          first
            | (refine ih (c + 1) _ (by omega) (PP_put hS hm (by omega) (hSc (by omega) (by omega)) (by rw [if_neg hcp]) (by rw [if_neg hcp]) (fun j j0 j1 => ?_)) hQ
               simp only [decide_eq_true_eq]
               constructor
               · intro q
                 by_cases e : j = (c : Int)
                 · exact Or.inr e
                 · exact Or.inl ⟨by omega, q.2⟩
               · rintro (q | q)
                 · exact ⟨by omega, q.2⟩
                 · subst q; exact ⟨by omega, h25, h39, h54⟩)
            | (refine ih (c + 1) _ (by omega) (PP_cg hS (fun j j0 j1 => ?_)) hQ
               rw [Bool.eq_iff_iff]
               simp only [decide_eq_true_eq]
               constructor
               · intro q
                 refine ⟨?_, q.2⟩
                 by_cases e : j = (c : Int)
                 · subst e; first | exact absurd q.2.1 h25 | exact absurd q.2.2.1 h39 | exact absurd q.2.2.2 h54
                 · omega
               · intro q; exact ⟨by omega, q.2⟩)
        · skip
          refine J_aload_n 0 dX0_shiftUp_42 rfl ?_
          refine J_getR lkF_X0_37 rfl dX0_shiftUp_43 ?_
          refine J_iload 5 dX0_shiftUp_46 rfl ?_
          refine J_iload_n 2 dX0_shiftUp_48 rfl ?_
          refine JM_V2 lkM_X0_104 rcv_3 dX0_shiftUp_49 (by decide) (Nat.le_of_ble_eq_true rfl) ?_
          refine kX5_hides ?_
          rw [PP_hds hS hSc]
          refine J_iload 4 dX0_shiftUp_52 rfl ?_
          refine J_icmp_ne 69 dX0_shiftUp_54 (by decide) (fun h54 => ?_) (fun h54 => ?_)
          · skip
            refine J_iinc_5 dX0_shiftUp_69 (by decide) ⟨by omega, by omega⟩ rfl ?_
            refine J_goto 3 dX0_shiftUp_72 (by decide) ?_
            first
              | (refine ih (c + 1) _ (by omega) (PP_put hS hm (by omega) (hSc (by omega) (by omega)) (by rw [if_neg hcp]) (by rw [if_neg hcp]) (fun j j0 j1 => ?_)) hQ
                 simp only [decide_eq_true_eq]
                 constructor
                 · intro q
                   by_cases e : j = (c : Int)
                   · exact Or.inr e
                   · exact Or.inl ⟨by omega, q.2⟩
                 · rintro (q | q)
                   · exact ⟨by omega, q.2⟩
                   · subst q; exact ⟨by omega, h25, h39, h54⟩)
              | (refine ih (c + 1) _ (by omega) (PP_cg hS (fun j j0 j1 => ?_)) hQ
                 rw [Bool.eq_iff_iff]
                 simp only [decide_eq_true_eq]
                 constructor
                 · intro q
                   refine ⟨?_, q.2⟩
                   by_cases e : j = (c : Int)
                   · subst e; first | exact absurd q.2.1 h25 | exact absurd q.2.2.1 h39 | exact absurd q.2.2.2 h54
                   · omega
                 · intro q; exact ⟨by omega, q.2⟩)
          · skip
            refine J_aload_n 0 dX0_shiftUp_57 rfl ?_
            refine J_getR lkF_X0_37 rfl dX0_shiftUp_58 ?_
            refine J_iload 5 dX0_shiftUp_61 rfl ?_
            refine J_iload_n 2 dX0_shiftUp_63 rfl ?_
            refine J_iconst (-1) dX0_shiftUp_64 ⟨by decide, by decide⟩ ?_
            refine J_iconst 0 dX0_shiftUp_65 ⟨by decide, by decide⟩ ?_
            refine JM_V4 lkM_X0_114 rcv_3 dX0_shiftUp_66 (by decide) (Nat.le_of_ble_eq_true rfl) ?_
            have hcp : ¬ (c : Int) = p := fun e => hpp (by rw [← e]; rw [← e] at h25; exact h25)
            refine kX5_put (by omega) hm ?_
            refine J_iinc_5 dX0_shiftUp_69 (by decide) ⟨by omega, by omega⟩ rfl ?_
            refine J_goto 3 dX0_shiftUp_72 (by decide) ?_
            first
              | (refine ih (c + 1) _ (by omega) (PP_put hS hm (by omega) (hSc (by omega) (by omega)) (by rw [if_neg hcp]) (by rw [if_neg hcp]) (fun j j0 j1 => ?_)) hQ
                 simp only [decide_eq_true_eq]
                 constructor
                 · intro q
                   by_cases e : j = (c : Int)
                   · exact Or.inr e
                   · exact Or.inl ⟨by omega, q.2⟩
                 · rintro (q | q)
                   · exact ⟨by omega, q.2⟩
                   · subst q; exact ⟨by omega, h25, h39, h54⟩)
              | (refine ih (c + 1) _ (by omega) (PP_cg hS (fun j j0 j1 => ?_)) hQ
                 rw [Bool.eq_iff_iff]
                 simp only [decide_eq_true_eq]
                 constructor
                 · intro q
                   refine ⟨?_, q.2⟩
                   by_cases e : j = (c : Int)
                   · subst e; first | exact absurd q.2.1 h25 | exact absurd q.2.2.1 h39 | exact absurd q.2.2.2 h54
                   · omega
                 · intro q; exact ⟨by omega, q.2⟩)

set_option maxRecDepth 100000 in
set_option maxHeartbeats 4000000 in
theorem kX0_shiftUp {X : Cx} {d : Nat} {ω : Om} {Q : Option MV → Om → Prop} {p m v h : Int} (hn : 0 ≤ ω 3 7 ∧ ω 3 7 ≤ 8) (hm : 0 ≤ m ∧ m < 12) (hp : 0 ≤ p ∧ p < 8) (hpp : ¬ pr ω p = p) (hQ : ∀ ω', PP ω ω' m (fun j => decide ((j < ω 3 7 ∧ (pr ω j = p ∧ hb ω j m = v ∧ hds ω j m = h)) ∨ j = p)) (fun j => if j = p then v else -1) (fun j => if j = p then h else 0) → Q none ω') : Mc X mX0_shiftUp (d + 2) [vR 6, vI p, vI m, vI v, vI h] ω Q := by
  refine Mc_of [some (vR 6), some (vI p), some (vI m), some (vI v), some (vI h), none] (by decide +kernel) rfl (Nat.le_of_ble_eq_true rfl) ?_
  refine J_iconst 0 dX0_shiftUp_0 ⟨by decide, by decide⟩ ?_
  refine J_istore_5 dX0_shiftUp_1 (by decide) rfl ?_
  exact l_shiftUp hn hm hp hpp (ω 3 7).toNat 0 ω (by omega) (PP_0 ω m _ _ (fun j j0 j1 => by simp only [decide_eq_false_iff_not]; omega)) hQ

set_option maxRecDepth 100000 in
set_option maxHeartbeats 4000000 in
theorem l_shiftDown {X : Cx} {d : Nat} {Q : Option MV → Om → Prop} {ω0 : Om} {t m v h : Int} (hn : 0 ≤ ω0 3 7 ∧ ω0 3 7 ≤ 8) (hm : 0 ≤ m ∧ m < 12) (hp : 0 ≤ t ∧ t < 8) (hpp : ¬ pr ω0 t = t) : ∀ (n c : Nat) (ω : Om), c + n = (ω0 3 7).toNat → PP ω0 ω m (fun j => decide (j < c ∧ (pr ω0 j = t ∧ hb ω0 j m = -1))) (fun j => if j = t then -1 else v) (fun j => if j = t then 0 else h) → (∀ ω', PP ω0 ω' m (fun j => decide ((j < ω0 3 7 ∧ (pr ω0 j = t ∧ hb ω0 j m = -1)) ∨ j = t)) (fun j => if j = t then -1 else v) (fun j => if j = t then 0 else h) → Q none ω') → JM X mX0_shiftDown (d + 2) Q 3 [some (vR 6), some (vI t), some (vI m), some (vI v), some (vI h), some (vI c)] [] ω := by
  intro n
  induction n with
  | zero =>
    intro c ω hc hS hQ
    have e3 : ω 3 = ω0 3 := hS.1 3 (by decide)
    refine J_iload 5 dX0_shiftDown_3 rfl ?_
    refine J_aload_n 0 dX0_shiftDown_5 rfl ?_
    refine J_getR lkF_X0_37 rfl dX0_shiftDown_6 ?_
    refine J_getI 7 lkF_X0_97 rfl rfl rfl dX0_shiftDown_9 ?_
    refine J_icmp_ge 61 dX0_shiftDown_12 (by decide) (fun h12 => ?_) (fun h12 => ?_)
    · skip
      refine J_aload_n 0 dX0_shiftDown_61 rfl ?_
      refine J_getR lkF_X0_37 rfl dX0_shiftDown_62 ?_
      refine J_iload_n 1 dX0_shiftDown_65 rfl ?_
      refine J_iload_n 2 dX0_shiftDown_66 rfl ?_
      refine J_iconst (-1) dX0_shiftDown_67 ⟨by decide, by decide⟩ ?_
      refine J_iconst 0 dX0_shiftDown_68 ⟨by decide, by decide⟩ ?_
      refine JM_V4 lkM_X0_114 rcv_3 dX0_shiftDown_69 (by decide) (Nat.le_of_ble_eq_true rfl) ?_
      refine kX5_put hp hm ?_
      refine JM_vret rfl dX0_shiftDown_72 ?_
      refine hQ _ (PP_put hS hm hp ?_ (by rw [if_pos rfl]) (by rw [if_pos rfl]) (fun j j0 j1 => ?_))
      · simp only [decide_eq_false_iff_not]; exact fun q => hpp q.2.1
      · simp only [decide_eq_true_eq]
        have : (j < (c : Int)) ↔ j < ω0 3 7 := by omega
        rw [this]
    · skip
      rw [e3] at h12; exfalso; omega
  | succ n ih =>
    intro c ω hc hS hQ
    have e3 : ω 3 = ω0 3 := hS.1 3 (by decide)
    have hSc : (0 : Int) ≤ c → (c : Int) < 8 → decide ((c : Int) < c ∧ (pr ω0 c = t ∧ hb ω0 c m = -1)) = false := fun _ _ => by simp only [decide_eq_false_iff_not]; omega
    refine J_iload 5 dX0_shiftDown_3 rfl ?_
    refine J_aload_n 0 dX0_shiftDown_5 rfl ?_
    refine J_getR lkF_X0_37 rfl dX0_shiftDown_6 ?_
    refine J_getI 7 lkF_X0_97 rfl rfl rfl dX0_shiftDown_9 ?_
    refine J_icmp_ge 61 dX0_shiftDown_12 (by decide) (fun h12 => ?_) (fun h12 => ?_)
    · skip
      rw [e3] at h12; exfalso; omega
    · skip
      refine J_aload_n 0 dX0_shiftDown_15 rfl ?_
      refine J_getR lkF_X0_37 rfl dX0_shiftDown_16 ?_
      refine J_iload 5 dX0_shiftDown_19 rfl ?_
      refine JM_V1 lkM_X0_59 rcv_3 dX0_shiftDown_21 (by decide) (Nat.le_of_ble_eq_true rfl) ?_
      refine kX5_parentOf ?_
      rw [PP_pr hS]
      refine J_iload_n 1 dX0_shiftDown_24 rfl ?_
      refine J_icmp_ne 55 dX0_shiftDown_25 (by decide) (fun h25 => ?_) (fun h25 => ?_)
      · skip
        refine J_iinc_5 dX0_shiftDown_55 (by decide) ⟨by omega, by omega⟩ rfl ?_
        refine J_goto 3 dX0_shiftDown_58 (by decide) ?_
        first
          | (refine ih (c + 1) _ (by omega) (PP_put hS hm (by omega) (hSc (by omega) (by omega)) (by rw [if_neg hcp]) (by rw [if_neg hcp]) (fun j j0 j1 => ?_)) hQ
             simp only [decide_eq_true_eq]
             constructor
             · intro q
               by_cases e : j = (c : Int)
               · exact Or.inr e
               · exact Or.inl ⟨by omega, q.2⟩
             · rintro (q | q)
               · exact ⟨by omega, q.2⟩
               · subst q; exact ⟨by omega, h25, h39⟩)
          | (refine ih (c + 1) _ (by omega) (PP_cg hS (fun j j0 j1 => ?_)) hQ
             rw [Bool.eq_iff_iff]
             simp only [decide_eq_true_eq]
             constructor
             · intro q
               refine ⟨?_, q.2⟩
               by_cases e : j = (c : Int)
               · subst e; first | exact absurd q.2.1 h25 | exact absurd q.2.2 h39
               · omega
             · intro q; exact ⟨by omega, q.2⟩)
      · skip
        refine J_aload_n 0 dX0_shiftDown_28 rfl ?_
        refine J_getR lkF_X0_37 rfl dX0_shiftDown_29 ?_
        refine J_iload 5 dX0_shiftDown_32 rfl ?_
        refine J_iload_n 2 dX0_shiftDown_34 rfl ?_
        refine JM_V2 lkM_X0_49 rcv_3 dX0_shiftDown_35 (by decide) (Nat.le_of_ble_eq_true rfl) ?_
        refine kX5_heldBy ?_
        rw [PP_hb hS hSc]
        refine J_iconst (-1) dX0_shiftDown_38 ⟨by decide, by decide⟩ ?_
        refine J_icmp_ne 55 dX0_shiftDown_39 (by decide) (fun h39 => ?_) (fun h39 => ?_)
        · skip
          refine J_iinc_5 dX0_shiftDown_55 (by decide) ⟨by omega, by omega⟩ rfl ?_
          refine J_goto 3 dX0_shiftDown_58 (by decide) ?_
          first
            | (refine ih (c + 1) _ (by omega) (PP_put hS hm (by omega) (hSc (by omega) (by omega)) (by rw [if_neg hcp]) (by rw [if_neg hcp]) (fun j j0 j1 => ?_)) hQ
               simp only [decide_eq_true_eq]
               constructor
               · intro q
                 by_cases e : j = (c : Int)
                 · exact Or.inr e
                 · exact Or.inl ⟨by omega, q.2⟩
               · rintro (q | q)
                 · exact ⟨by omega, q.2⟩
                 · subst q; exact ⟨by omega, h25, h39⟩)
            | (refine ih (c + 1) _ (by omega) (PP_cg hS (fun j j0 j1 => ?_)) hQ
               rw [Bool.eq_iff_iff]
               simp only [decide_eq_true_eq]
               constructor
               · intro q
                 refine ⟨?_, q.2⟩
                 by_cases e : j = (c : Int)
                 · subst e; first | exact absurd q.2.1 h25 | exact absurd q.2.2 h39
                 · omega
               · intro q; exact ⟨by omega, q.2⟩)
        · skip
          refine J_aload_n 0 dX0_shiftDown_42 rfl ?_
          refine J_getR lkF_X0_37 rfl dX0_shiftDown_43 ?_
          refine J_iload 5 dX0_shiftDown_46 rfl ?_
          refine J_iload_n 2 dX0_shiftDown_48 rfl ?_
          refine J_iload_n 3 dX0_shiftDown_49 rfl ?_
          refine J_iload 4 dX0_shiftDown_50 rfl ?_
          refine JM_V4 lkM_X0_114 rcv_3 dX0_shiftDown_52 (by decide) (Nat.le_of_ble_eq_true rfl) ?_
          have hcp : ¬ (c : Int) = t := fun e => hpp (by rw [← e]; rw [← e] at h25; exact h25)
          refine kX5_put (by omega) hm ?_
          refine J_iinc_5 dX0_shiftDown_55 (by decide) ⟨by omega, by omega⟩ rfl ?_
          refine J_goto 3 dX0_shiftDown_58 (by decide) ?_
          first
            | (refine ih (c + 1) _ (by omega) (PP_put hS hm (by omega) (hSc (by omega) (by omega)) (by rw [if_neg hcp]) (by rw [if_neg hcp]) (fun j j0 j1 => ?_)) hQ
               simp only [decide_eq_true_eq]
               constructor
               · intro q
                 by_cases e : j = (c : Int)
                 · exact Or.inr e
                 · exact Or.inl ⟨by omega, q.2⟩
               · rintro (q | q)
                 · exact ⟨by omega, q.2⟩
                 · subst q; exact ⟨by omega, h25, h39⟩)
            | (refine ih (c + 1) _ (by omega) (PP_cg hS (fun j j0 j1 => ?_)) hQ
               rw [Bool.eq_iff_iff]
               simp only [decide_eq_true_eq]
               constructor
               · intro q
                 refine ⟨?_, q.2⟩
                 by_cases e : j = (c : Int)
                 · subst e; first | exact absurd q.2.1 h25 | exact absurd q.2.2 h39
                 · omega
               · intro q; exact ⟨by omega, q.2⟩)

set_option maxRecDepth 100000 in
set_option maxHeartbeats 4000000 in
theorem kX0_shiftDown {X : Cx} {d : Nat} {ω : Om} {Q : Option MV → Om → Prop} {t m v h : Int} (hn : 0 ≤ ω 3 7 ∧ ω 3 7 ≤ 8) (hm : 0 ≤ m ∧ m < 12) (hp : 0 ≤ t ∧ t < 8) (hpp : ¬ pr ω t = t) (hQ : ∀ ω', PP ω ω' m (fun j => decide ((j < ω 3 7 ∧ (pr ω j = t ∧ hb ω j m = -1)) ∨ j = t)) (fun j => if j = t then -1 else v) (fun j => if j = t then 0 else h) → Q none ω') : Mc X mX0_shiftDown (d + 2) [vR 6, vI t, vI m, vI v, vI h] ω Q := by
  refine Mc_of [some (vR 6), some (vI t), some (vI m), some (vI v), some (vI h), none] (by decide +kernel) rfl (Nat.le_of_ble_eq_true rfl) ?_
  refine J_iconst 0 dX0_shiftDown_0 ⟨by decide, by decide⟩ ?_
  refine J_istore_5 dX0_shiftDown_1 (by decide) rfl ?_
  exact l_shiftDown hn hm hp hpp (ω 3 7).toNat 0 ω (by omega) (PP_0 ω m _ _ (fun j j0 j1 => by simp only [decide_eq_false_iff_not]; omega)) hQ

theorem mv_PP {ω ω' : Om} {t m u : Int} {S : Int → Bool} {v b : Int → Int} (hW : WfT ω) (hm : 0 ≤ m ∧ m < 12) (h : PP ω ω' m S v b)
    (hH : ∀ c, 0 ≤ c → c < ω 3 7 → mvH ω t m u c m = if S c = true then v c else ω 14 (c * 12 + m)) (hB : ∀ c, 0 ≤ c → c < ω 3 7 → mvB ω t m u c = if S c = true then zset (ω 15 c) m (b c) else ω 15 c) : TQ (mvT ω t m u) ω' := by
  have k3 : mvT ω t m u 3 = ω 3 := mvT_k _ _ _ _ (by decide) (by decide)
  have n8 := hW.1
  refine ⟨by rw [k3, h.1 3 (by decide)], by rw [k3, h.1 3 (by decide)], ?_, ?_, ?_, ?_⟩
  · rw [k3]
    intro c c0 c1
    rw [mvT_k _ _ _ _ (by decide) (by decide), mvT_k _ _ _ _ (by decide) (by decide), mvT_15, h.1 12 (by decide), h.1 13 (by decide), h.2.2 c c0 (by omega), hB c c0 c1]
    exact ⟨rfl, rfl, rfl⟩
  · rw [k3]
    intro c n c0 c1 n0 n1
    rw [mvT_14 _ _ _ _ ⟨n0, n1⟩, h.2.1 c n c0 (by omega) n0 n1]
    by_cases e : n = m
    · subst e; rw [hH c c0 c1]; simp
    · rw [if_neg (fun q => e q.1)]; unfold mvH; rw [if_neg e]
  · intro q _ _; rw [mvT_k _ _ _ _ (by decide) (by decide), h.1 17 (by decide)]
  · intro q k _ _ _ _; rw [mvT_k _ _ _ _ (by decide) (by decide), h.1 18 (by decide)]
theorem pr_ne {ω : Om} (hW : WfT ω) (t : Int) (ht : 0 ≤ t) : ¬ pr ω t = t := by
  unfold pr; split
  · rename_i g; have := hW.2.2.1 t g.1 g.2.1; omega
  · omega
theorem pr_rg {ω : Om} (hW : WfT ω) (t : Int) : -1 ≤ pr ω t ∧ pr ω t < 8 ∧ (0 ≤ t → pr ω t < t) := by
  unfold pr; split
  · rename_i g; have := hW.2.2.1 t g.1 g.2.1; omega
  · omega
set_option maxRecDepth 100000 in
set_option maxHeartbeats 4000000 in
theorem kX0_shift {X : Cx} {d : Nat} {ω : Om} {Q : Option MV → Om → Prop} {t m u : Int} (hW : WfT ω) (ht : 0 ≤ t ∧ t < ω 3 7) (hm : 0 ≤ m ∧ m < 12) (hu : ¬ u = 0 → ¬ pr ω t = -1) (hQ : ∀ ω', TQ (mvT ω t m u) ω' → Fr [14, 15] ω ω' → (GW ω → GW ω') → Q none ω') : Mc X mX0_shift (d + 3) [vR 6, vI t, vI m, vI u] ω Q := by
  have n8 := hW.1
  have prr := pr_rg hW t
  refine Mc_of [some (vR 6), some (vI t), some (vI m), some (vI u), none, none] (by decide +kernel) rfl (Nat.le_of_ble_eq_true rfl) ?_
  refine J_aload_n 0 dX0_shift_0 rfl ?_
  refine J_getR lkF_X0_37 rfl dX0_shift_1 ?_
  refine J_iload_n 1 dX0_shift_4 rfl ?_
  refine J_iload_n 2 dX0_shift_5 rfl ?_
  refine JM_V2 lkM_X0_49 rcv_3 dX0_shift_6 (by decide) (Nat.le_of_ble_eq_true rfl) ?_
  refine kX5_heldBy ?_
  refine J_istore_4 dX0_shift_9 (by decide) rfl ?_
  refine J_aload_n 0 dX0_shift_11 rfl ?_
  refine J_getR lkF_X0_37 rfl dX0_shift_12 ?_
  refine J_iload_n 1 dX0_shift_15 rfl ?_
  refine J_iload_n 2 dX0_shift_16 rfl ?_
  refine JM_V2 lkM_X0_104 rcv_3 dX0_shift_17 (by decide) (Nat.le_of_ble_eq_true rfl) ?_
  refine kX5_hides ?_
  refine J_istore_5 dX0_shift_20 (by decide) rfl ?_
  refine J_iload_n 3 dX0_shift_22 rfl ?_
  refine J_if_eq 46 dX0_shift_23 (by decide) (fun h23 => ?_) (fun h23 => ?_)
  · skip
    refine J_aload_n 0 dX0_shift_46 rfl ?_
    refine J_iload_n 1 dX0_shift_47 rfl ?_
    refine J_iload_n 2 dX0_shift_48 rfl ?_
    refine J_iload 4 dX0_shift_49 rfl ?_
    refine J_iload 5 dX0_shift_51 rfl ?_
    refine JM_V4 lkM_X0_111 rcv_6 dX0_shift_53 (by decide) (Nat.le_of_ble_eq_true rfl) ?_
    refine kX0_shiftDown n8 hm (by omega) (pr_ne hW _ (by omega)) (fun ω1 h1 => ?_)
    have hT : TQ (mvT ω t m u) ω1 := mv_PP hW hm h1 (fun c c0 c1 => by
      unfold mvH; rw [if_pos rfl, if_pos h23]
      simp only [decide_eq_true_eq]
      by_cases e1 : c = t
      · rw [if_pos e1, if_pos (Or.inr e1), if_pos e1]
      · rw [if_neg e1]
        by_cases e2 : pr ω c = t ∧ hb ω c m = -1
        · rw [if_pos e2, if_pos (Or.inl ⟨c1, e2⟩), if_neg e1]
        · rw [if_neg e2, if_neg (fun q => q.elim (fun w => e2 w.2) e1)]) (fun c c0 c1 => by
      unfold mvB; rw [if_pos h23]
      simp only [decide_eq_true_eq]
      by_cases e1 : c = t
      · rw [if_pos e1, if_pos (Or.inr e1), if_pos e1]
      · rw [if_neg e1]
        by_cases e2 : pr ω c = t ∧ hb ω c m = -1
        · rw [if_pos e2, if_pos (Or.inl ⟨c1, e2⟩), if_neg e1]
        · rw [if_neg e2, if_neg (fun q => q.elim (fun w => e2 w.2) e1)])
    refine JM_vret rfl dX0_shift_56 ?_
    exact hQ _ hT h1.1 (PP_GW h1 hm (fun j _ _ => by
      rcases hds01 ω t m with q | q
      · left; split <;> first | exact q | rfl
      · have := (hds_lo hW hm q).1
        split
        · first | exact Or.inr ⟨q, this⟩ | exact Or.inl rfl
        · first | exact Or.inr ⟨q, this⟩ | exact Or.inl rfl))
  · skip
    refine J_aload_n 0 dX0_shift_26 rfl ?_
    refine J_aload_n 0 dX0_shift_27 rfl ?_
    refine J_getR lkF_X0_37 rfl dX0_shift_28 ?_
    refine J_iload_n 1 dX0_shift_31 rfl ?_
    refine JM_V1 lkM_X0_59 rcv_3 dX0_shift_32 (by decide) (Nat.le_of_ble_eq_true rfl) ?_
    refine kX5_parentOf ?_
    refine J_iload_n 2 dX0_shift_35 rfl ?_
    refine J_iload 4 dX0_shift_36 rfl ?_
    refine J_iload 5 dX0_shift_38 rfl ?_
    refine JM_V4 lkM_X0_107 rcv_6 dX0_shift_40 (by decide) (Nat.le_of_ble_eq_true rfl) ?_
    have hpu := hu h23
    refine kX0_shiftUp n8 hm (by omega) (pr_ne hW _ (by omega)) (fun ω1 h1 => ?_)
    have hT : TQ (mvT ω t m u) ω1 := mv_PP hW hm h1 (fun c c0 c1 => by
      unfold mvH; rw [if_pos rfl, if_neg h23]
      simp only [decide_eq_true_eq]
      by_cases e1 : c = pr ω t
      · rw [if_pos e1, if_pos (Or.inr e1), if_pos e1]
      · rw [if_neg e1]
        by_cases e2 : pr ω c = pr ω t ∧ hb ω c m = hb ω t m ∧ hds ω c m = hds ω t m
        · rw [if_pos e2, if_pos (Or.inl ⟨c1, e2⟩), if_neg e1]
        · rw [if_neg e2, if_neg (fun q => q.elim (fun w => e2 w.2) e1)]) (fun c c0 c1 => by
      unfold mvB; rw [if_neg h23]
      simp only [decide_eq_true_eq]
      by_cases e1 : c = pr ω t
      · rw [if_pos e1, if_pos (Or.inr e1), if_pos e1]
      · rw [if_neg e1]
        by_cases e2 : pr ω c = pr ω t ∧ hb ω c m = hb ω t m ∧ hds ω c m = hds ω t m
        · rw [if_pos e2, if_pos (Or.inl ⟨c1, e2⟩), if_neg e1]
        · rw [if_neg e2, if_neg (fun q => q.elim (fun w => e2 w.2) e1)])
    refine J_goto 56 dX0_shift_43 (by decide) ?_
    refine JM_vret rfl dX0_shift_56 ?_
    exact hQ _ hT h1.1 (PP_GW h1 hm (fun j _ _ => by
      rcases hds01 ω t m with q | q
      · left; split <;> first | exact q | rfl
      · have := (hds_lo hW hm q).1
        split
        · first | exact Or.inr ⟨q, this⟩ | exact Or.inl rfl
        · first | exact Or.inr ⟨q, this⟩ | exact Or.inl rfl))
