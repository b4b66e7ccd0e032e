theorem firstC_skip {τ σ : Om} : ∀ (i n k : Nat), (∀ j, j < i → chg τ σ (k + j) = false) → firstC τ σ (n + i) k = firstC τ σ n (k + i) := by
  intro i
  induction i with
  | zero => intro n k _; rfl
  | succ i ih =>
    intro n k h
    have h0 := h 0 (by omega)
    rw [Nat.add_zero] at h0
    rw [show n + (i + 1) = (n + i) + 1 from by omega]
    simp only [firstC]
    rw [if_neg (by rw [h0]; decide), ih n (k + 1) (fun j hj => by rw [show k + 1 + j = k + (j + 1) from by omega]; exact h (j + 1) (by omega)), show k + 1 + i = k + (i + 1) from by omega]
theorem chg_hol {τ σ : Om} {k : Nat} (h : ¬ hol τ ((k / 6 : Nat) : Int) = 0) : chg τ σ k = false := by unfold chg; simp only [h, decide_false, Bool.false_and]
set_option maxRecDepth 100000 in
set_option maxHeartbeats 4000000 in
theorem l_fc1 {X : Cx} {d : Nat} {Q : Option MV → Om → Prop} {τ τ1 ω0 : Om} {t : Nat} (hW : WfT τ) (hW1 : WfT τ1) (h37 : τ1 3 7 = τ 3 7) (hho : ∀ q, hol τ1 q = hol τ q) (ht : (t : Int) < τ 3 7) : ∀ (n m : Nat) (ω : Om), m + n = 6 → TE τ1 ω → (∀ a b : Int, 0 ≤ a → a < τ 3 7 → 0 ≤ b → b < 6 → RowIs ω (a * 6 + b) (trT τ a b)) → Fr [4, 19, 20, 21, 22] ω0 ω → (∀ ω', Fr [4, 19, 20, 21, 22] ω0 ω' → Q (some (vI (firstC τ τ1 (6 * (τ 3 7).toNat - (6 * t + m)) (6 * t + m)))) ω') → (∀ (ω' : Om) (x : Int), TE τ1 ω' → (∀ a b : Int, 0 ≤ a → a < τ 3 7 → 0 ≤ b → b < 6 → RowIs ω' (a * 6 + b) (trT τ a b)) → Fr [4, 19, 20, 21, 22] ω0 ω' → firstC τ τ1 (6 * (τ 3 7).toNat - (6 * t + m)) (6 * t + m) = firstC τ τ1 (6 * (τ 3 7).toNat - 6 * (t + 1)) (6 * (t + 1)) → JM X mX0_firstChange (d + 3) Q 82 [some (vR 6), some (vI t), some (vI x)] [] ω') → JM X mX0_firstChange (d + 3) Q 15 [some (vR 6), some (vI t), some (vI m)] [] ω := by
  intro n
  have n8 := hW.1
  induction n with
  | zero =>
    intro m ω hm hE hR hF hQ hK
    have e6 : m = 6 := by omega
    subst e6
    refine J_iload_n 2 dX0_firstChange_15 rfl ?_
    refine J_bipush 6 dX0_firstChange_16 ⟨by decide, by decide⟩ (by decide) ?_
    refine J_icmp_ge 82 dX0_firstChange_18 (by decide) (fun h18 => ?_) (fun h18 => ?_)
    · skip
      exact hK ω _ hE hR hF (by rw [show 6 * (t + 1) = 6 * t + 6 from by omega])
    · skip
      exfalso; omega
  | succ n ih =>
    intro m ω hm hE hR hF hQ hK
    have hk6 : (6 * t + m) / 6 = t := by omega
    have hm6 : (6 * t + m) % 6 = m := by omega
    have hsz : 6 * (τ 3 7).toNat - (6 * t + m) = (6 * (τ 3 7).toNat - (6 * t + (m + 1))) + 1 := by omega
    have hrow := hR t m (by omega) ht (by omega) (by omega)
    refine J_iload_n 2 dX0_firstChange_15 rfl ?_
    refine J_bipush 6 dX0_firstChange_16 ⟨by decide, by decide⟩ (by decide) ?_
    refine J_icmp_ge 82 dX0_firstChange_18 (by decide) (fun h18 => ?_) (fun h18 => ?_)
    · skip
      exfalso; omega
    · skip
      refine J_aload_n 0 dX0_firstChange_21 rfl ?_
      refine J_getR lkF_X0_37 rfl dX0_firstChange_22 ?_
      refine J_iload_n 1 dX0_firstChange_25 rfl ?_
      refine JM_V1 lkM_X0_117 rcv_3 dX0_firstChange_26 (by decide) (Nat.le_of_ble_eq_true rfl) ?_
      refine kX5_isHollow ?_
      rw [hol_TE hE, hho]
      refine J_if_ne 82 dX0_firstChange_29 (by decide) (fun h29 => ?_) (fun h29 => ?_)
      · skip
        have hsk := firstC_skip (τ := τ) (σ := τ1) (6 - m) (6 * (τ 3 7).toNat - 6 * (t + 1)) (6 * t + m) (fun j hj => chg_hol (by rw [show (6 * t + m + j) / 6 = t from by omega]; exact h29))
        rw [show 6 * (τ 3 7).toNat - 6 * (t + 1) + (6 - m) = 6 * (τ 3 7).toNat - (6 * t + m) from by omega, show 6 * t + m + (6 - m) = 6 * (t + 1) from by omega] at hsk
        exact hK ω _ hE hR hF hsk
      · skip
        refine J_aload_n 0 dX0_firstChange_32 rfl ?_
        refine J_getR lkF_X0_45 rfl dX0_firstChange_33 ?_
        refine J_iload_n 1 dX0_firstChange_36 rfl ?_
        refine J_iload_n 2 dX0_firstChange_37 rfl ?_
        refine JM_V2 lkM_X0_121 rcv_5 dX0_firstChange_38 (by decide) (Nat.le_of_ble_eq_true rfl) ?_
        refine kX3_sizeOf (by omega) (by omega) ?_
        refine J_iconst (-1) dX0_firstChange_41 ⟨by decide, by decide⟩ ?_
        refine J_icmp_ne 48 dX0_firstChange_42 (by decide) (fun h42 => ?_) (fun h42 => ?_)
        · skip
          have hso : ¬ trT τ t m = none := fun e => by rw [e] at hrow; exact h42 hrow.1
          refine J_aload_n 0 dX0_firstChange_48 rfl ?_
          refine J_getR lkF_X0_41 rfl dX0_firstChange_49 ?_
          refine J_iload_n 1 dX0_firstChange_52 rfl ?_
          refine J_iload_n 2 dX0_firstChange_53 rfl ?_
          refine JM_V2 lkM_X0_124 rcv_4 dX0_firstChange_54 (by decide) (Nat.le_of_ble_eq_true rfl) ?_
          refine kX4_run hW1 hE (by omega) (fun ω1 r1 f1 => ?_)
          have hE1 : TE τ1 ω1 := hE.fr f1 rfl
          have e23 : ω1 23 = ω 23 := f1 23 (by decide)
          have e24 : ω1 24 = ω 24 := f1 24 (by decide)
          have e25 : ω1 25 = ω 25 := f1 25 (by decide)
          have hR1 : ∀ a b : Int, 0 ≤ a → a < τ 3 7 → 0 ≤ b → b < 6 → RowIs ω1 (a * 6 + b) (trT τ a b) := fun a b a0 a1 b0 b1 => (hR a b a0 a1 b0 b1).eq (fun s hs => (tr_ok hW ⟨b0, b1⟩ hs).1.2.2.2.2) ⟨by rw [e24], by rw [e25], fun i _ _ => by rw [e23]⟩
          refine J_aload_n 0 dX0_firstChange_57 rfl ?_
          refine J_getR lkF_X0_45 rfl dX0_firstChange_58 ?_
          refine J_iload_n 1 dX0_firstChange_61 rfl ?_
          refine J_iload_n 2 dX0_firstChange_62 rfl ?_
          refine JM_V2 lkM_X0_129 rcv_5 dX0_firstChange_63 (by decide) (Nat.le_of_ble_eq_true rfl) ?_
          refine kX3_isAsTraced (by omega) (by omega) r1 (hR1 t m (by omega) ht (by omega) (by omega)) (fun s hs => (tr_ok hW (by omega) hs).1.2.2.2.2) ?_
          refine J_if_ne 76 dX0_firstChange_66 (by decide) (fun h66 => ?_) (fun h66 => ?_)
          · skip
            have hev : evO (trT τ1 t m) = evO (trT τ t m) := by
              by_cases q : evO (trT τ1 t m) = evO (trT τ t m)
              · exact q
              · rw [if_neg q] at h66; exact absurd rfl h66
            have hc : chg τ τ1 (6 * t + m) = false := by unfold chg; rw [hk6, hm6, hev]; simp
            refine J_iinc_2 dX0_firstChange_76 (by decide) ⟨by omega, by omega⟩ rfl ?_
            refine J_goto 15 dX0_firstChange_79 (by decide) ?_
            rw [hsz] at hQ hK
            simp only [firstC] at hQ hK
            rw [if_neg (by rw [hc]; decide)] at hQ hK
            first
              | exact ih (m + 1) ω1 (by omega) hE1 hR1 (hF.tr f1) hQ hK
              | exact ih (m + 1) ω (by omega) hE hR hF hQ hK
          · skip
            have hev : ¬ evO (trT τ1 t m) = evO (trT τ t m) := fun q => by rw [if_pos q] at h66; omega
            have hc : chg τ τ1 (6 * t + m) = true := by unfold chg; rw [hk6, hm6]; simp [h29, hso, hev]
            rw [hsz] at hQ
            simp only [firstC] at hQ
            rw [if_pos hc] at hQ
            refine J_bipush 6 dX0_firstChange_69 ⟨by decide, by decide⟩ (by decide) ?_
            refine J_iload_n 1 dX0_firstChange_71 rfl ?_
            refine J_imul dX0_firstChange_72 ⟨by omega, by omega⟩ ?_
            refine J_iload_n 2 dX0_firstChange_73 rfl ?_
            refine J_iadd dX0_firstChange_74 ⟨by omega, by omega⟩ ?_
            refine JM_iret rfl dX0_firstChange_75 ?_
            have e := hQ ω1 (hF.tr f1)
            rw [show ((6 * t + m : Nat) : Int) = 6 * (t : Int) + m from by omega] at e
            exact e
        · skip
          have hno : trT τ t m = none := by
            cases hto : trT τ t m with
            | none => rfl
            | some s => rw [hto] at hrow; have := hrow.1; omega
          have hc : chg τ τ1 (6 * t + m) = false := by unfold chg; rw [hk6, hm6, hno]; simp
          refine J_goto 76 dX0_firstChange_45 (by decide) ?_
          refine J_iinc_2 dX0_firstChange_76 (by decide) ⟨by omega, by omega⟩ rfl ?_
          refine J_goto 15 dX0_firstChange_79 (by decide) ?_
          rw [hsz] at hQ hK
          simp only [firstC] at hQ hK
          rw [if_neg (by rw [hc]; decide)] at hQ hK
          first
            | exact ih (m + 1) ω1 (by omega) hE1 hR1 (hF.tr f1) hQ hK
            | exact ih (m + 1) ω (by omega) hE hR hF hQ hK

set_option maxRecDepth 100000 in
set_option maxHeartbeats 4000000 in
theorem l_fc2 {X : Cx} {d : Nat} {Q : Option MV → Om → Prop} {τ τ1 ω0 : Om} (hW : WfT τ) (hW1 : WfT τ1) (h37 : τ1 3 7 = τ 3 7) (hho : ∀ q, hol τ1 q = hol τ q) : ∀ (n t : Nat) (ω : Om) (x : Option MV), t + n = (τ 3 7).toNat → TE τ1 ω → (∀ a b : Int, 0 ≤ a → a < τ 3 7 → 0 ≤ b → b < 6 → RowIs ω (a * 6 + b) (trT τ a b)) → Fr [4, 19, 20, 21, 22] ω0 ω → (∀ ω', Fr [4, 19, 20, 21, 22] ω0 ω' → Q (some (vI (firstC τ τ1 (6 * (τ 3 7).toNat - 6 * t) (6 * t)))) ω') → JM X mX0_firstChange (d + 3) Q 2 [some (vR 6), some (vI t), x] [] ω := by
  intro n
  have n8 := hW.1
  induction n with
  | zero =>
    intro t ω x ht hE hR hF hQ
    have e3 : ω 3 7 = τ 3 7 := by rw [hE.1, h37]
    refine J_iload_n 1 dX0_firstChange_2 rfl ?_
    refine J_aload_n 0 dX0_firstChange_3 rfl ?_
    refine J_getR lkF_X0_37 rfl dX0_firstChange_4 ?_
    refine J_getI 7 lkF_X0_97 rfl rfl rfl dX0_firstChange_7 ?_
    refine J_icmp_ge 88 dX0_firstChange_10 (by decide) (fun h10 => ?_) (fun h10 => ?_)
    · skip
      refine J_iconst (-1) dX0_firstChange_88 ⟨by decide, by decide⟩ ?_
      refine JM_iret rfl dX0_firstChange_89 ?_
      have e := hQ ω hF
      rw [show 6 * (τ 3 7).toNat - 6 * t = 0 from by omega] at e
      exact e
    · skip
      exfalso; omega
  | succ n ih =>
    intro t ω x ht hE hR hF hQ
    have e3 : ω 3 7 = τ 3 7 := by rw [hE.1, h37]
    refine J_iload_n 1 dX0_firstChange_2 rfl ?_
    refine J_aload_n 0 dX0_firstChange_3 rfl ?_
    refine J_getR lkF_X0_37 rfl dX0_firstChange_4 ?_
    refine J_getI 7 lkF_X0_97 rfl rfl rfl dX0_firstChange_7 ?_
    refine J_icmp_ge 88 dX0_firstChange_10 (by decide) (fun h10 => ?_) (fun h10 => ?_)
    · skip
      exfalso; omega
    · skip
      refine J_iconst 0 dX0_firstChange_13 ⟨by decide, by decide⟩ ?_
      refine J_istore_2 dX0_firstChange_14 (by decide) rfl ?_
      refine l_fc1 hW hW1 h37 hho (by omega) 6 0 ω rfl hE hR hF hQ (fun ω1 x1 a1 a2 a3 a4 => ?_)
      simp only [Nat.add_zero] at a4
      rw [a4] at hQ
      refine J_iinc_1 dX0_firstChange_82 (by decide) ⟨by omega, by omega⟩ rfl ?_
      refine J_goto 2 dX0_firstChange_85 (by decide) ?_
      exact ih (t + 1) ω1 _ (by omega) a1 a2 a3 hQ

set_option maxRecDepth 100000 in
set_option maxHeartbeats 4000000 in
theorem kX0_firstChange {X : Cx} {d : Nat} {ω : Om} {Q : Option MV → Om → Prop} {τ : Om} (hW : WfT τ) (hW1 : WfT ω) (h37 : ω 3 7 = τ 3 7) (hho : ∀ q, hol ω q = hol τ q) (hR : ∀ a b : Int, 0 ≤ a → a < τ 3 7 → 0 ≤ b → b < 6 → RowIs ω (a * 6 + b) (trT τ a b)) (hQ : ∀ ω', Fr [4, 19, 20, 21, 22] ω ω' → Q (some (vI (firstC τ ω (6 * (τ 3 7).toNat) 0))) ω') : Mc X mX0_firstChange (d + 3) [vR 6] ω Q := by
  refine Mc_of [some (vR 6), none, none] (by decide +kernel) rfl (Nat.le_of_ble_eq_true rfl) ?_
  refine J_iconst 0 dX0_firstChange_0 ⟨by decide, by decide⟩ ?_
  refine J_istore_1 dX0_firstChange_1 (by decide) rfl ?_
  have n8 := hW.1
  exact l_fc2 hW hW1 h37 hho (τ 3 7).toNat 0 ω none (by omega) (TE.rf ω) hR Fr.rf hQ

/-- what a try of a move may change -/
def ReaF (ω ω' : Om) : Prop := Fr [4, 5, 6, 14, 15, 19, 20, 21, 22, 23, 24, 25, 26, 27, 28] ω ω' ∧ (∀ i, i ≠ 9 → ω' 6 i = ω 6 i) ∧ (∀ q, q < 160 → ω' 26 q = ω 26 q) ∧ ((∀ r, r < 20 → ω' 27 r = ω 27 r ∧ ω' 28 r = ω 28 r) ∧ (GW ω → GW ω') ∧ (ω 5 7 = ω 3 9 → ω' 5 7 = ω' 3 9)) ∧ TQ ω ω'
theorem ReaF.rf (ω : Om) : ReaF ω ω := ⟨Fr.rf, fun _ _ => rfl, fun _ _ => rfl, ⟨fun _ _ => ⟨rfl, rfl⟩, id, id⟩, TQ.rf ω⟩
theorem ReaF.tr {a b c : Om} (h : ReaF a b) (g : ReaF b c) : ReaF a c := ⟨h.1.tr g.1, fun i hi => (g.2.1 i hi).trans (h.2.1 i hi), fun q hq => (g.2.2.1 q hq).trans (h.2.2.1 q hq), ⟨fun r hr => ⟨(g.2.2.2.1.1 r hr).1.trans (h.2.2.2.1.1 r hr).1, (g.2.2.2.1.1 r hr).2.trans (h.2.2.2.1.1 r hr).2⟩, fun q => g.2.2.2.1.2.1 (h.2.2.2.1.2.1 q), fun q => g.2.2.2.1.2.2 (h.2.2.2.1.2.2 q)⟩, h.2.2.2.2.tr g.2.2.2.2⟩
/-- the survey, if it is as new as the tree, is right -/
def SC (ω : Om) : Prop := ω 5 7 ≤ ω 3 9 ∧ (ω 5 7 = ω 3 9 → SVv ω ω)
theorem SVv_fr {τ ω ω' : Om} (h : SVv τ ω) (h23 : ω' 23 = ω 23) (h24 : ω' 24 = ω 24) (h25 : ω' 25 = ω 25) (h5 : ω' 5 = ω 5) : SVv τ ω' := by
  obtain ⟨a, b, c⟩ := h
  refine ⟨fun t m t0 t1 m0 m1 => ?_, by rw [h5]; exact b, by rw [h5]; exact c⟩
  have := a t m t0 t1 m0 m1
  unfold RowIs at this ⊢
  rw [h23, h24, h25]; exact this
theorem up9 (ω : Om) (z : Int) : ReaF ω (up ω 6 9 z) := ⟨Fr.up Fr.rf (by decide), fun i hi => up_i hi, fun q _ => up_k (by decide), ⟨fun r _ => ⟨up_k (by decide), up_k (by decide)⟩, fun q t t0 t1 => by rw [up_k (by decide)]; exact q t t0 t1, fun q => by rw [up_k (by decide), up_k (by decide)]; exact q⟩, (tree_fr (K := [6]) (Fr.up Fr.rf (by decide)) rfl).q⟩
theorem SC_up9 {ω : Om} (z : Int) (h : SC ω) : SC (up ω 6 9 z) := by
  refine ⟨by rw [up_k (by decide), up_k (by decide)]; exact h.1, fun e => ?_⟩
  rw [up_k (by decide), up_k (by decide)] at e
  exact SVv_TQ (up9 ω z).2.2.2.2 (SVv_fr (h.2 e) (up_f (by decide)) (up_f (by decide)) (up_f (by decide)) (up_f (by decide)))
theorem zset_tab2 : ∀ x : Fin 64, ∀ m : Fin 12, zset (zset x.val m.val 0) m.val (zb x.val m.val) = x.val ∧ (m.val < 6 → zset (zset x.val m.val 1) m.val (zb x.val m.val) = x.val) ∧ zset x.val m.val (zb x.val m.val) = x.val := by decide +kernel
theorem zset_back {x m b : Int} (hx : 0 ≤ x ∧ x < 64) (hm : 0 ≤ m ∧ m < 12) (hb : b = 0 ∨ (b = 1 ∧ m < 6)) : zset (zset x m b) m (zb x m) = x ∧ zset x m (zb x m) = x := by
  have h := zset_tab2 ⟨x.toNat, by omega⟩ ⟨m.toNat, by omega⟩
  simp only [Int.toNat_of_nonneg hx.1, Int.toNat_of_nonneg hm.1] at h
  refine ⟨?_, h.2.2⟩
  rcases hb with rfl | ⟨rfl, h6⟩
  · exact h.1
  · exact h.2.1 (by omega)
/-- a move that was tried is taken back -/
theorem mv_back {ω ω1 ω2 ω3 : Om} {t m u row : Int} (hW : WfT ω) (hm : 0 ≤ m ∧ m < 12) (hS : SvR ω ω1 row m 8) (hT : TQ (mvT ω1 t m u) ω2) (hF : Fr [14, 15] ω1 ω2) (hF2 : ω3 26 = ω2 26 ∧ ω3 27 = ω2 27 ∧ ω3 14 = ω2 14 ∧ ω3 15 = ω2 15 ∧ ω3 3 = ω2 3 ∧ ω3 12 = ω2 12 ∧ ω3 13 = ω2 13 ∧ ω3 17 = ω2 17 ∧ ω3 18 = ω2 18) {ω4 : Om}
    (hP : PP ω3 ω4 m (fun _ => true) (fun j => ω3 26 (row * 8 + j)) (fun j => zb (ω3 27 row) j)) : TQ ω ω4 := by
  obtain ⟨g1, g2, g3, g4, g5, g6, g7, g8, g9⟩ := hF2
  have hE1 : TE ω ω1 := tree_fr hS.1 rfl
  have hW1 : WfT ω1 := WfT_TQ hE1.q hW
  have n8 := hW.1
  have e3 : ω4 3 = ω 3 := by rw [hP.1 3 (by decide), g5, hF 3 (by decide), hE1.1]
  have e12 : ω4 12 = ω 12 := by rw [hP.1 12 (by decide), g6, hF 12 (by decide), hE1.2.1]
  have e13 : ω4 13 = ω 13 := by rw [hP.1 13 (by decide), g7, hF 13 (by decide), hE1.2.2.1]
  have e17 : ω4 17 = ω 17 := by rw [hP.1 17 (by decide), g8, hF 17 (by decide), hE1.2.2.2.2.2.2.1]
  have e18 : ω4 18 = ω 18 := by rw [hP.1 18 (by decide), g9, hF 18 (by decide), hE1.2.2.2.2.2.2.2]
  have k3 : mvT ω1 t m u 3 = ω1 3 := mvT_k _ _ _ _ (by decide) (by decide)
  have n3 : ω1 3 7 = ω 3 7 := by rw [hE1.1]
  have h26 : ω3 26 = ω1 26 := by rw [g1, hF 26 (by decide)]
  have h27 : ω3 27 = ω1 27 := by rw [g2, hF 27 (by decide)]
  refine ⟨by rw [e3], by rw [e3], fun c c0 c1 => ⟨by rw [e12], by rw [e13], ?_⟩, fun c n c0 c1 n0 n1 => ?_, fun _ _ _ => by rw [e17], fun _ _ _ _ _ _ => by rw [e18]⟩
  · rw [hP.2.2 c c0 (by omega), if_pos rfl]
    have hx := hW1.2.2.2.2.2.1 c c0 (by omega)
    have hs := (hS.2.2.2.1 c c0 (by omega)).2
    have hh : hds ω c m = zb (ω1 15 c) m := by rw [← hds_zb hW1 ⟨c0, by omega⟩, hds_TE hE1]
    have hB : ω3 15 c = mvB ω1 t m u c := by rw [g4, (hT.2.2.1 c c0 (by rw [k3]; omega)).2.2, mvT_15]
    simp only
    rw [hB, h27, hs, hh, ← hE1.2.2.2.2.1]
    have q0 := zset_back hx hm (b := 0) (Or.inl rfl)
    have q1 : zset (zset (ω1 15 c) m (hds ω1 t m)) m (zb (ω1 15 c) m) = ω1 15 c := by
      rcases hds01 ω1 t m with q | q
      · rw [q]; exact q0.1
      · exact (zset_back hx hm (Or.inr ⟨q, (hds_lo hW1 hm q).1⟩)).1
    unfold mvB
    (repeat' split)
    all_goals first | exact q0.1 | exact q1 | exact q0.2
  · rw [hP.2.1 c n c0 (by omega) n0 n1]
    by_cases e : n = m
    · subst e
      rw [if_pos ⟨rfl, rfl⟩]
      have hs := (hS.2.2.2.1 c c0 (by omega)).1
      show ω3 26 (row * 8 + c) = _
      rw [h26, hs, hb_in hW ⟨c0, c1⟩ ⟨n0, n1⟩]
    · rw [if_neg (fun q => e q.1), g3, hT.2.2.2.1 c n c0 (by rw [k3]; omega) n0 n1, mvT_14 _ _ _ _ ⟨n0, n1⟩]
      unfold mvH
      rw [if_neg e, hE1.2.2.2.1]
set_option maxRecDepth 100000 in
set_option maxHeartbeats 4000000 in
theorem kX0_reason {X : Cx} {d : Nat} {ω : Om} {Q : Option MV → Om → Prop} {t m u : Int} (hW : WfT ω) (hC : SC ω) (ht : 0 ≤ t ∧ t < ω 3 7) (hm : 0 ≤ m ∧ m < 12) (hQ : ∀ ω', ReaF ω ω' → SC ω' → ω' 6 9 = whereT ω t m u → Q (some (vI (whyT ω t m u))) ω') : Mc X mX0_reason (d + 4) [vR 6, vI t, vI m, vI u] ω Q := by
  have n8 := hW.1
  have prr := pr_rg hW t
  have hE0 : TE ω (up ω 6 9 (-1)) := tree_fr (K := [6]) (Fr.up Fr.rf (by decide)) rfl
  have hW0 : WfT (up ω 6 9 (-1)) := WfT_TQ hE0.q hW
  have e0 : up ω 6 9 (-1) 3 = ω 3 := up_f (by decide)
  have q37 : (up ω 6 9 (-1) 3 7) = ω 3 7 := by rw [e0]
  refine Mc_of [some (vR 6), some (vI t), some (vI m), some (vI u), none] (by decide +kernel) rfl (Nat.le_of_ble_eq_true rfl) ?_
  refine J_aload_n 0 dX0_reason_0 rfl ?_
  refine J_iconst (-1) dX0_reason_1 ⟨by decide, by decide⟩ ?_
  refine J_putI 9 lkF_X0_31 rfl fp_0_9 rfl dX0_reason_2 ?_
  refine J_aload_n 0 dX0_reason_5 rfl ?_
  refine J_getR lkF_X0_37 rfl dX0_reason_6 ?_
  refine J_iload_n 1 dX0_reason_9 rfl ?_
  refine J_iload_n 2 dX0_reason_10 rfl ?_
  refine JM_V2 lkM_X0_49 rcv_3 dX0_reason_11 (by decide) (Nat.le_of_ble_eq_true rfl) ?_
  refine kX5_heldBy ?_
  rw [hb_TE hE0]
  refine J_iconst (-1) dX0_reason_14 ⟨by decide, by decide⟩ ?_
  refine J_icmp_ne 20 dX0_reason_15 (by decide) (fun h15 => ?_) (fun h15 => ?_)
  · skip
    refine J_aload_n 0 dX0_reason_20 rfl ?_
    refine J_getR lkF_X0_37 rfl dX0_reason_21 ?_
    refine J_iload_n 1 dX0_reason_24 rfl ?_
    refine JM_V1 lkM_X0_55 rcv_3 dX0_reason_25 (by decide) (Nat.le_of_ble_eq_true rfl) ?_
    refine kX5_childBits hW0 (by rw [e0]; exact ht) ?_
    rw [e0]
    simp only [pr_TE hE0]
    refine J_istore_4 dX0_reason_28 (by decide) rfl ?_
    refine J_iload_n 3 dX0_reason_30 rfl ?_
    refine J_if_eq 49 dX0_reason_31 (by decide) (fun h31 => ?_) (fun h31 => ?_)
    · skip
      refine J_iload 4 dX0_reason_49 rfl ?_
      refine J_if_ne 56 dX0_reason_51 (by decide) (fun h51 => ?_) (fun h51 => ?_)
      · skip
        refine J_iload_n 3 dX0_reason_56 rfl ?_
        refine J_if_eq 83 dX0_reason_57 (by decide) (fun h57 => ?_) (fun h57 => ?_)
        · skip
          refine J_aload_n 0 dX0_reason_83 rfl ?_
          refine J_iload 4 dX0_reason_84 rfl ?_
          refine J_iload_n 2 dX0_reason_86 rfl ?_
          refine JM_V2 lkM_X0_62 rcv_6 dX0_reason_87 (by decide) (Nat.le_of_ble_eq_true rfl) ?_
          refine kX0_someLack (t := t) (by rw [e0]; exact n8) (by rw [e0]; simp only [pr_TE hE0]) ?_
          rw [e0]
          simp only [pr_TE hE0, hb_TE hE0]
          refine J_if_ne 95 dX0_reason_90 (by decide) (fun h90 => ?_) (fun h90 => ?_)
          · skip
            refine J_aload_n 0 dX0_reason_95 rfl ?_
            refine J_getR lkF_X0_45 rfl dX0_reason_96 ?_
            refine JM_V0 lkM_X0_66 rcv_5 dX0_reason_99 (by decide) (Nat.le_of_ble_eq_true rfl) ?_
            have hpl : plainT ω t m u = 0 := by
              unfold plainT
              rw [if_neg h15]
              first
                | rw [if_neg h31, if_neg h43, if_neg (fun q => q h77)]
                | rw [if_pos h31, if_neg (by rw [← bitsF_any (by omega)]; exact h51), if_neg (fun q => by rw [q] at h90; simp at h90)]
            have hup : ¬ u = 0 → ¬ pr ω t = -1 := fun q => by
              first | exact h43 | exact absurd h31 q
            have hv : ¬ hb ω t m = -1 := h15
            clear hE0 e0 q37
            refine kX3_refresh hW0 (TE.rf _) (SC_up9 (-1) hC).2 (fun ω1 s1 s2 s3 s4 => ?_)
            have hE1 : TE ω ω1 := (tree_fr (K := [6]) (Fr.up Fr.rf (by decide)) rfl : TE ω (up ω 6 9 (-1))).fr s3 rfl
            have hW1 : WfT ω1 := WfT_TQ hE1.q hW
            have n1 : ω1 3 7 = ω 3 7 := by rw [hE1.1]
            refine J_aload_n 0 dX0_reason_102 rfl ?_
            refine J_bipush 20 dX0_reason_103 ⟨by decide, by decide⟩ (by decide) ?_
            refine J_iload_n 2 dX0_reason_105 rfl ?_
            refine JM_V2 lkM_X0_71 rcv_6 dX0_reason_106 (by decide) (Nat.le_of_ble_eq_true rfl) ?_
            refine kX0_save (by omega) (fun ω2 s5 => ?_)
            have hE2 : TE ω1 ω2 := tree_fr s5.1 rfl
            have hW2 : WfT ω2 := WfT_TQ hE2.q hW1
            have n2 : ω2 3 7 = ω1 3 7 := by rw [hE2.1]
            refine J_aload_n 0 dX0_reason_109 rfl ?_
            refine J_iload_n 1 dX0_reason_110 rfl ?_
            refine J_iload_n 2 dX0_reason_111 rfl ?_
            refine J_iload_n 3 dX0_reason_112 rfl ?_
            refine JM_V3 lkM_X0_75 rcv_6 dX0_reason_113 (by decide) (Nat.le_of_ble_eq_true rfl) ?_
            refine kX0_shift hW2 (by omega) hm (fun q => by rw [pr_TE hE2, pr_TE hE1]; exact hup q) (fun ω3 s6 s7 s6g => ?_)
            have k3 : mvT ω2 t m u 3 = ω2 3 := mvT_k _ _ _ _ (by decide) (by decide)
            have hv2 : ¬ hb ω2 t m = -1 := by rw [hb_TE hE2, hb_TE hE1]; exact hv
            have hW3 : WfT ω3 := WfT_TQ s6 (mvT_wf hW2 (by omega) hm hv2)
            have n3 : ω3 3 7 = ω2 3 7 := by rw [s7 3 (by decide)]
            have f13 : ω3 13 = ω1 13 := by rw [s7 13 (by decide), hE2.2.2.1]
            have f23 : ω3 23 = ω1 23 := by rw [s7 23 (by decide), s5.1 23 (by decide)]
            have f24 : ω3 24 = ω1 24 := by rw [s7 24 (by decide), s5.1 24 (by decide)]
            have f25 : ω3 25 = ω1 25 := by rw [s7 25 (by decide), s5.1 25 (by decide)]
            have f5 : ω3 5 = ω1 5 := by rw [s7 5 (by decide), s5.1 5 (by decide)]
            have hSV1 : SVv ω1 ω1 := SVv_TQ s2.q s1
            have hSV3 : SVv ω1 ω3 := SVv_fr hSV1 f23 f24 f25 f5
            refine J_aload_n 0 dX0_reason_116 rfl ?_
            refine J_aload_n 0 dX0_reason_117 rfl ?_
            refine JM_V0 lkM_X0_79 rcv_6 dX0_reason_118 (by decide) (Nat.le_of_ble_eq_true rfl) ?_
            refine kX0_firstChange hW1 hW3 (by omega) (fun q => by unfold hol; rw [n3, n2, f13]) hSV3.1 (fun ω4 s8 => ?_)
            have hfc : firstC ω1 ω3 (6 * (ω1 3 7).toNat) 0 = whereT ω t m u := by
              unfold whereT
              rw [if_pos hpl, n1]
              exact firstC_TQ hE1.q ((mvT_TQ (hE1.q.tr hE2.q) u hm).tr s6) _ _
            rw [hfc]
            have m28 : ω4 28 20 = m := by rw [s8 28 (by decide), s7 28 (by decide)]; exact s5.2.1
            refine J_putI 9 lkF_X0_31 rfl fp_0_9 rfl dX0_reason_121 ?_
            refine J_aload_n 0 dX0_reason_124 rfl ?_
            refine J_bipush 20 dX0_reason_125 ⟨by decide, by decide⟩ (by decide) ?_
            refine JM_V1 lkM_X0_83 rcv_6 dX0_reason_127 (by decide) (Nat.le_of_ble_eq_true rfl) ?_
            refine kX0_restore (m := m) (by omega) hm (by rw [up_k (by decide)]; exact m28) (fun ω5 s9 => ?_)
            have hTQ : TQ ω1 ω5 := mv_back hW1 hm s5 s6 s7 ⟨by rw [up_f (by decide), s8 26 (by decide)], by rw [up_f (by decide), s8 27 (by decide)], by rw [up_f (by decide), s8 14 (by decide)], by rw [up_f (by decide), s8 15 (by decide)], by rw [up_f (by decide), s8 3 (by decide)], by rw [up_f (by decide), s8 12 (by decide)], by rw [up_f (by decide), s8 13 (by decide)], by rw [up_f (by decide), s8 17 (by decide)], by rw [up_f (by decide), s8 18 (by decide)]⟩ s9
            have e6 : ω5 6 = up ω4 6 9 (whereT ω t m u) 6 := s9.1 6 (by decide)
            have e69 : ω5 6 9 = whereT ω t m u := by rw [e6, up_s]
            have hfr5 : ω5 5 7 = ω5 3 9 := by
              rw [s9.1 5 (by decide), up_f (by decide), s8 5 (by decide), f5, s4, s9.1 3 (by decide), up_k (by decide), up_k (by decide), s8 3 (by decide), s7 3 (by decide), hE2.1, hE1.1]
            have hR5 : ReaF ω ω5 := by
              refine ⟨?_, fun i hi => ?_, fun q hq => ?_, ⟨fun r hr => ?_, fun hG => ?_, fun _ => hfr5⟩, hE1.q.tr hTQ⟩
              · refine Fr.tr (b := ω1) (Fr.tr (b := up ω 6 9 (-1)) (Fr.up Fr.rf (by decide)) (s3.mono (by decide))) (Fr.tr (b := ω2) (s5.1.mono (by decide)) (Fr.tr (b := ω3) (s7.mono (by decide)) (Fr.tr (b := ω4) (s8.mono (by decide)) (Fr.tr (b := up ω4 6 9 (whereT ω t m u)) (Fr.up Fr.rf (by decide)) (s9.1.mono (by decide))))))
              · rw [e6, up_i hi, s8 6 (by decide), s7 6 (by decide), s5.1 6 (by decide), s3 6 (by decide), up_i hi]
              · rw [s9.1 26 (by decide), up_k (by decide), s8 26 (by decide), s7 26 (by decide), s5.2.2.2.2.2.1 q (by omega), s3 26 (by decide), up_k (by decide)]
              · have := s5.2.2.2.2.2.2 r (by omega)
                rw [s9.1 27 (by decide), s9.1 28 (by decide), up_k (by decide), up_k (by decide), s8 27 (by decide), s7 27 (by decide), s8 28 (by decide), s7 28 (by decide), this.1, this.2, s3 27 (by decide), s3 28 (by decide), up_k (by decide), up_k (by decide)]
                exact ⟨rfl, rfl⟩
              · have g1 : GW ω2 := fun q q0 q1 => by rw [hE2.2.2.2.2.1, hE1.2.2.2.2.1]; exact hG q q0 q1
                have g2 : GW (up ω4 6 9 (whereT ω t m u)) := fun q q0 q1 => by rw [up_k (by decide), s8 15 (by decide)]; exact s6g g1 q q0 q1
                refine PP_GW s9 hm (fun j j0 j1 => ?_) g2
                have hz : zb (up ω4 6 9 (whereT ω t m u) 27 20) j = hds ω1 j m := by rw [up_k (by decide), s8 27 (by decide), s7 27 (by decide)]; exact (s5.2.2.2.1 j j0 (by omega)).2
                rw [hz]
                rcases hds01 ω1 j m with q | q
                · exact Or.inl q
                · exact Or.inr ⟨q, (hds_lo hW1 hm q).1⟩
            have hSC5 : SC ω5 := by
              refine ⟨?_, fun _ => ?_⟩
              · rw [hfr5]; exact Int.le_refl _
              refine SVv_TQ hTQ (SVv_fr hSV1 ?_ ?_ ?_ ?_)
              · rw [s9.1 23 (by decide), up_f (by decide), s8 23 (by decide), f23]
              · rw [s9.1 24 (by decide), up_f (by decide), s8 24 (by decide), f24]
              · rw [s9.1 25 (by decide), up_f (by decide), s8 25 (by decide), f25]
              · rw [s9.1 5 (by decide), up_f (by decide), s8 5 (by decide), f5]
            have hfin := hQ ω5 hR5 hSC5 e69
            unfold whyT at hfin
            rw [if_pos hpl] at hfin
            refine J_aload_n 0 dX0_reason_130 rfl ?_
            refine J_getI 9 lkF_X0_31 rfl rfl rfl dX0_reason_131 ?_
            try simp (config := {decide := true}) only [up_s, up_k, up_i]
            refine J_iconst (-1) dX0_reason_134 ⟨by decide, by decide⟩ ?_
            refine J_icmp_ne 142 dX0_reason_135 (by decide) (fun h135 => ?_) (fun h135 => ?_)
            · skip
              refine J_iconst 4 dX0_reason_142 ⟨by decide, by decide⟩ ?_
              refine JM_iret rfl dX0_reason_143 ?_
              rw [e69] at h135
              first
                | (rw [if_pos h135] at hfin; exact hfin)
                | (rw [if_neg h135] at hfin; exact hfin)
            · skip
              refine J_iconst 0 dX0_reason_138 ⟨by decide, by decide⟩ ?_
              refine J_goto 143 dX0_reason_139 (by decide) ?_
              refine JM_iret rfl dX0_reason_143 ?_
              rw [e69] at h135
              first
                | (rw [if_pos h135] at hfin; exact hfin)
                | (rw [if_neg h135] at hfin; exact hfin)
          · skip
            refine J_iconst 3 dX0_reason_93 ⟨by decide, by decide⟩ ?_
            refine JM_iret rfl dX0_reason_94 ?_
            have hp1 : plainT ω t m u = 3 := by
              unfold plainT
              rw [if_neg h15]
              first
                | rw [if_neg h31, if_neg h43, if_pos h77]
                | (rw [if_pos h31, if_neg (by rw [← bitsF_any (by omega)]; exact h51), if_pos]
                   rw [Bool.eq_false_iff]; intro q; rw [if_pos q] at h90; omega)
            have e := hQ _ (up9 ω (-1)) (SC_up9 (-1) hC) (by rw [up_s]; unfold whereT; rw [hp1, if_neg (by decide)])
            unfold whyT at e
            rw [hp1, if_neg (by decide)] at e
            exact e
        · skip
          exact absurd h31 h57
      · skip
        refine J_iconst 2 dX0_reason_54 ⟨by decide, by decide⟩ ?_
        refine JM_iret rfl dX0_reason_55 ?_
        have hp1 : plainT ω t m u = 2 := by
          unfold plainT
          rw [if_neg h15]
          first
            | rw [if_neg h31, if_pos h43]
            | rw [if_pos h31, if_pos ((bitsF_any (by omega)).mp h51)]
        have e := hQ _ (up9 ω (-1)) (SC_up9 (-1) hC) (by rw [up_s]; unfold whereT; rw [hp1, if_neg (by decide)])
        unfold whyT at e
        rw [hp1, if_neg (by decide)] at e
        exact e
    · skip
      refine J_aload_n 0 dX0_reason_34 rfl ?_
      refine J_getR lkF_X0_37 rfl dX0_reason_35 ?_
      refine J_iload_n 1 dX0_reason_38 rfl ?_
      refine JM_V1 lkM_X0_59 rcv_3 dX0_reason_39 (by decide) (Nat.le_of_ble_eq_true rfl) ?_
      refine kX5_parentOf ?_
      rw [pr_TE hE0]
      refine J_iconst (-1) dX0_reason_42 ⟨by decide, by decide⟩ ?_
      refine J_icmp_ne 56 dX0_reason_43 (by decide) (fun h43 => ?_) (fun h43 => ?_)
      · skip
        refine J_iload_n 3 dX0_reason_56 rfl ?_
        refine J_if_eq 83 dX0_reason_57 (by decide) (fun h57 => ?_) (fun h57 => ?_)
        · skip
          exact absurd h57 h31
        · skip
          refine J_aload_n 0 dX0_reason_60 rfl ?_
          refine J_getR lkF_X0_37 rfl dX0_reason_61 ?_
          refine J_aload_n 0 dX0_reason_64 rfl ?_
          refine J_getR lkF_X0_37 rfl dX0_reason_65 ?_
          refine J_iload_n 1 dX0_reason_68 rfl ?_
          refine JM_V1 lkM_X0_59 rcv_3 dX0_reason_69 (by decide) (Nat.le_of_ble_eq_true rfl) ?_
          refine kX5_parentOf ?_
          rw [pr_TE hE0]
          refine J_iload_n 2 dX0_reason_72 rfl ?_
          refine JM_V2 lkM_X0_49 rcv_3 dX0_reason_73 (by decide) (Nat.le_of_ble_eq_true rfl) ?_
          refine kX5_heldBy ?_
          rw [hb_TE hE0]
          refine J_iconst (-1) dX0_reason_76 ⟨by decide, by decide⟩ ?_
          refine J_icmp_eq 95 dX0_reason_77 (by decide) (fun h77 => ?_) (fun h77 => ?_)
          · skip
            refine J_aload_n 0 dX0_reason_95 rfl ?_
            refine J_getR lkF_X0_45 rfl dX0_reason_96 ?_
            refine JM_V0 lkM_X0_66 rcv_5 dX0_reason_99 (by decide) (Nat.le_of_ble_eq_true rfl) ?_
            have hpl : plainT ω t m u = 0 := by
              unfold plainT
              rw [if_neg h15]
              first
                | rw [if_neg h31, if_neg h43, if_neg (fun q => q h77)]
                | rw [if_pos h31, if_neg (by rw [← bitsF_any (by omega)]; exact h51), if_neg (fun q => by rw [q] at h90; simp at h90)]
            have hup : ¬ u = 0 → ¬ pr ω t = -1 := fun q => by
              first | exact h43 | exact absurd h31 q
            have hv : ¬ hb ω t m = -1 := h15
            clear hE0 e0 q37
            refine kX3_refresh hW0 (TE.rf _) (SC_up9 (-1) hC).2 (fun ω1 s1 s2 s3 s4 => ?_)
            have hE1 : TE ω ω1 := (tree_fr (K := [6]) (Fr.up Fr.rf (by decide)) rfl : TE ω (up ω 6 9 (-1))).fr s3 rfl
            have hW1 : WfT ω1 := WfT_TQ hE1.q hW
            have n1 : ω1 3 7 = ω 3 7 := by rw [hE1.1]
            refine J_aload_n 0 dX0_reason_102 rfl ?_
            refine J_bipush 20 dX0_reason_103 ⟨by decide, by decide⟩ (by decide) ?_
            refine J_iload_n 2 dX0_reason_105 rfl ?_
            refine JM_V2 lkM_X0_71 rcv_6 dX0_reason_106 (by decide) (Nat.le_of_ble_eq_true rfl) ?_
            refine kX0_save (by omega) (fun ω2 s5 => ?_)
            have hE2 : TE ω1 ω2 := tree_fr s5.1 rfl
            have hW2 : WfT ω2 := WfT_TQ hE2.q hW1
            have n2 : ω2 3 7 = ω1 3 7 := by rw [hE2.1]
            refine J_aload_n 0 dX0_reason_109 rfl ?_
            refine J_iload_n 1 dX0_reason_110 rfl ?_
            refine J_iload_n 2 dX0_reason_111 rfl ?_
            refine J_iload_n 3 dX0_reason_112 rfl ?_
            refine JM_V3 lkM_X0_75 rcv_6 dX0_reason_113 (by decide) (Nat.le_of_ble_eq_true rfl) ?_
            refine kX0_shift hW2 (by omega) hm (fun q => by rw [pr_TE hE2, pr_TE hE1]; exact hup q) (fun ω3 s6 s7 s6g => ?_)
            have k3 : mvT ω2 t m u 3 = ω2 3 := mvT_k _ _ _ _ (by decide) (by decide)
            have hv2 : ¬ hb ω2 t m = -1 := by rw [hb_TE hE2, hb_TE hE1]; exact hv
            have hW3 : WfT ω3 := WfT_TQ s6 (mvT_wf hW2 (by omega) hm hv2)
            have n3 : ω3 3 7 = ω2 3 7 := by rw [s7 3 (by decide)]
            have f13 : ω3 13 = ω1 13 := by rw [s7 13 (by decide), hE2.2.2.1]
            have f23 : ω3 23 = ω1 23 := by rw [s7 23 (by decide), s5.1 23 (by decide)]
            have f24 : ω3 24 = ω1 24 := by rw [s7 24 (by decide), s5.1 24 (by decide)]
            have f25 : ω3 25 = ω1 25 := by rw [s7 25 (by decide), s5.1 25 (by decide)]
            have f5 : ω3 5 = ω1 5 := by rw [s7 5 (by decide), s5.1 5 (by decide)]
            have hSV1 : SVv ω1 ω1 := SVv_TQ s2.q s1
            have hSV3 : SVv ω1 ω3 := SVv_fr hSV1 f23 f24 f25 f5
            refine J_aload_n 0 dX0_reason_116 rfl ?_
            refine J_aload_n 0 dX0_reason_117 rfl ?_
            refine JM_V0 lkM_X0_79 rcv_6 dX0_reason_118 (by decide) (Nat.le_of_ble_eq_true rfl) ?_
            refine kX0_firstChange hW1 hW3 (by omega) (fun q => by unfold hol; rw [n3, n2, f13]) hSV3.1 (fun ω4 s8 => ?_)
            have hfc : firstC ω1 ω3 (6 * (ω1 3 7).toNat) 0 = whereT ω t m u := by
              unfold whereT
              rw [if_pos hpl, n1]
              exact firstC_TQ hE1.q ((mvT_TQ (hE1.q.tr hE2.q) u hm).tr s6) _ _
            rw [hfc]
            have m28 : ω4 28 20 = m := by rw [s8 28 (by decide), s7 28 (by decide)]; exact s5.2.1
            refine J_putI 9 lkF_X0_31 rfl fp_0_9 rfl dX0_reason_121 ?_
            refine J_aload_n 0 dX0_reason_124 rfl ?_
            refine J_bipush 20 dX0_reason_125 ⟨by decide, by decide⟩ (by decide) ?_
            refine JM_V1 lkM_X0_83 rcv_6 dX0_reason_127 (by decide) (Nat.le_of_ble_eq_true rfl) ?_
            refine kX0_restore (m := m) (by omega) hm (by rw [up_k (by decide)]; exact m28) (fun ω5 s9 => ?_)
            have hTQ : TQ ω1 ω5 := mv_back hW1 hm s5 s6 s7 ⟨by rw [up_f (by decide), s8 26 (by decide)], by rw [up_f (by decide), s8 27 (by decide)], by rw [up_f (by decide), s8 14 (by decide)], by rw [up_f (by decide), s8 15 (by decide)], by rw [up_f (by decide), s8 3 (by decide)], by rw [up_f (by decide), s8 12 (by decide)], by rw [up_f (by decide), s8 13 (by decide)], by rw [up_f (by decide), s8 17 (by decide)], by rw [up_f (by decide), s8 18 (by decide)]⟩ s9
            have e6 : ω5 6 = up ω4 6 9 (whereT ω t m u) 6 := s9.1 6 (by decide)
            have e69 : ω5 6 9 = whereT ω t m u := by rw [e6, up_s]
            have hfr5 : ω5 5 7 = ω5 3 9 := by
              rw [s9.1 5 (by decide), up_f (by decide), s8 5 (by decide), f5, s4, s9.1 3 (by decide), up_k (by decide), up_k (by decide), s8 3 (by decide), s7 3 (by decide), hE2.1, hE1.1]
            have hR5 : ReaF ω ω5 := by
              refine ⟨?_, fun i hi => ?_, fun q hq => ?_, ⟨fun r hr => ?_, fun hG => ?_, fun _ => hfr5⟩, hE1.q.tr hTQ⟩
              · refine Fr.tr (b := ω1) (Fr.tr (b := up ω 6 9 (-1)) (Fr.up Fr.rf (by decide)) (s3.mono (by decide))) (Fr.tr (b := ω2) (s5.1.mono (by decide)) (Fr.tr (b := ω3) (s7.mono (by decide)) (Fr.tr (b := ω4) (s8.mono (by decide)) (Fr.tr (b := up ω4 6 9 (whereT ω t m u)) (Fr.up Fr.rf (by decide)) (s9.1.mono (by decide))))))
              · rw [e6, up_i hi, s8 6 (by decide), s7 6 (by decide), s5.1 6 (by decide), s3 6 (by decide), up_i hi]
              · rw [s9.1 26 (by decide), up_k (by decide), s8 26 (by decide), s7 26 (by decide), s5.2.2.2.2.2.1 q (by omega), s3 26 (by decide), up_k (by decide)]
              · have := s5.2.2.2.2.2.2 r (by omega)
                rw [s9.1 27 (by decide), s9.1 28 (by decide), up_k (by decide), up_k (by decide), s8 27 (by decide), s7 27 (by decide), s8 28 (by decide), s7 28 (by decide), this.1, this.2, s3 27 (by decide), s3 28 (by decide), up_k (by decide), up_k (by decide)]
                exact ⟨rfl, rfl⟩
              · have g1 : GW ω2 := fun q q0 q1 => by rw [hE2.2.2.2.2.1, hE1.2.2.2.2.1]; exact hG q q0 q1
                have g2 : GW (up ω4 6 9 (whereT ω t m u)) := fun q q0 q1 => by rw [up_k (by decide), s8 15 (by decide)]; exact s6g g1 q q0 q1
                refine PP_GW s9 hm (fun j j0 j1 => ?_) g2
                have hz : zb (up ω4 6 9 (whereT ω t m u) 27 20) j = hds ω1 j m := by rw [up_k (by decide), s8 27 (by decide), s7 27 (by decide)]; exact (s5.2.2.2.1 j j0 (by omega)).2
                rw [hz]
                rcases hds01 ω1 j m with q | q
                · exact Or.inl q
                · exact Or.inr ⟨q, (hds_lo hW1 hm q).1⟩
            have hSC5 : SC ω5 := by
              refine ⟨?_, fun _ => ?_⟩
              · rw [hfr5]; exact Int.le_refl _
              refine SVv_TQ hTQ (SVv_fr hSV1 ?_ ?_ ?_ ?_)
              · rw [s9.1 23 (by decide), up_f (by decide), s8 23 (by decide), f23]
              · rw [s9.1 24 (by decide), up_f (by decide), s8 24 (by decide), f24]
              · rw [s9.1 25 (by decide), up_f (by decide), s8 25 (by decide), f25]
              · rw [s9.1 5 (by decide), up_f (by decide), s8 5 (by decide), f5]
            have hfin := hQ ω5 hR5 hSC5 e69
            unfold whyT at hfin
            rw [if_pos hpl] at hfin
            refine J_aload_n 0 dX0_reason_130 rfl ?_
            refine J_getI 9 lkF_X0_31 rfl rfl rfl dX0_reason_131 ?_
            try simp (config := {decide := true}) only [up_s, up_k, up_i]
            refine J_iconst (-1) dX0_reason_134 ⟨by decide, by decide⟩ ?_
            refine J_icmp_ne 142 dX0_reason_135 (by decide) (fun h135 => ?_) (fun h135 => ?_)
            · skip
              refine J_iconst 4 dX0_reason_142 ⟨by decide, by decide⟩ ?_
              refine JM_iret rfl dX0_reason_143 ?_
              rw [e69] at h135
              first
                | (rw [if_pos h135] at hfin; exact hfin)
                | (rw [if_neg h135] at hfin; exact hfin)
            · skip
              refine J_iconst 0 dX0_reason_138 ⟨by decide, by decide⟩ ?_
              refine J_goto 143 dX0_reason_139 (by decide) ?_
              refine JM_iret rfl dX0_reason_143 ?_
              rw [e69] at h135
              first
                | (rw [if_pos h135] at hfin; exact hfin)
                | (rw [if_neg h135] at hfin; exact hfin)
          · skip
            refine J_goto 93 dX0_reason_80 (by decide) ?_
            refine J_iconst 3 dX0_reason_93 ⟨by decide, by decide⟩ ?_
            refine JM_iret rfl dX0_reason_94 ?_
            have hp1 : plainT ω t m u = 3 := by
              unfold plainT
              rw [if_neg h15]
              first
                | rw [if_neg h31, if_neg h43, if_pos h77]
                | (rw [if_pos h31, if_neg (by rw [← bitsF_any (by omega)]; exact h51), if_pos]
                   rw [Bool.eq_false_iff]; intro q; rw [if_pos q] at h90; omega)
            have e := hQ _ (up9 ω (-1)) (SC_up9 (-1) hC) (by rw [up_s]; unfold whereT; rw [hp1, if_neg (by decide)])
            unfold whyT at e
            rw [hp1, if_neg (by decide)] at e
            exact e
      · skip
        refine J_goto 54 dX0_reason_46 (by decide) ?_
        refine J_iconst 2 dX0_reason_54 ⟨by decide, by decide⟩ ?_
        refine JM_iret rfl dX0_reason_55 ?_
        have hp1 : plainT ω t m u = 2 := by
          unfold plainT
          rw [if_neg h15]
          first
            | rw [if_neg h31, if_pos h43]
            | rw [if_pos h31, if_pos ((bitsF_any (by omega)).mp h51)]
        have e := hQ _ (up9 ω (-1)) (SC_up9 (-1) hC) (by rw [up_s]; unfold whereT; rw [hp1, if_neg (by decide)])
        unfold whyT at e
        rw [hp1, if_neg (by decide)] at e
        exact e
  · skip
    refine J_iconst 1 dX0_reason_18 ⟨by decide, by decide⟩ ?_
    refine JM_iret rfl dX0_reason_19 ?_
    have hp1 : plainT ω t m u = 1 := by unfold plainT; rw [if_pos h15]
    have e := hQ _ (up9 ω (-1)) (SC_up9 (-1) hC) (by rw [up_s]; unfold whereT; rw [hp1, if_neg (by decide)])
    unfold whyT at e
    rw [hp1, if_neg (by decide)] at e
    exact e
