/-! the model's digest -/
def MyP (a b : Om) : Prop := Fr [29] a b ∧ ∀ i, i ≠ 44 → b 29 i = a 29 i
theorem MyP.rf (a : Om) : MyP a a := ⟨Fr.rf, fun _ _ => rfl⟩
theorem MyP.tr {a b c : Om} (h : MyP a b) (g : MyP b c) : MyP a c := ⟨h.1.tr g.1, fun i q => (g.2 i q).trans (h.2 i q)⟩
theorem MyP.x {a b : Om} (h : MyP a b) : MPx [44] a b := ⟨h.1.mono (by decide), fun i q => h.2 i (fun e => q (by rw [e]; decide)), fun q => by rw [h.2 7 (by decide)]; exact q, fun i _ => by rw [h.1 33 (by decide)], fun i _ => by rw [h.1 34 (by decide)]⟩
theorem MyP.w {a b : Om} (hM : MW a) (h : MyP a b) : MW b := h.x.w hM (by decide) (by decide)
theorem MyP.q {a b : Om} (hM : MW a) (h : MyP a b) : TQ (vw 0 a) (vw 0 b) := h.x.q (n8_vw hM.1).2 (by decide) (by decide)
theorem MPx.qa {a b : Om} (hM : MW a) (h : MPx LA a b) : TQ (vw 0 a) (vw 0 b) := h.q (n8_vw hM.1).2 (by decide) (by decide)
theorem MPx.wa {a b : Om} (hM : MW a) (h : MPx LA a b) : MW b := h.w hM (by decide) (by decide)
theorem MPx.my {a b c : Om} (h : MPx LA a b) (g : MyP b c) : MPx LA a c := h.tr (g.x.mono (by decide))
set_option maxRecDepth 100000 in
set_option maxHeartbeats 4000000 in
theorem kX7_mix {X : Cx} {d : Nat} {ω : Om} {Q : Option MV → Om → Prop} {v : Int} (hQ : ∀ ω', MyP ω ω' → ω' 29 44 = mx (ω 29 44) v → Q none ω') : Mc X mX7_mix d [vR 29, vL v] ω Q := by
  refine Mc_of [some (vR 29), some (vL v), none] (by decide +kernel) rfl (Nat.le_of_ble_eq_true rfl) ?_
  refine J_aload_n 0 dX7_mix_0 rfl ?_
  refine J_ldc2z (v := (31)) (31) (gm 1216 (by decide +kernel) rfl) (by decide) dX7_mix_1 ?_
  refine J_aload_n 0 dX7_mix_4 rfl ?_
  refine J_getL 44 lkF_X7_297 rfl rfl dX7_mix_5 ?_
  refine J_lmul dX7_mix_8 ?_
  refine J_lload_n 1 dX7_mix_9 rfl ?_
  refine J_ladd dX7_mix_10 ?_
  refine J_putL 44 lkF_X7_297 rfl fp_7_44 rfl rfl dX7_mix_11 ?_
  refine JM_vret rfl dX7_mix_14 ?_
  exact hQ _ ⟨Fr.up Fr.rf (by decide), fun i q => up_i q⟩ up_s

set_option maxRecDepth 100000 in
set_option maxHeartbeats 4000000 in
theorem l_mm {X : Cx} {d : Nat} {Q : Option MV → Om → Prop} {ωb : Om} {t m h0 : Int} {l : List Int} (hl : l.length ≤ 60) (h28 : ωb 29 28 = l.length) (hev : ∀ i : Int, 0 ≤ i → i < l.length → ωb 44 i = evN l i % 4 ∧ ωb 45 i = evN l i / 4) : ∀ (n e : Nat) (ω : Om), e + n = l.length → MyP ωb ω → ω 29 44 = itr (evG l) e h0 → (∀ ω', MyP ωb ω' → ω' 29 44 = itr (evG l) l.length h0 → Q none ω') → JM X mX7_mixMethod (d + 6) Q 50 [some (vR 29), some (vI t), some (vI m), some (vI e)] [] ω := by
  intro n
  induction n with
  | zero =>
    intro e ω he hF hz hQ
    have e28 : ω 29 28 = l.length := by rw [hF.2 28 (by decide)]; exact h28
    refine J_iload_n 3 dX7_mixMethod_50 rfl ?_
    refine J_aload_n 0 dX7_mixMethod_51 rfl ?_
    refine J_getI 28 lkF_X7_185 rfl rfl rfl dX7_mixMethod_52 ?_
    refine J_icmp_ge 86 dX7_mixMethod_55 (by decide) (fun h55 => ?_) (fun h55 => ?_)
    · skip
      refine JM_vret rfl dX7_mixMethod_86 ?_
      obtain rfl : e = l.length := by omega
      exact hQ ω hF hz
    · skip
      exfalso; omega
  | succ n ih =>
    intro e ω he hF hz hQ
    have e28 : ω 29 28 = l.length := by rw [hF.2 28 (by decide)]; exact h28
    have hv := hev e (by omega) (by omega)
    refine J_iload_n 3 dX7_mixMethod_50 rfl ?_
    refine J_aload_n 0 dX7_mixMethod_51 rfl ?_
    refine J_getI 28 lkF_X7_185 rfl rfl rfl dX7_mixMethod_52 ?_
    refine J_icmp_ge 86 dX7_mixMethod_55 (by decide) (fun h55 => ?_) (fun h55 => ?_)
    · skip
      exfalso; omega
    · skip
      refine J_aload_n 0 dX7_mixMethod_58 rfl ?_
      refine J_aload_n 0 dX7_mixMethod_59 rfl ?_
      refine J_getR lkF_X7_53 rfl dX7_mixMethod_60 ?_
      refine J_iload_n 3 dX7_mixMethod_63 rfl ?_
      refine J_iaload _ rfl rfl (by omega) dX7_mixMethod_64 ?_
      refine J_i2l dX7_mixMethod_65 ?_
      refine JM_V1 lkM_X7_301 rcv_29 dX7_mixMethod_66 (by decide) (Nat.le_of_ble_eq_true rfl) ?_
      rw [hF.1 44 (by decide), hv.1]
      refine kX7_mix (fun ω1 y1 z1 => ?_)
      have hF1 := hF.tr y1
      refine J_aload_n 0 dX7_mixMethod_69 rfl ?_
      refine J_aload_n 0 dX7_mixMethod_70 rfl ?_
      refine J_getR lkF_X7_56 rfl dX7_mixMethod_71 ?_
      refine J_iload_n 3 dX7_mixMethod_74 rfl ?_
      refine J_iaload _ rfl rfl (by omega) dX7_mixMethod_75 ?_
      refine J_i2l dX7_mixMethod_76 ?_
      refine JM_V1 lkM_X7_301 rcv_29 dX7_mixMethod_77 (by decide) (Nat.le_of_ble_eq_true rfl) ?_
      rw [hF1.1 45 (by decide), hv.2]
      refine kX7_mix (fun ω2 y2 z2 => ?_)
      refine J_iinc_3 dX7_mixMethod_80 (by decide) ⟨by omega, by omega⟩ rfl ?_
      refine J_goto 50 dX7_mixMethod_83 (by decide) ?_
      exact ih (e + 1) ω2 (by omega) (hF1.tr y2) (by rw [z2, z1, hz, itr]; rfl) hQ

theorem RunM_l {τ : Om} {t m r : Int} {ω : Om} (hW : WfT τ) (hm : 0 ≤ m ∧ m < 6) (h : RunM (trT τ t m) r ω) : (evs τ t m).length ≤ 60 ∧ ω 29 28 = (evs τ t m).length ∧ ∀ i : Int, 0 ≤ i → i < (evs τ t m).length → ω 44 i = evN (evs τ t m) i % 4 ∧ ω 45 i = evN (evs τ t m) i / 4 := by
  rcases RunM_ev h with ⟨_, q1, q2⟩ | ⟨_, s, q1, q2, q3⟩
  · have : evs τ t m = [] := by unfold evs; rw [q1]
    rw [this]
    exact ⟨Nat.zero_le _, q2, fun i i0 i1 => by simp at i1; omega⟩
  · rw [tr_evs q1]
    exact ⟨q3.2.2.2.2, q2.1, fun i i0 i1 => MT_at q2 ⟨i0, i1⟩⟩
set_option maxRecDepth 100000 in
set_option maxHeartbeats 4000000 in
theorem kX7_mixMethod {X : Cx} {d : Nat} {ω : Om} {Q : Option MV → Om → Prop} {t m : Int} (hM : MW ω) (ht : 0 ≤ t ∧ t < ω 29 2) (hm : 0 ≤ m ∧ m < 6) (hQ : ∀ ω', MPx LA ω ω' → ω' 29 44 = dgM (vw 0 ω) t m (ω 29 44) → Q none ω') : Mc X mX7_mixMethod (d + 6) [vR 29, vI t, vI m] ω Q := by
  refine Mc_of [some (vR 29), some (vI t), some (vI m), none] (by decide +kernel) rfl (Nat.le_of_ble_eq_true rfl) ?_
  refine J_aload_n 0 dX7_mixMethod_0 rfl ?_
  refine J_aload_n 0 dX7_mixMethod_1 rfl ?_
  refine J_iload_n 1 dX7_mixMethod_2 rfl ?_
  refine J_iload_n 2 dX7_mixMethod_3 rfl ?_
  refine J_iconst 0 dX7_mixMethod_4 ⟨by decide, by decide⟩ ?_
  refine JM_V3 lkM_X7_179 rcv_29 dX7_mixMethod_5 (by decide) (Nat.le_of_ble_eq_true rfl) ?_
  refine kX7_answerNow hM ht hm ?_
  refine J_i2l dX7_mixMethod_8 ?_
  refine JM_V1 lkM_X7_301 rcv_29 dX7_mixMethod_9 (by decide) (Nat.le_of_ble_eq_true rfl) ?_
  refine kX7_mix (fun ω1 y1 z1 => ?_)
  have e21 : ω1 29 2 = ω 29 2 := y1.2 2 (by decide)
  refine J_aload_n 0 dX7_mixMethod_12 rfl ?_
  refine J_aload_n 0 dX7_mixMethod_13 rfl ?_
  refine J_iload_n 1 dX7_mixMethod_14 rfl ?_
  refine J_iload_n 2 dX7_mixMethod_15 rfl ?_
  refine J_iconst 1 dX7_mixMethod_16 ⟨by decide, by decide⟩ ?_
  refine JM_V3 lkM_X7_179 rcv_29 dX7_mixMethod_17 (by decide) (Nat.le_of_ble_eq_true rfl) ?_
  refine kX7_answerNow (y1.w hM) (by omega) hm ?_
  rw [ansN_TQ (y1.q hM)]
  refine J_i2l dX7_mixMethod_20 ?_
  refine JM_V1 lkM_X7_301 rcv_29 dX7_mixMethod_21 (by decide) (Nat.le_of_ble_eq_true rfl) ?_
  refine kX7_mix (fun ω2 y2 z2 => ?_)
  have y12 := y1.tr y2
  have e22 : ω2 29 2 = ω 29 2 := y12.2 2 (by decide)
  refine J_aload_n 0 dX7_mixMethod_24 rfl ?_
  refine J_aload_n 0 dX7_mixMethod_25 rfl ?_
  refine J_iload_n 1 dX7_mixMethod_26 rfl ?_
  refine J_iload_n 2 dX7_mixMethod_27 rfl ?_
  refine J_iconst 0 dX7_mixMethod_28 ⟨by decide, by decide⟩ ?_
  refine JM_V3 lkM_X7_214 rcv_29 dX7_mixMethod_29 (by decide) (Nat.le_of_ble_eq_true rfl) ?_
  refine kX7_traceNow (y12.w hM) (by omega) hm (Or.inl rfl) (fun r3 ω3 m3 f3 => ?_)
  rw [trT_TQ (y12.q hM)]
  have p3 : MPx LA ω ω3 := ((MPx.rf _ ω).my y12).tr (f3.x.mono (by decide))
  have e23 : ω3 29 2 = ω 29 2 := p3.2.1 2 (by decide)
  have z3 : ω3 29 44 = ω2 29 44 := f3.2 44 (by decide) (by decide) (by decide)
  refine J_i2l dX7_mixMethod_32 ?_
  refine JM_V1 lkM_X7_301 rcv_29 dX7_mixMethod_33 (by decide) (Nat.le_of_ble_eq_true rfl) ?_
  refine kX7_mix (fun ω4 y4 z4 => ?_)
  have p4 := p3.my y4
  have e24 : ω4 29 2 = ω 29 2 := p4.2.1 2 (by decide)
  refine J_aload_n 0 dX7_mixMethod_36 rfl ?_
  refine J_aload_n 0 dX7_mixMethod_37 rfl ?_
  refine J_iload_n 1 dX7_mixMethod_38 rfl ?_
  refine J_iload_n 2 dX7_mixMethod_39 rfl ?_
  refine J_iconst 1 dX7_mixMethod_40 ⟨by decide, by decide⟩ ?_
  refine JM_V3 lkM_X7_214 rcv_29 dX7_mixMethod_41 (by decide) (Nat.le_of_ble_eq_true rfl) ?_
  refine kX7_traceNow (p4.wa hM) (by omega) hm (Or.inr rfl) (fun r5 ω5 m5 f5 => ?_)
  rw [trT_TQ (p4.qa hM)] at m5 ⊢
  have p5 : MPx LA ω ω5 := p4.tr (f5.x.mono (by decide))
  have z5 : ω5 29 44 = ω4 29 44 := f5.2 44 (by decide) (by decide) (by decide)
  obtain ⟨rl, r28, rev⟩ := RunM_l hM.1 hm m5
  refine J_i2l dX7_mixMethod_44 ?_
  refine JM_V1 lkM_X7_301 rcv_29 dX7_mixMethod_45 (by decide) (Nat.le_of_ble_eq_true rfl) ?_
  refine kX7_mix (fun ω6 y6 z6 => ?_)
  have p6 := p5.my y6
  refine J_iconst 0 dX7_mixMethod_48 ⟨by decide, by decide⟩ ?_
  refine J_istore_3 dX7_mixMethod_49 (by decide) rfl ?_
  refine l_mm (l := evs (vw 0 ω) t m) rl (by rw [y6.2 28 (by decide)]; exact r28) (fun i i0 i1 => by rw [y6.1 44 (by decide), y6.1 45 (by decide)]; exact rev i i0 i1) (evs (vw 0 ω) t m).length 0 ω6 (by omega) (MyP.rf ω6) (h0 := ω6 29 44) (by rw [itr]) (fun ω7 y7 z7 => ?_)
  refine hQ ω7 (p6.my y7) ?_
  rw [z7, z6, z5, z4, z3, z2, z1]
  rfl

set_option maxRecDepth 100000 in
set_option maxHeartbeats 4000000 in
theorem l_mt1 {X : Cx} {d : Nat} {Q : Option MV → Om → Prop} {ω0 : Om} {t h0 : Int} (hM : MW ω0) (ht : 0 ≤ t ∧ t < ω0 29 2) : ∀ (n k : Nat) (ω : Om), k + n = 7 → MPx LA ω0 ω → ω 29 44 = itr (fun w h => mx h (aOf (vw 0 ω0) t w)) k h0 → (∀ ω', MPx LA ω0 ω' → ω' 29 44 = itr (fun w h => mx h (aOf (vw 0 ω0) t w)) 7 h0 → JM X mX7_mixTypes (d + 7) Q 35 [some (vR 29), some (vI t), some (vI (7 : Nat))] [] ω') → JM X mX7_mixTypes (d + 7) Q 12 [some (vR 29), some (vI t), some (vI k)] [] ω := by
  have n8 := n8_vw hM.1
  intro n
  induction n with
  | zero =>
    intro k ω hk hF hz hQ
    have e2 : ω 29 2 = ω0 29 2 := hF.2.1 2 (by decide)
    refine J_iload_n 2 dX7_mixTypes_12 rfl ?_
    refine J_bipush 7 dX7_mixTypes_13 ⟨by decide, by decide⟩ (by decide) ?_
    refine J_icmp_ge 35 dX7_mixTypes_15 (by decide) (fun h15 => ?_) (fun h15 => ?_)
    · skip
      obtain rfl : k = 7 := by omega
      exact hQ ω hF hz
    · skip
      exfalso; omega
  | succ n ih =>
    intro k ω hk hF hz hQ
    have e2 : ω 29 2 = ω0 29 2 := hF.2.1 2 (by decide)
    refine J_iload_n 2 dX7_mixTypes_12 rfl ?_
    refine J_bipush 7 dX7_mixTypes_13 ⟨by decide, by decide⟩ (by decide) ?_
    refine J_icmp_ge 35 dX7_mixTypes_15 (by decide) (fun h15 => ?_) (fun h15 => ?_)
    · skip
      exfalso; omega
    · skip
      refine J_aload_n 0 dX7_mixTypes_18 rfl ?_
      refine J_aload_n 0 dX7_mixTypes_19 rfl ?_
      refine J_iload_n 1 dX7_mixTypes_20 rfl ?_
      refine J_iload_n 2 dX7_mixTypes_21 rfl ?_
      refine JM_V2 lkM_X7_170 rcv_29 dX7_mixTypes_22 (by decide) (Nat.le_of_ble_eq_true rfl) ?_
      refine kX7_typeNow (hF.wa hM) (by omega) (by omega) ?_
      rw [aOf_TQ (hF.qa hM)]
      refine J_i2l dX7_mixTypes_25 ?_
      refine JM_V1 lkM_X7_301 rcv_29 dX7_mixTypes_26 (by decide) (Nat.le_of_ble_eq_true rfl) ?_
      refine kX7_mix (fun ω1 y1 z1 => ?_)
      refine J_iinc_2 dX7_mixTypes_29 (by decide) ⟨by omega, by omega⟩ rfl ?_
      refine J_goto 12 dX7_mixTypes_32 (by decide) ?_
      exact ih (k + 1) ω1 (by omega) (hF.my y1) (by rw [z1, hz, itr]) hQ

set_option maxRecDepth 100000 in
set_option maxHeartbeats 4000000 in
theorem l_mt2 {X : Cx} {d : Nat} {Q : Option MV → Om → Prop} {ω0 : Om} {t h0 : Int} (hM : MW ω0) (ht : 0 ≤ t ∧ t < ω0 29 2) : ∀ (n k : Nat) (ω : Om), k + n = 12 → MPx LA ω0 ω → ω 29 44 = itr (fun m h => mx h (hb (vw 0 ω0) t m)) k h0 → (∀ ω', MPx LA ω0 ω' → ω' 29 44 = itr (fun m h => mx h (hb (vw 0 ω0) t m)) 12 h0 → JM X mX7_mixTypes (d + 7) Q 60 [some (vR 29), some (vI t), some (vI (12 : Nat))] [] ω') → JM X mX7_mixTypes (d + 7) Q 37 [some (vR 29), some (vI t), some (vI k)] [] ω := by
  have n8 := n8_vw hM.1
  intro n
  induction n with
  | zero =>
    intro k ω hk hF hz hQ
    have e2 : ω 29 2 = ω0 29 2 := hF.2.1 2 (by decide)
    refine J_iload_n 2 dX7_mixTypes_37 rfl ?_
    refine J_bipush 12 dX7_mixTypes_38 ⟨by decide, by decide⟩ (by decide) ?_
    refine J_icmp_ge 60 dX7_mixTypes_40 (by decide) (fun h40 => ?_) (fun h40 => ?_)
    · skip
      obtain rfl : k = 12 := by omega
      exact hQ ω hF hz
    · skip
      exfalso; omega
  | succ n ih =>
    intro k ω hk hF hz hQ
    have e2 : ω 29 2 = ω0 29 2 := hF.2.1 2 (by decide)
    refine J_iload_n 2 dX7_mixTypes_37 rfl ?_
    refine J_bipush 12 dX7_mixTypes_38 ⟨by decide, by decide⟩ (by decide) ?_
    refine J_icmp_ge 60 dX7_mixTypes_40 (by decide) (fun h40 => ?_) (fun h40 => ?_)
    · skip
      exfalso; omega
    · skip
      refine J_aload_n 0 dX7_mixTypes_43 rfl ?_
      refine J_aload_n 0 dX7_mixTypes_44 rfl ?_
      refine J_iload_n 1 dX7_mixTypes_45 rfl ?_
      refine J_iload_n 2 dX7_mixTypes_46 rfl ?_
      refine JM_V2 lkM_X7_150 rcv_29 dX7_mixTypes_47 (by decide) (Nat.le_of_ble_eq_true rfl) ?_
      refine kX7_memberOf (hF.wa hM).2 (by decide) (by omega) (by omega) ?_
      rw [← hb_in (hF.wa hM).1 (by rw [vw37]; omega) (by omega), hb_TQ (hF.qa hM)]
      refine J_i2l dX7_mixTypes_50 ?_
      refine JM_V1 lkM_X7_301 rcv_29 dX7_mixTypes_51 (by decide) (Nat.le_of_ble_eq_true rfl) ?_
      refine kX7_mix (fun ω1 y1 z1 => ?_)
      refine J_iinc_2 dX7_mixTypes_54 (by decide) ⟨by omega, by omega⟩ rfl ?_
      refine J_goto 37 dX7_mixTypes_57 (by decide) ?_
      exact ih (k + 1) ω1 (by omega) (hF.my y1) (by rw [z1, hz, itr]) hQ

set_option maxRecDepth 100000 in
set_option maxHeartbeats 4000000 in
theorem l_mt3 {X : Cx} {d : Nat} {Q : Option MV → Om → Prop} {ω0 : Om} {t h0 : Int} (hM : MW ω0) (ht : 0 ≤ t ∧ t < ω0 29 2) : ∀ (n k : Nat) (ω : Om), k + n = 6 → MPx LA ω0 ω → ω 29 44 = itr (fun m h => dgM (vw 0 ω0) t m h) k h0 → (∀ ω', MPx LA ω0 ω' → ω' 29 44 = itr (fun m h => dgM (vw 0 ω0) t m h) 6 h0 → JM X mX7_mixTypes (d + 7) Q 80 [some (vR 29), some (vI t), some (vI (6 : Nat))] [] ω') → JM X mX7_mixTypes (d + 7) Q 62 [some (vR 29), some (vI t), some (vI k)] [] ω := by
  have n8 := n8_vw hM.1
  intro n
  induction n with
  | zero =>
    intro k ω hk hF hz hQ
    have e2 : ω 29 2 = ω0 29 2 := hF.2.1 2 (by decide)
    refine J_iload_n 2 dX7_mixTypes_62 rfl ?_
    refine J_bipush 6 dX7_mixTypes_63 ⟨by decide, by decide⟩ (by decide) ?_
    refine J_icmp_ge 80 dX7_mixTypes_65 (by decide) (fun h65 => ?_) (fun h65 => ?_)
    · skip
      obtain rfl : k = 6 := by omega
      exact hQ ω hF hz
    · skip
      exfalso; omega
  | succ n ih =>
    intro k ω hk hF hz hQ
    have e2 : ω 29 2 = ω0 29 2 := hF.2.1 2 (by decide)
    refine J_iload_n 2 dX7_mixTypes_62 rfl ?_
    refine J_bipush 6 dX7_mixTypes_63 ⟨by decide, by decide⟩ (by decide) ?_
    refine J_icmp_ge 80 dX7_mixTypes_65 (by decide) (fun h65 => ?_) (fun h65 => ?_)
    · skip
      exfalso; omega
    · skip
      refine J_aload_n 0 dX7_mixTypes_68 rfl ?_
      refine J_iload_n 1 dX7_mixTypes_69 rfl ?_
      refine J_iload_n 2 dX7_mixTypes_70 rfl ?_
      refine JM_V2 lkM_X7_305 rcv_29 dX7_mixTypes_71 (by decide) (Nat.le_of_ble_eq_true rfl) ?_
      refine kX7_mixMethod (hF.wa hM) (by omega) (by omega) (fun ω1 y1 z1 => ?_)
      rw [dgM_TQ (hF.qa hM)] at z1
      refine J_iinc_2 dX7_mixTypes_74 (by decide) ⟨by omega, by omega⟩ rfl ?_
      refine J_goto 62 dX7_mixTypes_77 (by decide) ?_
      exact ih (k + 1) ω1 (by omega) (hF.tr y1) (by rw [z1, hz, itr]) hQ

set_option maxRecDepth 100000 in
set_option maxHeartbeats 4000000 in
theorem l_mt4 {X : Cx} {d : Nat} {Q : Option MV → Om → Prop} {ω0 : Om} {h0 : Int} (hM : MW ω0) : ∀ (n k : Nat) (ω : Om) (x : Option MV), k + n = (ω0 29 2).toNat → MPx LA ω0 ω → ω 29 44 = itr (fun t h => dgT (vw 0 ω0) t h) k h0 → (∀ ω', MPx LA ω0 ω' → ω' 29 44 = itr (fun t h => dgT (vw 0 ω0) t h) (ω0 29 2).toNat h0 → Q none ω') → JM X mX7_mixTypes (d + 7) Q 2 [some (vR 29), some (vI k), x] [] ω := by
  have n8 := n8_vw hM.1
  intro n
  induction n with
  | zero =>
    intro k ω x hk hF hz hQ
    have e2 : ω 29 2 = ω0 29 2 := hF.2.1 2 (by decide)
    refine J_iload_n 1 dX7_mixTypes_2 rfl ?_
    refine J_aload_n 0 dX7_mixTypes_3 rfl ?_
    refine J_getI 2 lkF_X7_112 rfl rfl rfl dX7_mixTypes_4 ?_
    refine J_icmp_ge 86 dX7_mixTypes_7 (by decide) (fun h7 => ?_) (fun h7 => ?_)
    · skip
      refine JM_vret rfl dX7_mixTypes_86 ?_
      obtain rfl : k = (ω0 29 2).toNat := by omega
      exact hQ ω hF hz
    · skip
      exfalso; omega
  | succ n ih =>
    intro k ω x hk hF hz hQ
    have e2 : ω 29 2 = ω0 29 2 := hF.2.1 2 (by decide)
    refine J_iload_n 1 dX7_mixTypes_2 rfl ?_
    refine J_aload_n 0 dX7_mixTypes_3 rfl ?_
    refine J_getI 2 lkF_X7_112 rfl rfl rfl dX7_mixTypes_4 ?_
    refine J_icmp_ge 86 dX7_mixTypes_7 (by decide) (fun h7 => ?_) (fun h7 => ?_)
    · skip
      exfalso; omega
    · skip
      refine J_iconst 0 dX7_mixTypes_10 ⟨by decide, by decide⟩ ?_
      refine J_istore_2 dX7_mixTypes_11 (by decide) rfl ?_
      refine l_mt1 hM (t := (k : Int)) (by omega) 7 0 ω (by omega) hF (h0 := ω 29 44) (by rw [itr]) (fun ω1 p1 z1 => ?_)
      refine J_iconst 0 dX7_mixTypes_35 ⟨by decide, by decide⟩ ?_
      refine J_istore_2 dX7_mixTypes_36 (by decide) rfl ?_
      refine l_mt2 hM (t := (k : Int)) (by omega) 12 0 ω1 (by omega) p1 (h0 := ω1 29 44) (by rw [itr]) (fun ω2 p2 z2 => ?_)
      refine J_iconst 0 dX7_mixTypes_60 ⟨by decide, by decide⟩ ?_
      refine J_istore_2 dX7_mixTypes_61 (by decide) rfl ?_
      refine l_mt3 hM (t := (k : Int)) (by omega) 6 0 ω2 (by omega) p2 (h0 := ω2 29 44) (by rw [itr]) (fun ω3 p3 z3 => ?_)
      refine J_iinc_1 dX7_mixTypes_80 (by decide) ⟨by omega, by omega⟩ rfl ?_
      refine J_goto 2 dX7_mixTypes_83 (by decide) ?_
      refine ih (k + 1) ω3 _ (by omega) p3 ?_ hQ
      rw [z3, z2, z1, hz, itr]
      rfl

set_option maxRecDepth 100000 in
set_option maxHeartbeats 4000000 in
theorem kX7_mixTypes {X : Cx} {d : Nat} {ω : Om} {Q : Option MV → Om → Prop} (hM : MW ω) (hQ : ∀ ω', MPx LA ω ω' → ω' 29 44 = itr (fun t h => dgT (vw 0 ω) t h) (ω 29 2).toNat (ω 29 44) → Q none ω') : Mc X mX7_mixTypes (d + 7) [vR 29] ω Q := by
  have n8 := n8_vw hM.1
  refine Mc_of [some (vR 29), none, none] (by decide +kernel) rfl (Nat.le_of_ble_eq_true rfl) ?_
  refine J_iconst 0 dX7_mixTypes_0 ⟨by decide, by decide⟩ ?_
  refine J_istore_1 dX7_mixTypes_1 (by decide) rfl ?_
  exact l_mt4 hM (ω 29 2).toNat 0 ω none (by omega) (MPx.rf _ ω) (h0 := ω 29 44) (by rw [itr]) hQ

set_option maxRecDepth 100000 in
set_option maxHeartbeats 4000000 in
theorem l_md1 {X : Cx} {d : Nat} {Q : Option MV → Om → Prop} {ω0 : Om} {b : Nat} {h0 : Int} (hM : MW ω0) (hb : (b : Int) < ω0 29 8) : ∀ (n k : Nat) (ω : Om), k + n = 6 → MyP ω0 ω → ω 29 44 = itr (fun k h => mx h (itA (vw 0 ω0) b k)) k h0 → (∀ (ω' : Om) (x : Int), MyP ω0 ω' → ω' 29 44 = itr (fun k h => mx h (itA (vw 0 ω0) b k)) 6 h0 → JM X mX7_digest (d + 10) Q 62 [some (vR 29), some (vI b), some (vI x)] [] ω') → JM X mX7_digest (d + 10) Q 39 [some (vR 29), some (vI b), some (vI (10 + k))] [] ω := by
  intro n
  induction n with
  | zero =>
    intro k ω hk hF hz hQ
    refine J_iload_n 2 dX7_digest_39 rfl ?_
    refine J_bipush 16 dX7_digest_40 ⟨by decide, by decide⟩ (by decide) ?_
    refine J_icmp_ge 62 dX7_digest_42 (by decide) (fun h42 => ?_) (fun h42 => ?_)
    · skip
      obtain rfl : k = 6 := by omega
      exact hQ ω _ hF hz
    · skip
      exfalso; omega
  | succ n ih =>
    intro k ω hk hF hz hQ
    have e8 : ω 29 8 = ω0 29 8 := hF.2 8 (by decide)
    refine J_iload_n 2 dX7_digest_39 rfl ?_
    refine J_bipush 16 dX7_digest_40 ⟨by decide, by decide⟩ (by decide) ?_
    refine J_icmp_ge 62 dX7_digest_42 (by decide) (fun h42 => ?_) (fun h42 => ?_)
    · skip
      exfalso; omega
    · skip
      refine J_aload_n 0 dX7_digest_45 rfl ?_
      refine J_aload_n 0 dX7_digest_46 rfl ?_
      refine J_iload_n 1 dX7_digest_47 rfl ?_
      refine J_iload_n 2 dX7_digest_48 rfl ?_
      refine JM_V2 lkM_X7_182 rcv_29 dX7_digest_49 (by decide) (Nat.le_of_ble_eq_true rfl) ?_
      refine kX7_bodyNow (hF.w hM) (by omega) (by omega) ?_
      unfold bdN
      rw [if_neg (by omega), itA_TQ (hF.q hM), show (10 : Int) + (k : Int) - 10 = k from by omega]
      refine J_i2l dX7_digest_52 ?_
      refine JM_V1 lkM_X7_301 rcv_29 dX7_digest_53 (by decide) (Nat.le_of_ble_eq_true rfl) ?_
      refine kX7_mix (fun ω1 y1 z1 => ?_)
      refine J_iinc_2 dX7_digest_56 (by decide) ⟨by omega, by omega⟩ rfl ?_
      refine J_goto 39 dX7_digest_59 (by decide) ?_
      rw [show (10 : Int) + (k : Int) + 1 = 10 + ((k + 1 : Nat) : Int) from by omega]
      exact ih (k + 1) ω1 (by omega) (hF.tr y1) (by rw [z1, hz, itr]) hQ

set_option maxRecDepth 100000 in
set_option maxHeartbeats 4000000 in
theorem l_md2 {X : Cx} {d : Nat} {Q : Option MV → Om → Prop} {ω0 τ : Om} {h0 : Int} (hM : MW ω0) (hT : TQ τ (vw 0 ω0)) (hI : MetI τ ω0 (6 * (τ 3 7).toNat)) : ∀ (n k : Nat) (ω : Om) (x : Option MV), k + n = (ω0 29 8).toNat → MyP ω0 ω → ω 29 44 = itr (fun b h => dgB τ b h) k h0 → (∀ (ω' : Om) (x : Option MV), MyP ω0 ω' → ω' 29 44 = itr (fun b h => dgB τ b h) (ω0 29 8).toNat h0 → JM X mX7_digest (d + 10) Q 78 [some (vR 29), some (vI ((ω0 29 8).toNat : Nat)), x] [] ω') → JM X mX7_digest (d + 10) Q 17 [some (vR 29), some (vI k), x] [] ω := by
  have h8 : 0 ≤ ω0 29 8 ∧ ω0 29 8 ≤ 40 := hM.1.2.1
  have t8 : τ 3 8 = ω0 29 8 := hT.2.1.symm
  intro n
  induction n with
  | zero =>
    intro k ω x hk hF hz hQ
    have e8 : ω 29 8 = ω0 29 8 := hF.2 8 (by decide)
    refine J_iload_n 1 dX7_digest_17 rfl ?_
    refine J_aload_n 0 dX7_digest_18 rfl ?_
    refine J_getI 8 lkF_X7_134 rfl rfl rfl dX7_digest_19 ?_
    refine J_icmp_ge 78 dX7_digest_22 (by decide) (fun h22 => ?_) (fun h22 => ?_)
    · skip
      obtain rfl : k = (ω0 29 8).toNat := by omega
      exact hQ ω _ hF hz
    · skip
      exfalso; omega
  | succ n ih =>
    intro k ω x hk hF hz hQ
    have e8 : ω 29 8 = ω0 29 8 := hF.2 8 (by decide)
    refine J_iload_n 1 dX7_digest_17 rfl ?_
    refine J_aload_n 0 dX7_digest_18 rfl ?_
    refine J_getI 8 lkF_X7_134 rfl rfl rfl dX7_digest_19 ?_
    refine J_icmp_ge 78 dX7_digest_22 (by decide) (fun h22 => ?_) (fun h22 => ?_)
    · skip
      exfalso; omega
    · skip
      refine J_aload_n 0 dX7_digest_25 rfl ?_
      refine J_aload_n 0 dX7_digest_26 rfl ?_
      refine J_iload_n 1 dX7_digest_27 rfl ?_
      refine J_iconst 0 dX7_digest_28 ⟨by decide, by decide⟩ ?_
      refine JM_V2 lkM_X7_182 rcv_29 dX7_digest_29 (by decide) (Nat.le_of_ble_eq_true rfl) ?_
      refine kX7_bodyNow (hF.w hM) (by omega) (Or.inl rfl) ?_
      unfold bdN
      rw [if_pos rfl, (hF.q hM).2.2.2.2.1 k (by omega) (by rw [vw38]; omega), hT.2.2.2.2.1 k (by omega) (by omega)]
      refine J_i2l dX7_digest_32 ?_
      refine JM_V1 lkM_X7_301 rcv_29 dX7_digest_33 (by decide) (Nat.le_of_ble_eq_true rfl) ?_
      refine kX7_mix (fun ω1 y1 z1 => ?_)
      have hF1 := hF.tr y1
      refine J_bipush 10 dX7_digest_36 ⟨by decide, by decide⟩ (by decide) ?_
      refine J_istore_2 dX7_digest_38 (by decide) rfl ?_
      refine l_md1 (hF1.w hM) (b := k) (by rw [hF1.2 8 (by decide)]; omega) 6 0 ω1 (by omega) (MyP.rf ω1) (h0 := ω1 29 44) (by rw [itr]) (fun ω2 x2 y2 z2 => ?_)
      have hF2 := hF1.tr y2
      refine J_aload_n 0 dX7_digest_62 rfl ?_
      refine J_aload_n 0 dX7_digest_63 rfl ?_
      refine J_iload_n 1 dX7_digest_64 rfl ?_
      refine JM_V1 lkM_X7_283 rcv_29 dX7_digest_65 (by decide) (Nat.le_of_ble_eq_true rfl) ?_
      refine kX7_deadNow (τ := τ) (b := (k : Int)) (fun b b0 b1 => by rw [hF2.1 51 (by decide)]; exact hI b b0 b1) (by omega) ?_
      refine J_i2l dX7_digest_68 ?_
      refine JM_V1 lkM_X7_301 rcv_29 dX7_digest_69 (by decide) (Nat.le_of_ble_eq_true rfl) ?_
      refine kX7_mix (fun ω3 y3 z3 => ?_)
      refine J_iinc_1 dX7_digest_72 (by decide) ⟨by omega, by omega⟩ rfl ?_
      refine J_goto 17 dX7_digest_75 (by decide) ?_
      refine ih (k + 1) ω3 _ (by omega) (hF2.tr y3) ?_ hQ
      rw [z3, z2, z1, hz, show itr (fun b h => dgB τ b h) (k + 1) h0 = dgB τ k (itr (fun b h => dgB τ b h) k h0) from rfl, itr_cg 6 _ (g := fun j h => mx h (itA (vw 0 ω1) (k : Int) j)) (f := fun j h => mx h (itA τ (k : Int) j)) (fun i y _ => by rw [itA_TQ (hF1.q hM), itA_TQ hT])]
      rfl

theorem mvN0 (τ : Om) : mvN τ 0 = upsT τ (12 * (τ 3 7).toNat) := by unfold mvN; rw [if_pos rfl]
theorem mvN1 (τ : Om) : mvN τ 1 = downsT τ (12 * (τ 3 7).toNat) := by unfold mvN; rw [if_neg (by decide), if_pos rfl]
theorem mvN2 (τ : Om) : mvN τ 2 = stopT τ (12 * (τ 3 7).toNat) := by unfold mvN; rw [if_neg (by decide), if_neg (by decide)]
theorem MyP_c {a b : Om} (h : MPx LA a b) : b 40 = a 40 ∧ b 30 = a 30 ∧ b 29 0 = a 29 0 ∧ b 29 12 = a 29 12 ∧ b 29 15 = a 29 15 ∧ b 29 17 = a 29 17 ∧ b 29 18 = a 29 18 := ⟨h.1 40 (by decide), h.1 30 (by decide), h.2.1 0 (by decide), h.2.1 12 (by decide), h.2.1 15 (by decide), h.2.1 17 (by decide), h.2.1 18 (by decide)⟩
theorem KM_x {a b : Om} (hK : KM a) (h : MPx LA a b) : KM b := by
  have c := MyP_c h
  unfold KM
  rw [c.2.2.2.2.1, c.1]
  exact hK
set_option maxRecDepth 100000 in
set_option maxHeartbeats 4000000 in
theorem l_md3 {X : Cx} {d : Nat} {Q : Option MV → Om → Prop} {ω0 : Om} {x : Option MV} {h0 : Int} (hM : MW ω0) (hK : KM ω0) : ∀ (n k : Nat) (ω : Om), k + n = 3 * (ω0 29 15).toNat → MPx LA ω0 ω → ω 29 44 = itr (dgC (vw 0 ω0) (ω0 40)) (k) h0 → (∀ ω', MPx LA ω0 ω' → ω' 29 44 = itr (dgC (vw 0 ω0) (ω0 40)) (3 * (ω0 29 15).toNat) h0 → JM X mX7_digest (d + 10) Q 142 [some (vR 29), some (vI (3 * (ω0 29 15).toNat : Nat)), x] [] ω') → JM X mX7_digest (d + 10) Q 111 [some (vR 29), some (vI k), x] [] ω := by
  have n8 := n8_vw hM.1
  have k6 := hK.1
  intro n
  induction n with
  | zero =>
    intro k ω hk hF hz hQ
    have e2 : ω 29 2 = ω0 29 2 := hF.2.1 2 (by decide)
    have hc := MyP_c hF
    refine J_iload_n 1 dX7_digest_111 rfl ?_
    refine J_iconst 3 dX7_digest_112 ⟨by decide, by decide⟩ ?_
    refine J_aload_n 0 dX7_digest_113 rfl ?_
    refine J_getI 15 lkF_X7_268 rfl rfl rfl dX7_digest_114 ?_
    refine J_imul dX7_digest_117 ⟨by omega, by omega⟩ ?_
    refine J_icmp_ge 142 dX7_digest_118 (by decide) (fun h118 => ?_) (fun h118 => ?_)
    · skip
      obtain rfl : k = 3 * (ω0 29 15).toNat := by omega
      exact hQ ω hF hz
    · skip
      exfalso; omega
  | succ n ih =>
    intro k ω hk hF hz hQ
    have e2 : ω 29 2 = ω0 29 2 := hF.2.1 2 (by decide)
    have hc := MyP_c hF
    refine J_iload_n 1 dX7_digest_111 rfl ?_
    refine J_iconst 3 dX7_digest_112 ⟨by decide, by decide⟩ ?_
    refine J_aload_n 0 dX7_digest_113 rfl ?_
    refine J_getI 15 lkF_X7_268 rfl rfl rfl dX7_digest_114 ?_
    refine J_imul dX7_digest_117 ⟨by omega, by omega⟩ ?_
    refine J_icmp_ge 142 dX7_digest_118 (by decide) (fun h118 => ?_) (fun h118 => ?_)
    · skip
      exfalso; omega
    · skip
      refine J_aload_n 0 dX7_digest_121 rfl ?_
      refine J_aload_n 0 dX7_digest_122 rfl ?_
      refine J_iload_n 1 dX7_digest_123 rfl ?_
      refine J_iconst 3 dX7_digest_124 ⟨by decide, by decide⟩ ?_
      refine J_idiv dX7_digest_125 (by omega) (by omega) ?_
      refine J_iload_n 1 dX7_digest_126 rfl ?_
      refine J_iconst 3 dX7_digest_127 ⟨by decide, by decide⟩ ?_
      refine J_irem dX7_digest_128 (by omega) (by omega) ?_
      refine JM_V2 lkM_X7_274 rcv_29 dX7_digest_129 (by decide) (Nat.le_of_ble_eq_true rfl) ?_
      rw [show ((k : Int) / 3) = ((k / 3 : Nat) : Int) from by omega, show ((k : Int) % 3) = ((k % 3 : Nat) : Int) from by omega]
      refine kX7_fitNow (hF.wa hM) (KM_x hK hF) (by omega) (by omega) ?_
      rw [fitN_TQ (hF.qa hM), hc.1]
      refine J_i2l dX7_digest_132 ?_
      refine JM_V1 lkM_X7_301 rcv_29 dX7_digest_133 (by decide) (Nat.le_of_ble_eq_true rfl) ?_
      refine kX7_mix (fun ω1 y1 z1 => ?_)
      refine J_iinc_1 dX7_digest_136 (by decide) ⟨by omega, by omega⟩ rfl ?_
      refine J_goto 111 dX7_digest_139 (by decide) ?_
      exact ih (k + 1) ω1 (by omega) (hF.my y1) (by rw [z1, hz, itr]; rfl) hQ

set_option maxRecDepth 100000 in
set_option maxHeartbeats 4000000 in
theorem l_md4 {X : Cx} {d : Nat} {Q : Option MV → Om → Prop} {ω0 : Om} {x : Option MV} {h0 : Int} (hM : MW ω0) (hP : 0 ≤ ω0 29 0 ∧ ω0 29 0 ≤ 40) : ∀ (n k : Nat) (ω : Om), k + n = (ω0 29 0).toNat → MPx LA ω0 ω → ω 29 44 = itr (fun k h => mx h (ω0 30 k)) (k) h0 → (∀ ω', MPx LA ω0 ω' → ω' 29 44 = itr (fun k h => mx h (ω0 30 k)) ((ω0 29 0).toNat) h0 → JM X mX7_digest (d + 10) Q 169 [some (vR 29), some (vI ((ω0 29 0).toNat : Nat)), x] [] ω') → JM X mX7_digest (d + 10) Q 144 [some (vR 29), some (vI k), x] [] ω := by
  have n8 := n8_vw hM.1
  intro n
  induction n with
  | zero =>
    intro k ω hk hF hz hQ
    have e2 : ω 29 2 = ω0 29 2 := hF.2.1 2 (by decide)
    have hc := MyP_c hF
    refine J_iload_n 1 dX7_digest_144 rfl ?_
    refine J_aload_n 0 dX7_digest_145 rfl ?_
    refine J_getI 0 lkF_X7_81 rfl rfl rfl dX7_digest_146 ?_
    refine J_icmp_ge 169 dX7_digest_149 (by decide) (fun h149 => ?_) (fun h149 => ?_)
    · skip
      obtain rfl : k = (ω0 29 0).toNat := by omega
      exact hQ ω hF hz
    · skip
      exfalso; omega
  | succ n ih =>
    intro k ω hk hF hz hQ
    have e2 : ω 29 2 = ω0 29 2 := hF.2.1 2 (by decide)
    have hc := MyP_c hF
    refine J_iload_n 1 dX7_digest_144 rfl ?_
    refine J_aload_n 0 dX7_digest_145 rfl ?_
    refine J_getI 0 lkF_X7_81 rfl rfl rfl dX7_digest_146 ?_
    refine J_icmp_ge 169 dX7_digest_149 (by decide) (fun h149 => ?_) (fun h149 => ?_)
    · skip
      exfalso; omega
    · skip
      refine J_aload_n 0 dX7_digest_152 rfl ?_
      refine J_aload_n 0 dX7_digest_153 rfl ?_
      refine J_getR lkF_X7_7 rfl dX7_digest_154 ?_
      refine J_iload_n 1 dX7_digest_157 rfl ?_
      refine J_iaload _ rfl rfl (by omega) dX7_digest_158 ?_
      refine J_i2l dX7_digest_159 ?_
      refine JM_V1 lkM_X7_301 rcv_29 dX7_digest_160 (by decide) (Nat.le_of_ble_eq_true rfl) ?_
      rw [hc.2.1]
      refine kX7_mix (fun ω1 y1 z1 => ?_)
      refine J_iinc_1 dX7_digest_163 (by decide) ⟨by omega, by omega⟩ rfl ?_
      refine J_goto 144 dX7_digest_166 (by decide) ?_
      exact ih (k + 1) ω1 (by omega) (hF.my y1) (by rw [z1, hz, itr]) hQ

set_option maxRecDepth 100000 in
set_option maxHeartbeats 4000000 in
theorem l_md5 {X : Cx} {d : Nat} {Q : Option MV → Om → Prop} {ω0 : Om} {x : Option MV} {h0 : Int} (hM : MW ω0) : ∀ (n k : Nat) (ω : Om), k + n = 9 → MPx LA ω0 ω → ω 29 44 = itr (fun w h => mx h (cntN (vw 0 ω0) (ω0 29 0) (ω0 29 12) (ω0 29 15) (ω0 29 17) (ω0 29 18) w)) (k) h0 → (∀ ω', MPx LA ω0 ω' → ω' 29 44 = itr (fun w h => mx h (cntN (vw 0 ω0) (ω0 29 0) (ω0 29 12) (ω0 29 15) (ω0 29 17) (ω0 29 18) w)) (9) h0 → JM X mX7_digest (d + 10) Q 193 [some (vR 29), some (vI (9 : Nat)), x] [] ω') → JM X mX7_digest (d + 10) Q 171 [some (vR 29), some (vI k), x] [] ω := by
  have n8 := n8_vw hM.1
  intro n
  induction n with
  | zero =>
    intro k ω hk hF hz hQ
    have e2 : ω 29 2 = ω0 29 2 := hF.2.1 2 (by decide)
    have hc := MyP_c hF
    refine J_iload_n 1 dX7_digest_171 rfl ?_
    refine J_bipush 9 dX7_digest_172 ⟨by decide, by decide⟩ (by decide) ?_
    refine J_icmp_ge 193 dX7_digest_174 (by decide) (fun h174 => ?_) (fun h174 => ?_)
    · skip
      obtain rfl : k = 9 := by omega
      exact hQ ω hF hz
    · skip
      exfalso; omega
  | succ n ih =>
    intro k ω hk hF hz hQ
    have e2 : ω 29 2 = ω0 29 2 := hF.2.1 2 (by decide)
    have hc := MyP_c hF
    refine J_iload_n 1 dX7_digest_171 rfl ?_
    refine J_bipush 9 dX7_digest_172 ⟨by decide, by decide⟩ (by decide) ?_
    refine J_icmp_ge 193 dX7_digest_174 (by decide) (fun h174 => ?_) (fun h174 => ?_)
    · skip
      exfalso; omega
    · skip
      refine J_aload_n 0 dX7_digest_177 rfl ?_
      refine J_aload_n 0 dX7_digest_178 rfl ?_
      refine J_iload_n 1 dX7_digest_179 rfl ?_
      refine JM_V1 lkM_X7_292 rcv_29 dX7_digest_180 (by decide) (Nat.le_of_ble_eq_true rfl) ?_
      refine kX7_howMany (hF.wa hM) (fun ωm pm => ?_)
      rw [cntN_TQ (hF.qa hM), hc.2.2.1, hc.2.2.2.1, hc.2.2.2.2.1, hc.2.2.2.2.2.1, hc.2.2.2.2.2.2]
      have hFm := hF.tr (pm.mono (L' := LA) (by decide))
      have zm : ωm 29 44 = ω 29 44 := pm.2.1 44 (by decide)
      refine J_i2l dX7_digest_183 ?_
      refine JM_V1 lkM_X7_301 rcv_29 dX7_digest_184 (by decide) (Nat.le_of_ble_eq_true rfl) ?_
      refine kX7_mix (fun ω1 y1 z1 => ?_)
      refine J_iinc_1 dX7_digest_187 (by decide) ⟨by omega, by omega⟩ rfl ?_
      refine J_goto 171 dX7_digest_190 (by decide) ?_
      exact ih (k + 1) ω1 (by omega) (hFm.my y1) (by rw [z1, zm, hz, itr]) hQ

set_option maxRecDepth 100000 in
set_option maxHeartbeats 4000000 in
theorem kX7_digest {X : Cx} {d : Nat} {ω : Om} {Q : Option MV → Om → Prop} (hM : MW ω) (hK : KM ω) (hP : 0 ≤ ω 29 0 ∧ ω 29 0 ≤ 40) (hQ : ∀ ω', MPx LA ω ω' → Q (some (vL (dgA (vw 0 ω) (ω 29 0) (ω 30) (ω 29 15) (ω 40) (ω 29 12) (ω 29 17) (ω 29 18)))) ω') : Mc X mX7_digest (d + 10) [vR 29] ω Q := by
  refine Mc_of [some (vR 29), none, none] (by decide +kernel) rfl (Nat.le_of_ble_eq_true rfl) ?_
  refine J_aload_n 0 dX7_digest_0 rfl ?_
  refine J_ldc2z (v := (1663)) (1663) (gm 1207 (by decide +kernel) rfl) (by decide) dX7_digest_1 ?_
  refine J_putL 44 lkF_X7_297 rfl fp_7_44 rfl rfl dX7_digest_4 ?_
  refine J_aload_n 0 dX7_digest_7 rfl ?_
  refine JM_V0 lkM_X7_310 rcv_29 dX7_digest_8 (by decide) (Nat.le_of_ble_eq_true rfl) ?_
  obtain ⟨ω1, hω1⟩ : ∃ w, w = up ω 29 44 1663 := ⟨_, rfl⟩
  rw [← hω1]
  have y1 : MyP ω ω1 := by rw [hω1]; exact ⟨Fr.up Fr.rf (by decide), fun i q => up_i q⟩
  have z1 : ω1 29 44 = 1663 := by rw [hω1, up_s]
  have hM1 := y1.w hM
  refine kX7_mixTypes hM1 (fun ω2 p2 z2 => ?_)
  have q2 : MPx LA ω ω2 := ((MPx.rf _ ω).my y1).tr p2
  refine J_aload_n 0 dX7_digest_11 rfl ?_
  refine JM_V0 lkM_X7_280 rcv_29 dX7_digest_12 (by decide) (Nat.le_of_ble_eq_true rfl) ?_
  refine kX7_layMet (q2.wa hM) (fun ω3 p3 i3 m3 => ?_)
  have q3 : MPx LA ω ω3 := q2.tr (p3.mono (by decide))
  have z3 : ω3 29 44 = ω2 29 44 := p3.2.1 44 (by decide)
  refine J_iconst 0 dX7_digest_15 ⟨by decide, by decide⟩ ?_
  refine J_istore_1 dX7_digest_16 (by decide) rfl ?_
  refine l_md2 (q3.wa hM) (τ := vw 0 ω2) (p3.q (n8_vw (q2.wa hM).1).2 (by decide) (by decide)) i3 (ω3 29 8).toNat 0 ω3 _ (by omega) (MyP.rf ω3) (h0 := ω3 29 44) (by rw [itr]) (fun ω4 x4 y4 z4 => ?_)
  have q4 : MPx LA ω ω4 := q3.my y4
  refine J_aload_n 0 dX7_digest_78 rfl ?_
  refine JM_V0 lkM_X7_265 rcv_29 dX7_digest_79 (by decide) (Nat.le_of_ble_eq_true rfl) ?_
  refine kX7_layMoves (q4.wa hM) (fun ω5 p5 r5 s5 t5 => ?_)
  have q5 : MPx LA ω ω5 := q4.tr (p5.mono (by decide))
  have z5 : ω5 29 44 = ω4 29 44 := p5.2.1 44 (by decide)
  refine J_aload_n 0 dX7_digest_82 rfl ?_
  refine J_aload_n 0 dX7_digest_83 rfl ?_
  refine J_getI 39 lkF_X7_256 rfl rfl rfl dX7_digest_84 ?_
  refine J_i2l dX7_digest_87 ?_
  refine JM_V1 lkM_X7_301 rcv_29 dX7_digest_88 (by decide) (Nat.le_of_ble_eq_true rfl) ?_
  rw [r5]
  refine kX7_mix (fun ω6 y6 z6 => ?_)
  refine J_aload_n 0 dX7_digest_91 rfl ?_
  refine J_aload_n 0 dX7_digest_92 rfl ?_
  refine J_getI 40 lkF_X7_259 rfl rfl rfl dX7_digest_93 ?_
  refine J_i2l dX7_digest_96 ?_
  refine JM_V1 lkM_X7_301 rcv_29 dX7_digest_97 (by decide) (Nat.le_of_ble_eq_true rfl) ?_
  rw [y6.2 40 (by decide), s5]
  refine kX7_mix (fun ω7 y7 z7 => ?_)
  refine J_aload_n 0 dX7_digest_100 rfl ?_
  refine J_aload_n 0 dX7_digest_101 rfl ?_
  refine J_getI 41 lkF_X7_262 rfl rfl rfl dX7_digest_102 ?_
  refine J_i2l dX7_digest_105 ?_
  refine JM_V1 lkM_X7_301 rcv_29 dX7_digest_106 (by decide) (Nat.le_of_ble_eq_true rfl) ?_
  rw [y7.2 41 (by decide), y6.2 41 (by decide), t5]
  refine kX7_mix (fun ω8 y8 z8 => ?_)
  have q8 : MPx LA ω ω8 := ((q5.my y6).my y7).my y8
  refine J_iconst 0 dX7_digest_109 ⟨by decide, by decide⟩ ?_
  refine J_istore_1 dX7_digest_110 (by decide) rfl ?_
  refine l_md3 (ω0 := ω8) (q8.wa hM) (KM_x hK q8) (3 * (ω8 29 15).toNat) 0 ω8 (by omega) (MPx.rf _ ω8) (h0 := ω8 29 44) (by rw [itr]) (fun ω9 p9 z9 => ?_)
  have q9 := q8.tr p9
  refine J_iconst 0 dX7_digest_142 ⟨by decide, by decide⟩ ?_
  refine J_istore_1 dX7_digest_143 (by decide) rfl ?_
  refine l_md4 (ω0 := ω9) (q9.wa hM) (by rw [q9.2.1 0 (by decide)]; exact hP) (ω9 29 0).toNat 0 ω9 (by omega) (MPx.rf _ ω9) (h0 := ω9 29 44) (by rw [itr]) (fun ωa pa za => ?_)
  have qa := q9.tr pa
  refine J_iconst 0 dX7_digest_169 ⟨by decide, by decide⟩ ?_
  refine J_istore_1 dX7_digest_170 (by decide) rfl ?_
  refine l_md5 (ω0 := ωa) (qa.wa hM) 9 0 ωa (by omega) (MPx.rf _ ωa) (h0 := ωa 29 44) (by rw [itr]) (fun ωb pb zb => ?_)
  have qb := qa.tr pb
  refine J_aload_n 0 dX7_digest_193 rfl ?_
  refine J_getL 44 lkF_X7_297 rfl rfl dX7_digest_194 ?_
  refine JM_lret rfl dX7_digest_197 ?_
  have e := hQ ωb qb
  have c9 := MyP_c q9
  have ca := MyP_c qa
  have c8 := MyP_c q8
  rw [zb, za, z9, z8, z7, z6, z5, z4, z3, z2, z1]
  unfold dgA at e
  rw [mvN0, mvN1, mvN2, vw37, vw38] at e
  have T1 := y1.q hM
  have T2 := q2.qa hM
  have T4 := q4.qa hM
  have T8 := q8.qa hM
  have Ta := qa.qa hM
  have n1 : ω1 29 2 = ω 29 2 := y1.2 2 (by decide)
  have n3 : ω3 29 8 = ω 29 8 := q3.2.1 8 (by decide)
  have n4 : ω4 29 2 = ω 29 2 := q4.2.1 2 (by decide)
  have M := mvs_TQ T4 (12 * (ω 29 2).toNat)
  rw [n1, n3, n4, M.1, M.2.1, M.2.2, c8.2.2.2.2.1, c9.2.2.1, ca.2.2.1, ca.2.2.2.1, ca.2.2.2.2.1, ca.2.2.2.2.2.1, ca.2.2.2.2.2.2]
  rw [itr_cg (ω 29 2).toNat 1663 (g := fun t h => dgT (vw 0 ω1) t h) (f := fun t h => dgT (vw 0 ω) t h) (fun i y _ => dgT_TQ T1 _ y)]
  rw [itr_cg (ω 29 8).toNat _ (g := fun b h => dgB (vw 0 ω2) b h) (f := fun b h => dgB (vw 0 ω) b h) (fun i y hi => dgB_TQ T2 (by rw [vw38]; omega) y)]
  rw [itr_cg (3 * (ω 29 15).toNat) _ (g := dgC (vw 0 ω8) (ω8 40)) (f := dgC (vw 0 ω) (ω 40)) (fun i y _ => by unfold dgC; rw [fitN_TQ T8, c8.1])]
  rw [itr_cg (ω 29 0).toNat _ (g := fun k h => mx h (ω9 30 k)) (f := fun k h => mx h (ω 30 k)) (fun i y _ => by rw [c9.2.1])]
  rw [itr_cg 9 _ (g := fun w h => mx h (cntN (vw 0 ωa) (ω 29 0) (ω 29 12) (ω 29 15) (ω 29 17) (ω 29 18) w)) (f := fun w h => mx h (cntN (vw 0 ω) (ω 29 0) (ω 29 12) (ω 29 15) (ω 29 17) (ω 29 18) w)) (fun i y _ => by rw [cntN_TQ Ta])]
  exact e
