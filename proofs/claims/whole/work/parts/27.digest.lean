/-! the digest -/
def mx (h v : Int) : Int := lAdd (lMul 31 h) v
/-- g, done for 0 to k - 1 -/
def itr (g : Nat → Int → Int) : Nat → Int → Int
  | 0, h => h
  | k + 1, h => g k (itr g k h)
theorem itr_cg {g f : Nat → Int → Int} : ∀ (k : Nat) (h : Int), (∀ i h, i < k → g i h = f i h) → itr g k h = itr f k h := by
  intro k
  induction k with
  | zero => intro h _; rfl
  | succ k ih => intro h q; rw [itr, itr, ih h (fun i h hi => q i h (by omega)), q k _ (by omega)]
def evG (l : List Int) : Nat → Int → Int := fun i h => mx (mx h (evN l i % 4)) (evN l i / 4)
def dgM (τ : Om) (t m : Int) (h : Int) : Int := itr (evG (evs τ t m)) (evs τ t m).length (mx (mx (mx (mx h (ansN τ t m 0)) (ansN τ t m 1)) (trN (trT τ t m) 0)) (trN (trT τ t m) 1))
def dgT (τ : Om) (t : Int) (h : Int) : Int := itr (fun m h => dgM τ t m h) 6 (itr (fun m h => mx h (hb τ t m)) 12 (itr (fun w h => mx h (aOf τ t w)) 7 h))
def dgB (τ : Om) (b : Int) (h : Int) : Int := mx (itr (fun k h => mx h (itA τ b k)) 6 (mx h (τ 17 b))) (ddN τ b)
def dgC (τ : Om) (cf : Int → Int) : Nat → Int → Int := fun k h => mx h (fitN τ (cf ((k / 3 : Nat) : Int)) ((k % 3 : Nat) : Int))
/-- page's size and codes, contracts, kept, done, undone -/
def dgA (τ : Om) (ps : Int) (pg : Int → Int) (cn : Int) (cf : Int → Int) (kp dn un : Int) : Int :=
  itr (fun w h => mx h (cntN τ ps kp cn dn un w)) 9 (itr (fun k h => mx h (pg k)) ps.toNat (itr (dgC τ cf) (3 * cn.toNat)
   (mx (mx (mx (itr (fun b h => dgB τ b h) (τ 3 8).toNat (itr (fun t h => dgT τ t h) (τ 3 7).toNat 1663)) (mvN τ 0)) (mvN τ 1)) (mvN τ 2))))
set_option maxRecDepth 100000 in
set_option maxHeartbeats 4000000 in
theorem kX6_with {X : Cx} {d : Nat} {ω : Om} {Q : Option MV → Om → Prop} {h v : Int} (hQ : Q (some (vL (mx h v))) ω) : Mc X mX6_with d [vL h, vL v] ω Q := by
  refine Mc_of [some (vL h), none, some (vL v), none] (by decide +kernel) rfl (Nat.le_of_ble_eq_true rfl) ?_
  refine J_ldc2z (v := (31)) (31) (gm 778 (by decide +kernel) rfl) (by decide) dX6_with_0 ?_
  refine J_lload_n 0 dX6_with_3 rfl ?_
  refine J_lmul dX6_with_4 ?_
  refine J_lload_n 2 dX6_with_5 rfl ?_
  refine J_ladd dX6_with_6 ?_
  refine JM_lret rfl dX6_with_7 ?_
  exact hQ

set_option maxRecDepth 100000 in
set_option maxHeartbeats 4000000 in
theorem l_wm {X : Cx} {d : Nat} {Q : Option MV → Om → Prop} {ω : Om} {t m s0 h0 sz : Int} {l : List Int} (ht : 0 ≤ t ∧ t < 8) (hm : 0 ≤ m ∧ m < 6) (hsz : sz = l.length ∨ (sz = -1 ∧ l.length = 0)) (hl : l.length ≤ 60) (hev : ∀ i : Int, 0 ≤ i → i < l.length → ω 23 ((t * 6 + m) * 60 + i) = evN l i ∧ 0 ≤ evN l i ∧ evN l i < 400) : ∀ (n i : Nat) (x : Option MV) (z : Int), i + n = l.length → z = itr (evG l) i h0 → Q (some (vL (itr (evG l) l.length h0))) ω → JM X mX6_withMethod (d + 2) Q 70 [some (vR 0), some (vL s0), none, some (vI t), some (vI m), some (vL z), none, some (vI sz), some (vI i), x] [] ω := by
  intro n
  induction n with
  | zero =>
    intro i x z hi hz hQ
    refine J_iload 8 dX6_withMethod_70 rfl ?_
    refine J_iload 7 dX6_withMethod_72 rfl ?_
    refine J_icmp_ge 124 dX6_withMethod_74 (by decide) (fun h74 => ?_) (fun h74 => ?_)
    · skip
      refine J_lload 5 dX6_withMethod_124 rfl ?_
      refine JM_lret rfl dX6_withMethod_126 ?_
      rw [hz, show i = l.length from by omega]; exact hQ
    · skip
      exfalso; omega
  | succ n ih =>
    intro i x z hi hz hQ
    refine J_iload 8 dX6_withMethod_70 rfl ?_
    refine J_iload 7 dX6_withMethod_72 rfl ?_
    refine J_icmp_ge 124 dX6_withMethod_74 (by decide) (fun h74 => ?_) (fun h74 => ?_)
    · skip
      exfalso; omega
    · skip
      refine J_iload 8 dX6_withMethod_77 rfl ?_
      refine J_bipush 60 dX6_withMethod_79 ⟨by decide, by decide⟩ (by decide) ?_
      refine J_icmp_ge 124 dX6_withMethod_81 (by decide) (fun h81 => ?_) (fun h81 => ?_)
      · skip
        exfalso; omega
      · skip
        refine J_aload_n 0 dX6_withMethod_84 rfl ?_
        refine J_getR lkF_X6_40 rfl dX6_withMethod_85 ?_
        refine J_iload_n 3 dX6_withMethod_88 rfl ?_
        refine J_iload 4 dX6_withMethod_89 rfl ?_
        refine J_iload 8 dX6_withMethod_91 rfl ?_
        refine JM_V3 lkM_X6_157 rcv_5 dX6_withMethod_93 (by decide) (Nat.le_of_ble_eq_true rfl) ?_
        refine kX3_eventAt (by omega) (by omega) (by omega) ?_
        have hv := hev i (by omega) (by omega)
        rw [hv.1]
        refine J_istore_9 dX6_withMethod_96 (by decide) rfl ?_
        refine J_lload 5 dX6_withMethod_98 rfl ?_
        refine J_iload 9 dX6_withMethod_100 rfl ?_
        refine J_iconst 4 dX6_withMethod_102 ⟨by decide, by decide⟩ ?_
        refine J_irem dX6_withMethod_103 (by omega) (by omega) ?_
        refine J_i2l dX6_withMethod_104 ?_
        refine JM_S2 lkM_X6_221 dX6_withMethod_105 (by decide) (Nat.le_of_ble_eq_true rfl) ?_
        refine kX6_with ?_
        refine J_iload 9 dX6_withMethod_108 rfl ?_
        refine J_iconst 4 dX6_withMethod_110 ⟨by decide, by decide⟩ ?_
        refine J_idiv dX6_withMethod_111 (by omega) (by omega) ?_
        refine J_i2l dX6_withMethod_112 ?_
        refine JM_S2 lkM_X6_221 dX6_withMethod_113 (by decide) (Nat.le_of_ble_eq_true rfl) ?_
        refine kX6_with ?_
        refine J_lstore_5 dX6_withMethod_116 (by decide) rfl ?_
        refine J_iinc_8 dX6_withMethod_118 (by decide) ⟨by omega, by omega⟩ rfl ?_
        refine J_goto 70 dX6_withMethod_121 (by decide) ?_
        exact ih (i + 1) _ _ (by omega) (by rw [hz, itr]; rfl) hQ

theorem row_sz {ω : Om} {t m : Int} (hC : WfT ω) (hS : SVv ω ω) (ht : 0 ≤ t ∧ t < ω 3 7) (hm : 0 ≤ m ∧ m < 6) :
    ω 24 (t * 6 + m) = trN (trT ω t m) 0 ∧ ω 25 (t * 6 + m) = trN (trT ω t m) 1 ∧ (trN (trT ω t m) 0 = (evs ω t m).length ∨ (trN (trT ω t m) 0 = -1 ∧ (evs ω t m).length = 0)) ∧ (evs ω t m).length ≤ 60 ∧
    ∀ i : Int, 0 ≤ i → i < (evs ω t m).length → ω 23 ((t * 6 + m) * 60 + i) = evN (evs ω t m) i ∧ 0 ≤ evN (evs ω t m) i ∧ evN (evs ω t m) i < 400 := by
  have hrow := hS.1 t m ht.1 ht.2 hm.1 hm.2
  unfold evs
  cases hto : trT ω t m with
  | none =>
    rw [hto] at hrow
    exact ⟨hrow.1, hrow.2, Or.inr ⟨rfl, rfl⟩, Nat.zero_le _, fun i i0 i1 => by simp at i1; omega⟩
  | some s =>
    rw [hto] at hrow
    have hok := tr_ok hC hm hto
    refine ⟨hrow.1, hrow.2.1, Or.inl rfl, hok.1.2.2.2.2, fun i i0 i1 => ?_⟩
    have hN := Arr_N hrow.2.2 ⟨i0, i1⟩
    have hE : EvOk (evN s.1 i) := by
      unfold evN
      rw [List.getD_eq_getElem?_getD, List.getElem?_eq_getElem (by simp only at i1; omega)]
      exact hok.2.1 _ (List.getElem_mem _)
    exact ⟨hN, hE.1, hE.2.1⟩
set_option maxRecDepth 100000 in
set_option maxHeartbeats 4000000 in
theorem kX6_withMethod {X : Cx} {d : Nat} {ω : Om} {Q : Option MV → Om → Prop} {s0 t m : Int} (hC : CS ω) (hS : SVv ω ω) (ht : 0 ≤ t ∧ t < ω 3 7) (hm : 0 ≤ m ∧ m < 6) (hQ : Q (some (vL (dgM ω t m s0))) ω) : Mc X mX6_withMethod (d + 2) [vR 0, vL s0, vI t, vI m] ω Q := by
  have n8 := hC.1.1
  have hr := row_sz hC.1 hS ht hm
  refine Mc_of [some (vR 0), some (vL s0), none, some (vI t), some (vI m), none, none, none, none, none] (by decide +kernel) rfl (Nat.le_of_ble_eq_true rfl) ?_
  refine J_lload_n 1 dX6_withMethod_0 rfl ?_
  refine J_aload_n 0 dX6_withMethod_1 rfl ?_
  refine J_iload_n 3 dX6_withMethod_2 rfl ?_
  refine J_iload 4 dX6_withMethod_3 rfl ?_
  refine J_iconst 0 dX6_withMethod_5 ⟨by decide, by decide⟩ ?_
  refine JM_V3 lkM_X6_244 rcv_0 dX6_withMethod_6 (by decide) (Nat.le_of_ble_eq_true rfl) ?_
  refine kX6_answer hC ?_
  unfold aAns
  rw [if_pos (by omega), if_pos (by decide)]
  refine J_i2l dX6_withMethod_9 ?_
  refine JM_S2 lkM_X6_221 dX6_withMethod_10 (by decide) (Nat.le_of_ble_eq_true rfl) ?_
  refine kX6_with ?_
  refine J_lstore_5 dX6_withMethod_13 (by decide) rfl ?_
  refine J_lload 5 dX6_withMethod_15 rfl ?_
  refine J_aload_n 0 dX6_withMethod_17 rfl ?_
  refine J_iload_n 3 dX6_withMethod_18 rfl ?_
  refine J_iload 4 dX6_withMethod_19 rfl ?_
  refine J_iconst 1 dX6_withMethod_21 ⟨by decide, by decide⟩ ?_
  refine JM_V3 lkM_X6_244 rcv_0 dX6_withMethod_22 (by decide) (Nat.le_of_ble_eq_true rfl) ?_
  refine kX6_answer hC ?_
  unfold aAns
  rw [if_pos (by omega), if_pos (by decide)]
  refine J_i2l dX6_withMethod_25 ?_
  refine JM_S2 lkM_X6_221 dX6_withMethod_26 (by decide) (Nat.le_of_ble_eq_true rfl) ?_
  refine kX6_with ?_
  refine J_lstore_5 dX6_withMethod_29 (by decide) rfl ?_
  refine J_aload_n 0 dX6_withMethod_31 rfl ?_
  refine J_getR lkF_X6_40 rfl dX6_withMethod_32 ?_
  refine J_iload_n 3 dX6_withMethod_35 rfl ?_
  refine J_iload 4 dX6_withMethod_36 rfl ?_
  refine JM_V2 lkM_X6_151 rcv_5 dX6_withMethod_38 (by decide) (Nat.le_of_ble_eq_true rfl) ?_
  refine kX3_sizeOf (by omega) (by omega) ?_
  rw [hr.1]
  refine J_istore_7 dX6_withMethod_41 (by decide) rfl ?_
  refine J_lload 5 dX6_withMethod_43 rfl ?_
  refine J_iload 7 dX6_withMethod_45 rfl ?_
  refine J_i2l dX6_withMethod_47 ?_
  refine JM_S2 lkM_X6_221 dX6_withMethod_48 (by decide) (Nat.le_of_ble_eq_true rfl) ?_
  refine kX6_with ?_
  refine J_aload_n 0 dX6_withMethod_51 rfl ?_
  refine J_getR lkF_X6_40 rfl dX6_withMethod_52 ?_
  refine J_iload_n 3 dX6_withMethod_55 rfl ?_
  refine J_iload 4 dX6_withMethod_56 rfl ?_
  refine JM_V2 lkM_X6_154 rcv_5 dX6_withMethod_58 (by decide) (Nat.le_of_ble_eq_true rfl) ?_
  refine kX3_depthOf (by omega) (by omega) ?_
  rw [hr.2.1]
  refine J_i2l dX6_withMethod_61 ?_
  refine JM_S2 lkM_X6_221 dX6_withMethod_62 (by decide) (Nat.le_of_ble_eq_true rfl) ?_
  refine kX6_with ?_
  refine J_lstore_5 dX6_withMethod_65 (by decide) rfl ?_
  refine J_iconst 0 dX6_withMethod_67 ⟨by decide, by decide⟩ ?_
  refine J_istore_8 dX6_withMethod_68 (by decide) rfl ?_
  exact l_wm (by omega) hm hr.2.2.1 hr.2.2.2.1 hr.2.2.2.2 (evs ω t m).length 0 none _ (by omega) (by rw [itr]) (by unfold dgM at hQ; exact hQ)

set_option maxRecDepth 100000 in
set_option maxHeartbeats 4000000 in
theorem l_wt1 {X : Cx} {d : Nat} {Q : Option MV → Om → Prop} {ω : Om} {t s0 h0 : Int} (hC : CS ω) : ∀ (n k : Nat) (z : Int), k + n = 7 → z = itr (fun w h => mx h (aOf ω t w)) k h0 → JM X mX6_withType (d + 3) Q 34 [some (vR 0), some (vL s0), none, some (vI t), some (vL (itr (fun w h => mx h (aOf ω t w)) 7 h0)), none, some (vI (7 : Nat))] [] ω → JM X mX6_withType (d + 3) Q 6 [some (vR 0), some (vL s0), none, some (vI t), some (vL (z)), none, some (vI k)] [] ω := by
  intro n
  induction n with
  | zero =>
    intro k z hk hz hQ
    refine J_iload 6 dX6_withType_6 rfl ?_
    refine J_bipush 6 dX6_withType_8 ⟨by decide, by decide⟩ (by decide) ?_
    refine J_icmp_gt 34 dX6_withType_10 (by decide) (fun h10 => ?_) (fun h10 => ?_)
    · skip
      obtain rfl : k = 7 := by omega
      rw [hz]
      exact hQ
    · skip
      exfalso; omega
  | succ n ih =>
    intro k z hk hz hQ
    refine J_iload 6 dX6_withType_6 rfl ?_
    refine J_bipush 6 dX6_withType_8 ⟨by decide, by decide⟩ (by decide) ?_
    refine J_icmp_gt 34 dX6_withType_10 (by decide) (fun h10 => ?_) (fun h10 => ?_)
    · skip
      exfalso; omega
    · skip
      refine J_lload 4 dX6_withType_13 rfl ?_
      refine J_aload_n 0 dX6_withType_15 rfl ?_
      refine J_iload_n 3 dX6_withType_16 rfl ?_
      refine J_iload 6 dX6_withType_17 rfl ?_
      refine JM_V2 lkM_X6_234 rcv_0 dX6_withType_19 (by decide) (Nat.le_of_ble_eq_true rfl) ?_
      refine kX6_of hC ?_
      refine J_i2l dX6_withType_22 ?_
      refine JM_S2 lkM_X6_221 dX6_withType_23 (by decide) (Nat.le_of_ble_eq_true rfl) ?_
      refine kX6_with ?_
      refine J_lstore_4 dX6_withType_26 (by decide) rfl ?_
      refine J_iinc_6 dX6_withType_28 (by decide) ⟨by omega, by omega⟩ rfl ?_
      refine J_goto 6 dX6_withType_31 (by decide) ?_
      exact ih (k + 1) _ (by omega) (by rw [hz, itr]) hQ

set_option maxRecDepth 100000 in
set_option maxHeartbeats 4000000 in
theorem l_wt2 {X : Cx} {d : Nat} {Q : Option MV → Om → Prop} {ω : Om} {t s0 h0 : Int} (hC : CS ω) (ht : 0 ≤ t ∧ t < ω 3 7) : ∀ (n k : Nat) (z : Int), k + n = 12 → z = itr (fun m h => mx h (hb ω t m)) k h0 → JM X mX6_withType (d + 3) Q 65 [some (vR 0), some (vL s0), none, some (vI t), some (vL (itr (fun m h => mx h (hb ω t m)) 12 h0)), none, some (vI (12 : Nat))] [] ω → JM X mX6_withType (d + 3) Q 37 [some (vR 0), some (vL s0), none, some (vI t), some (vL (z)), none, some (vI k)] [] ω := by
  intro n
  induction n with
  | zero =>
    intro k z hk hz hQ
    refine J_iload 6 dX6_withType_37 rfl ?_
    refine J_bipush 12 dX6_withType_39 ⟨by decide, by decide⟩ (by decide) ?_
    refine J_icmp_ge 65 dX6_withType_41 (by decide) (fun h41 => ?_) (fun h41 => ?_)
    · skip
      obtain rfl : k = 12 := by omega
      rw [hz]
      exact hQ
    · skip
      exfalso; omega
  | succ n ih =>
    intro k z hk hz hQ
    refine J_iload 6 dX6_withType_37 rfl ?_
    refine J_bipush 12 dX6_withType_39 ⟨by decide, by decide⟩ (by decide) ?_
    refine J_icmp_ge 65 dX6_withType_41 (by decide) (fun h41 => ?_) (fun h41 => ?_)
    · skip
      exfalso; omega
    · skip
      refine J_lload 4 dX6_withType_44 rfl ?_
      refine J_aload_n 0 dX6_withType_46 rfl ?_
      refine J_iload_n 3 dX6_withType_47 rfl ?_
      refine J_iload 6 dX6_withType_48 rfl ?_
      refine JM_V2 lkM_X6_237 rcv_0 dX6_withType_50 (by decide) (Nat.le_of_ble_eq_true rfl) ?_
      refine kX6_has hC ?_
      unfold aHas
      rw [if_pos (by omega)]
      refine J_i2l dX6_withType_53 ?_
      refine JM_S2 lkM_X6_221 dX6_withType_54 (by decide) (Nat.le_of_ble_eq_true rfl) ?_
      refine kX6_with ?_
      refine J_lstore_4 dX6_withType_57 (by decide) rfl ?_
      refine J_iinc_6 dX6_withType_59 (by decide) ⟨by omega, by omega⟩ rfl ?_
      refine J_goto 37 dX6_withType_62 (by decide) ?_
      exact ih (k + 1) _ (by omega) (by rw [hz, itr]) hQ

set_option maxRecDepth 100000 in
set_option maxHeartbeats 4000000 in
theorem l_wt3 {X : Cx} {d : Nat} {Q : Option MV → Om → Prop} {ω : Om} {t s0 h0 : Int} (hC : CS ω) (hS : SVv ω ω) (ht : 0 ≤ t ∧ t < ω 3 7) : ∀ (n k : Nat) (z : Int), k + n = 6 → z = itr (fun m h => dgM ω t m h) k h0 → JM X mX6_withType (d + 3) Q 92 [some (vR 0), some (vL s0), none, some (vI t), some (vL (itr (fun m h => dgM ω t m h) 6 h0)), none, some (vI (6 : Nat))] [] ω → JM X mX6_withType (d + 3) Q 68 [some (vR 0), some (vL s0), none, some (vI t), some (vL (z)), none, some (vI k)] [] ω := by
  intro n
  induction n with
  | zero =>
    intro k z hk hz hQ
    refine J_iload 6 dX6_withType_68 rfl ?_
    refine J_bipush 6 dX6_withType_70 ⟨by decide, by decide⟩ (by decide) ?_
    refine J_icmp_ge 92 dX6_withType_72 (by decide) (fun h72 => ?_) (fun h72 => ?_)
    · skip
      obtain rfl : k = 6 := by omega
      rw [hz]
      exact hQ
    · skip
      exfalso; omega
  | succ n ih =>
    intro k z hk hz hQ
    refine J_iload 6 dX6_withType_68 rfl ?_
    refine J_bipush 6 dX6_withType_70 ⟨by decide, by decide⟩ (by decide) ?_
    refine J_icmp_ge 92 dX6_withType_72 (by decide) (fun h72 => ?_) (fun h72 => ?_)
    · skip
      exfalso; omega
    · skip
      refine J_aload_n 0 dX6_withType_75 rfl ?_
      refine J_lload 4 dX6_withType_76 rfl ?_
      refine J_iload_n 3 dX6_withType_78 rfl ?_
      refine J_iload 6 dX6_withType_79 rfl ?_
      refine JM_V3 lkM_X6_240 rcv_0 dX6_withType_81 (by decide) (Nat.le_of_ble_eq_true rfl) ?_
      refine kX6_withMethod hC hS ht (by omega) ?_
      refine J_lstore_4 dX6_withType_84 (by decide) rfl ?_
      refine J_iinc_6 dX6_withType_86 (by decide) ⟨by omega, by omega⟩ rfl ?_
      refine J_goto 68 dX6_withType_89 (by decide) ?_
      exact ih (k + 1) _ (by omega) (by rw [hz, itr]) hQ

set_option maxRecDepth 100000 in
set_option maxHeartbeats 4000000 in
theorem kX6_withType {X : Cx} {d : Nat} {ω : Om} {Q : Option MV → Om → Prop} {s0 t : Int} (hC : CS ω) (hS : SVv ω ω) (ht : 0 ≤ t ∧ t < ω 3 7) (hQ : Q (some (vL (dgT ω t s0))) ω) : Mc X mX6_withType (d + 3) [vR 0, vL s0, vI t] ω Q := by
  unfold dgT at hQ
  refine Mc_of [some (vR 0), some (vL s0), none, some (vI t), none, none, none] (by decide +kernel) rfl (Nat.le_of_ble_eq_true rfl) ?_
  refine J_lload_n 1 dX6_withType_0 rfl ?_
  refine J_lstore_4 dX6_withType_1 (by decide) rfl ?_
  refine J_iconst 0 dX6_withType_3 ⟨by decide, by decide⟩ ?_
  refine J_istore_6 dX6_withType_4 (by decide) rfl ?_
  refine l_wt1 hC 7 0 s0 (by omega) (h0 := s0) (by rw [itr]) ?_
  refine J_iconst 0 dX6_withType_34 ⟨by decide, by decide⟩ ?_
  refine J_istore_6 dX6_withType_35 (by decide) rfl ?_
  refine l_wt2 hC ht 12 0 _ (by omega) (h0 := itr (fun w h => mx h (aOf ω t w)) 7 s0) (by rw [itr]) ?_
  refine J_iconst 0 dX6_withType_65 ⟨by decide, by decide⟩ ?_
  refine J_istore_6 dX6_withType_66 (by decide) rfl ?_
  refine l_wt3 hC hS ht 6 0 _ (by omega) (h0 := itr (fun m h => mx h (hb ω t m)) 12 (itr (fun w h => mx h (aOf ω t w)) 7 s0)) (by rw [itr]) ?_
  refine J_lload 4 dX6_withType_92 rfl ?_
  refine JM_lret rfl dX6_withType_94 ?_
  exact hQ

set_option maxRecDepth 100000 in
set_option maxHeartbeats 4000000 in
theorem l_wb {X : Cx} {d : Nat} {Q : Option MV → Om → Prop} {ω : Om} {b s0 h0 : Int} (hC : CS ω) (hb : 0 ≤ b ∧ b < ω 3 8) : ∀ (n k : Nat) (z : Int), k + n = 6 → z = itr (fun k h => mx h (itA ω b k)) k h0 → JM X mX6_withBody (d + 3) Q 47 [some (vR 0), some (vL s0), none, some (vI b), some (vL (itr (fun k h => mx h (itA ω b k)) 6 h0)), none, some (vI (6 : Nat))] [] ω → JM X mX6_withBody (d + 3) Q 16 [some (vR 0), some (vL s0), none, some (vI b), some (vL (z)), none, some (vI k)] [] ω := by
  intro n
  induction n with
  | zero =>
    intro k z hk hz hQ
    refine J_iload 6 dX6_withBody_16 rfl ?_
    refine J_bipush 6 dX6_withBody_18 ⟨by decide, by decide⟩ (by decide) ?_
    refine J_icmp_ge 47 dX6_withBody_20 (by decide) (fun h20 => ?_) (fun h20 => ?_)
    · skip
      obtain rfl : k = 6 := by omega
      rw [hz]
      exact hQ
    · skip
      exfalso; omega
  | succ n ih =>
    intro k z hk hz hQ
    refine J_iload 6 dX6_withBody_16 rfl ?_
    refine J_bipush 6 dX6_withBody_18 ⟨by decide, by decide⟩ (by decide) ?_
    refine J_icmp_ge 47 dX6_withBody_20 (by decide) (fun h20 => ?_) (fun h20 => ?_)
    · skip
      exfalso; omega
    · skip
      refine J_lload 4 dX6_withBody_23 rfl ?_
      refine J_aload_n 0 dX6_withBody_25 rfl ?_
      refine J_iload_n 3 dX6_withBody_26 rfl ?_
      refine J_bipush 10 dX6_withBody_27 ⟨by decide, by decide⟩ (by decide) ?_
      refine J_iload 6 dX6_withBody_29 rfl ?_
      refine J_iadd dX6_withBody_31 ⟨by omega, by omega⟩ ?_
      refine JM_V2 lkM_X6_247 rcv_0 dX6_withBody_32 (by decide) (Nat.le_of_ble_eq_true rfl) ?_
      refine kX6_body hC ?_
      unfold aBody bdN
      rw [if_pos (by omega), if_pos (by omega), if_neg (by omega), show (10 : Int) + (k : Int) - 10 = k from by omega]
      refine J_i2l dX6_withBody_35 ?_
      refine JM_S2 lkM_X6_221 dX6_withBody_36 (by decide) (Nat.le_of_ble_eq_true rfl) ?_
      refine kX6_with ?_
      refine J_lstore_4 dX6_withBody_39 (by decide) rfl ?_
      refine J_iinc_6 dX6_withBody_41 (by decide) ⟨by omega, by omega⟩ rfl ?_
      refine J_goto 16 dX6_withBody_44 (by decide) ?_
      exact ih (k + 1) _ (by omega) (by rw [hz, itr]) hQ

set_option maxRecDepth 100000 in
set_option maxHeartbeats 4000000 in
theorem kX6_withBody {X : Cx} {d : Nat} {ω : Om} {Q : Option MV → Om → Prop} {s0 b : Int} (hC : CS ω) (hS : SVv ω ω) (hb : 0 ≤ b ∧ b < ω 3 8) (hQ : Q (some (vL (dgB ω b s0))) ω) : Mc X mX6_withBody (d + 3) [vR 0, vL s0, vI b] ω Q := by
  have b40 := hC.1.2.1
  unfold dgB ddN at hQ
  refine Mc_of [some (vR 0), some (vL s0), none, some (vI b), none, none, none] (by decide +kernel) rfl (Nat.le_of_ble_eq_true rfl) ?_
  refine J_lload_n 1 dX6_withBody_0 rfl ?_
  refine J_aload_n 0 dX6_withBody_1 rfl ?_
  refine J_iload_n 3 dX6_withBody_2 rfl ?_
  refine J_iconst 0 dX6_withBody_3 ⟨by decide, by decide⟩ ?_
  refine JM_V2 lkM_X6_247 rcv_0 dX6_withBody_4 (by decide) (Nat.le_of_ble_eq_true rfl) ?_
  refine kX6_body hC ?_
  unfold aBody bdN
  rw [if_pos (by omega), if_pos (by omega), if_pos (by omega)]
  refine J_i2l dX6_withBody_7 ?_
  refine JM_S2 lkM_X6_221 dX6_withBody_8 (by decide) (Nat.le_of_ble_eq_true rfl) ?_
  refine kX6_with ?_
  refine J_lstore_4 dX6_withBody_11 (by decide) rfl ?_
  refine J_iconst 0 dX6_withBody_13 ⟨by decide, by decide⟩ ?_
  refine J_istore_6 dX6_withBody_14 (by decide) rfl ?_
  refine l_wb hC hb 6 0 _ (by omega) (h0 := mx s0 (ω 17 b)) (by rw [itr]) ?_
  refine J_lload 4 dX6_withBody_47 rfl ?_
  refine J_aload_n 0 dX6_withBody_49 rfl ?_
  refine J_getR lkF_X6_40 rfl dX6_withBody_50 ?_
  refine J_iload_n 3 dX6_withBody_53 rfl ?_
  refine JM_V1 lkM_X6_193 rcv_5 dX6_withBody_54 (by decide) (Nat.le_of_ble_eq_true rfl) ?_
  refine kX3_isReached (by omega) ?_
  rw [hS.2.1 b.toNat (by omega), show ((b.toNat : Nat) : Int) = b from by omega]
  refine J_if_eq 64 dX6_withBody_57 (by decide) (fun h57 => ?_) (fun h57 => ?_)
  · skip
    refine J_lconst1 dX6_withBody_64 ?_
    refine JM_S2 lkM_X6_221 dX6_withBody_65 (by decide) (Nat.le_of_ble_eq_true rfl) ?_
    refine kX6_with ?_
    refine JM_lret rfl dX6_withBody_68 ?_
    by_cases q : reachT ω b (6 * (ω 3 7).toNat) = true
    · rw [if_pos q] at hQ h57; first | exact hQ | exact absurd h57 (by decide)
    · rw [if_neg q] at hQ h57; first | exact hQ | exact absurd rfl h57
  · skip
    refine J_lconst0 dX6_withBody_60 ?_
    refine J_goto 65 dX6_withBody_61 (by decide) ?_
    refine JM_S2 lkM_X6_221 dX6_withBody_65 (by decide) (Nat.le_of_ble_eq_true rfl) ?_
    refine kX6_with ?_
    refine JM_lret rfl dX6_withBody_68 ?_
    by_cases q : reachT ω b (6 * (ω 3 7).toNat) = true
    · rw [if_pos q] at hQ h57; first | exact hQ | exact absurd h57 (by decide)
    · rw [if_neg q] at hQ h57; first | exact hQ | exact absurd rfl h57

set_option maxRecDepth 100000 in
set_option maxHeartbeats 4000000 in
theorem l_dg1 {X : Cx} {d : Nat} {Q : Option MV → Om → Prop} {ω : Om} {h0 : Int} {x : Option MV} (hC : CS ω) (hS : SVv ω ω) : ∀ (n k : Nat) (z : Int), k + n = (ω 3 7).toNat → z = itr (fun t h => dgT ω t h) k h0 → JM X mX6_digest (d + 6) Q 44 [some (vR 0), some (vL (itr (fun t h => dgT ω t h) (ω 3 7).toNat h0)), none, some (vI ((ω 3 7).toNat : Nat)), x] [] ω → JM X mX6_digest (d + 6) Q 20 [some (vR 0), some (vL (z)), none, some (vI k), x] [] ω := by
  have n8 := hC.1.1
  intro n
  induction n with
  | zero =>
    intro k z hk hz hQ
    refine J_iload_n 3 dX6_digest_20 rfl ?_
    refine J_aload_n 0 dX6_digest_21 rfl ?_
    refine J_getR lkF_X6_26 rfl dX6_digest_22 ?_
    refine J_getI 7 lkF_X6_71 rfl rfl rfl dX6_digest_25 ?_
    refine J_icmp_ge 44 dX6_digest_28 (by decide) (fun h28 => ?_) (fun h28 => ?_)
    · skip
      obtain rfl : k = (ω 3 7).toNat := by omega
      rw [hz]
      exact hQ
    · skip
      exfalso; omega
  | succ n ih =>
    intro k z hk hz hQ
    refine J_iload_n 3 dX6_digest_20 rfl ?_
    refine J_aload_n 0 dX6_digest_21 rfl ?_
    refine J_getR lkF_X6_26 rfl dX6_digest_22 ?_
    refine J_getI 7 lkF_X6_71 rfl rfl rfl dX6_digest_25 ?_
    refine J_icmp_ge 44 dX6_digest_28 (by decide) (fun h28 => ?_) (fun h28 => ?_)
    · skip
      exfalso; omega
    · skip
      refine J_aload_n 0 dX6_digest_31 rfl ?_
      refine J_lload_n 1 dX6_digest_32 rfl ?_
      refine J_iload_n 3 dX6_digest_33 rfl ?_
      refine JM_V2 lkM_X6_214 rcv_0 dX6_digest_34 (by decide) (Nat.le_of_ble_eq_true rfl) ?_
      refine kX6_withType hC hS (by omega) ?_
      refine J_lstore_1 dX6_digest_37 (by decide) rfl ?_
      refine J_iinc_3 dX6_digest_38 (by decide) ⟨by omega, by omega⟩ rfl ?_
      refine J_goto 20 dX6_digest_41 (by decide) ?_
      exact ih (k + 1) _ (by omega) (by rw [hz, itr]) hQ

set_option maxRecDepth 100000 in
set_option maxHeartbeats 4000000 in
theorem l_dg2 {X : Cx} {d : Nat} {Q : Option MV → Om → Prop} {ω : Om} {h0 : Int} {x : Option MV} (hC : CS ω) (hS : SVv ω ω) : ∀ (n k : Nat) (z : Int), k + n = (ω 3 8).toNat → z = itr (fun b h => dgB ω b h) k h0 → JM X mX6_digest (d + 6) Q 70 [some (vR 0), some (vL (itr (fun b h => dgB ω b h) (ω 3 8).toNat h0)), none, some (vI ((ω 3 8).toNat : Nat)), x] [] ω → JM X mX6_digest (d + 6) Q 46 [some (vR 0), some (vL (z)), none, some (vI k), x] [] ω := by
  have n8 := hC.1.2.1
  intro n
  induction n with
  | zero =>
    intro k z hk hz hQ
    refine J_iload_n 3 dX6_digest_46 rfl ?_
    refine J_aload_n 0 dX6_digest_47 rfl ?_
    refine J_getR lkF_X6_26 rfl dX6_digest_48 ?_
    refine J_getI 8 lkF_X6_196 rfl rfl rfl dX6_digest_51 ?_
    refine J_icmp_ge 70 dX6_digest_54 (by decide) (fun h54 => ?_) (fun h54 => ?_)
    · skip
      obtain rfl : k = (ω 3 8).toNat := by omega
      rw [hz]
      exact hQ
    · skip
      exfalso; omega
  | succ n ih =>
    intro k z hk hz hQ
    refine J_iload_n 3 dX6_digest_46 rfl ?_
    refine J_aload_n 0 dX6_digest_47 rfl ?_
    refine J_getR lkF_X6_26 rfl dX6_digest_48 ?_
    refine J_getI 8 lkF_X6_196 rfl rfl rfl dX6_digest_51 ?_
    refine J_icmp_ge 70 dX6_digest_54 (by decide) (fun h54 => ?_) (fun h54 => ?_)
    · skip
      exfalso; omega
    · skip
      refine J_aload_n 0 dX6_digest_57 rfl ?_
      refine J_lload_n 1 dX6_digest_58 rfl ?_
      refine J_iload_n 3 dX6_digest_59 rfl ?_
      refine JM_V2 lkM_X6_218 rcv_0 dX6_digest_60 (by decide) (Nat.le_of_ble_eq_true rfl) ?_
      refine kX6_withBody hC hS (by omega) ?_
      refine J_lstore_1 dX6_digest_63 (by decide) rfl ?_
      refine J_iinc_3 dX6_digest_64 (by decide) ⟨by omega, by omega⟩ rfl ?_
      refine J_goto 46 dX6_digest_67 (by decide) ?_
      exact ih (k + 1) _ (by omega) (by rw [hz, itr]) hQ

set_option maxRecDepth 100000 in
set_option maxHeartbeats 4000000 in
theorem l_dg3 {X : Cx} {d : Nat} {Q : Option MV → Om → Prop} {ω : Om} {h0 : Int} {c : Nat} (hC : CS ω) (hK : KC ω) (hc : (c : Int) < ω 0 6) : ∀ (n k : Nat) (z : Int), k + n = 3 → z = itr (dgC ω (ω 7)) (3 * c + k) h0 → JM X mX6_digest (d + 6) Q 143 [some (vR 0), some (vL (itr (dgC ω (ω 7)) (3 * c + 3) h0)), none, some (vI c), some (vI (3 : Nat))] [] ω → JM X mX6_digest (d + 6) Q 118 [some (vR 0), some (vL (z)), none, some (vI c), some (vI k)] [] ω := by
  intro n
  induction n with
  | zero =>
    intro k z hk hz hQ
    refine J_iload 4 dX6_digest_118 rfl ?_
    refine J_iconst 2 dX6_digest_120 ⟨by decide, by decide⟩ ?_
    refine J_icmp_gt 143 dX6_digest_121 (by decide) (fun h121 => ?_) (fun h121 => ?_)
    · skip
      obtain rfl : k = 3 := by omega
      rw [hz]
      exact hQ
    · skip
      exfalso; omega
  | succ n ih =>
    intro k z hk hz hQ
    refine J_iload 4 dX6_digest_118 rfl ?_
    refine J_iconst 2 dX6_digest_120 ⟨by decide, by decide⟩ ?_
    refine J_icmp_gt 143 dX6_digest_121 (by decide) (fun h121 => ?_) (fun h121 => ?_)
    · skip
      exfalso; omega
    · skip
      refine J_lload_n 1 dX6_digest_124 rfl ?_
      refine J_aload_n 0 dX6_digest_125 rfl ?_
      refine J_iload_n 3 dX6_digest_126 rfl ?_
      refine J_iload 4 dX6_digest_127 rfl ?_
      refine JM_V2 lkM_X6_225 rcv_0 dX6_digest_129 (by decide) (Nat.le_of_ble_eq_true rfl) ?_
      refine kX6_fit hC hK ?_
      unfold aFit
      rw [if_pos (by omega), if_pos (by omega)]
      refine J_i2l dX6_digest_132 ?_
      refine JM_S2 lkM_X6_221 dX6_digest_133 (by decide) (Nat.le_of_ble_eq_true rfl) ?_
      refine kX6_with ?_
      refine J_lstore_1 dX6_digest_136 (by decide) rfl ?_
      refine J_iinc_4 dX6_digest_137 (by decide) ⟨by omega, by omega⟩ rfl ?_
      refine J_goto 118 dX6_digest_140 (by decide) ?_
      refine ih (k + 1) _ (by omega) ?_ hQ
      rw [hz, show 3 * c + (k + 1) = (3 * c + k) + 1 from rfl, itr]
      show _ = mx _ _
      rw [show (3 * c + k) / 3 = c from by omega, show (3 * c + k) % 3 = k from by omega]

set_option maxRecDepth 100000 in
set_option maxHeartbeats 4000000 in
theorem l_dg4 {X : Cx} {d : Nat} {Q : Option MV → Om → Prop} {ω : Om} {h0 : Int} (hC : CS ω) (hK : KC ω) : ∀ (n k : Nat) (x : Option MV) (z : Int), k + n = (ω 0 6).toNat → z = itr (dgC ω (ω 7)) (3 * k) h0 → (∀ x, JM X mX6_digest (d + 6) Q 149 [some (vR 0), some (vL (itr (dgC ω (ω 7)) (3 * (ω 0 6).toNat) h0)), none, some (vI ((ω 0 6).toNat : Nat)), x] [] ω) → JM X mX6_digest (d + 6) Q 107 [some (vR 0), some (vL (z)), none, some (vI k), x] [] ω := by
  have n8 := hK.1
  intro n
  induction n with
  | zero =>
    intro k x z hk hz hQ
    refine J_iload_n 3 dX6_digest_107 rfl ?_
    refine J_aload_n 0 dX6_digest_108 rfl ?_
    refine J_getI 6 lkF_X6_57 rfl rfl rfl dX6_digest_109 ?_
    refine J_icmp_ge 149 dX6_digest_112 (by decide) (fun h112 => ?_) (fun h112 => ?_)
    · skip
      obtain rfl : k = (ω 0 6).toNat := by omega
      rw [hz]
      exact hQ x
    · skip
      exfalso; omega
  | succ n ih =>
    intro k x z hk hz hQ
    refine J_iload_n 3 dX6_digest_107 rfl ?_
    refine J_aload_n 0 dX6_digest_108 rfl ?_
    refine J_getI 6 lkF_X6_57 rfl rfl rfl dX6_digest_109 ?_
    refine J_icmp_ge 149 dX6_digest_112 (by decide) (fun h112 => ?_) (fun h112 => ?_)
    · skip
      exfalso; omega
    · skip
      refine J_iconst 0 dX6_digest_115 ⟨by decide, by decide⟩ ?_
      refine J_istore_4 dX6_digest_116 (by decide) rfl ?_
      refine l_dg3 hC hK (by omega) 3 0 z (by omega) (h0 := h0) hz ?_
      refine J_iinc_3 dX6_digest_143 (by decide) ⟨by omega, by omega⟩ rfl ?_
      refine J_goto 107 dX6_digest_146 (by decide) ?_
      exact ih (k + 1) _ _ (by omega) rfl hQ

set_option maxRecDepth 100000 in
set_option maxHeartbeats 4000000 in
theorem l_dg5 {X : Cx} {d : Nat} {Q : Option MV → Om → Prop} {ω : Om} {h0 : Int} {x : Option MV} (hP : PG ω) : ∀ (n k : Nat) (z : Int), k + n = (ω 1 1).toNat → z = itr (fun k h => mx h (ω 8 k)) k h0 → JM X mX6_digest (d + 6) Q 182 [some (vR 0), some (vL (itr (fun k h => mx h (ω 8 k)) (ω 1 1).toNat h0)), none, some (vI ((ω 1 1).toNat : Nat)), x] [] ω → JM X mX6_digest (d + 6) Q 151 [some (vR 0), some (vL (z)), none, some (vI k), x] [] ω := by
  have n8 := hP.1
  intro n
  induction n with
  | zero =>
    intro k z hk hz hQ
    refine J_iload_n 3 dX6_digest_151 rfl ?_
    refine J_aload_n 0 dX6_digest_152 rfl ?_
    refine J_getR lkF_X6_10 rfl dX6_digest_153 ?_
    refine J_getI 1 lkF_X6_65 rfl rfl rfl dX6_digest_156 ?_
    refine J_icmp_ge 182 dX6_digest_159 (by decide) (fun h159 => ?_) (fun h159 => ?_)
    · skip
      obtain rfl : k = (ω 1 1).toNat := by omega
      rw [hz]
      exact hQ
    · skip
      exfalso; omega
  | succ n ih =>
    intro k z hk hz hQ
    refine J_iload_n 3 dX6_digest_151 rfl ?_
    refine J_aload_n 0 dX6_digest_152 rfl ?_
    refine J_getR lkF_X6_10 rfl dX6_digest_153 ?_
    refine J_getI 1 lkF_X6_65 rfl rfl rfl dX6_digest_156 ?_
    refine J_icmp_ge 182 dX6_digest_159 (by decide) (fun h159 => ?_) (fun h159 => ?_)
    · skip
      exfalso; omega
    · skip
      refine J_lload_n 1 dX6_digest_162 rfl ?_
      refine J_aload_n 0 dX6_digest_163 rfl ?_
      refine J_getR lkF_X6_10 rfl dX6_digest_164 ?_
      refine J_iload_n 3 dX6_digest_167 rfl ?_
      refine JM_V1 lkM_X6_228 rcv_1 dX6_digest_168 (by decide) (Nat.le_of_ble_eq_true rfl) ?_
      refine kX1_codeAt (by omega) ?_
      refine J_i2l dX6_digest_171 ?_
      refine JM_S2 lkM_X6_221 dX6_digest_172 (by decide) (Nat.le_of_ble_eq_true rfl) ?_
      refine kX6_with ?_
      refine J_lstore_1 dX6_digest_175 (by decide) rfl ?_
      refine J_iinc_3 dX6_digest_176 (by decide) ⟨by omega, by omega⟩ rfl ?_
      refine J_goto 151 dX6_digest_179 (by decide) ?_
      exact ih (k + 1) _ (by omega) (by rw [hz, itr]) hQ

theorem ddN_TQ {τ ω : Om} (h : TQ τ ω) (b : Int) : ddN ω b = ddN τ b := by unfold ddN; rw [h.1, reachT_TQ h]
theorem ddS_TQ {τ ω : Om} (h : TQ τ ω) : ∀ k : Nat, ddS ω k = ddS τ k := by
  intro k
  induction k with
  | zero => rfl
  | succ k ih => rw [ddS, ddS, ih, ddN_TQ h]
theorem cntN_TQ {τ ω : Om} (h : TQ τ ω) (ps kp cn dn un w : Int) : cntN ω ps kp cn dn un w = cntN τ ps kp cn dn un w := by
  unfold cntN
  rw [h.1, h.2.1, ddS_TQ h, missT_TQ h]
theorem bitsF_cg {p q : Int → Bool} : ∀ n : Nat, (∀ k : Nat, k < n → p k = q k) → bitsF p n = bitsF q n := by
  intro n
  induction n with
  | zero => intro _; rfl
  | succ n ih => intro h; rw [bitsF, bitsF, ih (fun k hk => h k (by omega)), h n (by omega)]
theorem ansB_TQ {τ ω : Om} (h : TQ τ ω) (t : Int) : ansB ω t = ansB τ t := by
  unfold ansB
  exact bitsF_cg 6 (fun k _ => by rw [nrS_TQ h])
theorem aOf_TQ {τ ω : Om} (h : TQ τ ω) (t w : Int) : aOf ω t w = aOf τ t w := by
  unfold aOf
  rw [h.1, pr_TQ h, hol_TQ h, ansB_TQ h]
  by_cases q : 0 ≤ t ∧ t < τ 3 7
  · rw [if_pos q, if_pos q, (h.2.2.1 t q.1 q.2).2.2, bitsF_cg 6 (p := fun k => decide (¬ hb ω t (0 + k) = -1)) (q := fun k => decide (¬ hb τ t (0 + k) = -1)) (fun k _ => by rw [hb_TQ h]), bitsF_cg 6 (p := fun k => decide (¬ hb ω t (6 + k) = -1)) (q := fun k => decide (¬ hb τ t (6 + k) = -1)) (fun k _ => by rw [hb_TQ h]), bitsF_cg (τ 3 7).toNat (p := fun c => decide (pr ω c = t)) (q := fun c => decide (pr τ c = t)) (fun k _ => by rw [pr_TQ h])]
  · rw [if_neg q, if_neg q]
theorem aHas_TQ {τ ω : Om} (h : TQ τ ω) (t m : Int) : aHas ω t m = aHas τ t m := by unfold aHas; rw [h.1, hb_TQ h]
theorem ansN_TQ {τ ω : Om} (h : TQ τ ω) (t m w : Int) : ansN ω t m w = ansN τ t m w := by unfold ansN; rw [nrS_TQ h, hb_TQ h]
theorem aAns_TQ {τ ω : Om} (h : TQ τ ω) (t m w : Int) : aAns ω t m w = aAns τ t m w := by unfold aAns; rw [h.1, ansN_TQ h]
theorem aBody_TQ {τ ω : Om} (h : TQ τ ω) (b w : Int) : aBody ω b w = aBody τ b w := by
  unfold aBody bdN
  rw [h.2.1, itA_TQ h]
  by_cases q : 0 ≤ b ∧ b < τ 3 8
  · rw [if_pos q, if_pos q, h.2.2.2.2.1 b q.1 q.2]
  · rw [if_neg q, if_neg q]
theorem aTr_TQ {τ ω : Om} (h : TQ τ ω) (t m w : Int) : aTr ω t m w = aTr τ t m w := by unfold aTr; rw [h.1, trT_TQ h]
theorem aEv_TQ {τ ω : Om} (h : TQ τ ω) (t m i w : Int) : aEv ω t m i w = aEv τ t m i w := by unfold aEv; rw [h.1, trT_TQ h, evs_TQ h]
theorem aWhy_TQ {τ ω : Om} (h : TQ τ ω) (t m u : Int) : aWhy ω t m u = aWhy τ t m u := by
  unfold aWhy
  rw [h.1]
  by_cases q : (0 ≤ t ∧ t < τ 3 7) ∧ 0 ≤ m ∧ m < 12
  · rw [if_pos q, if_pos q, whyT_TQ h u q.2]
  · rw [if_neg q, if_neg q]
theorem aWhere_TQ {τ ω : Om} (h : TQ τ ω) (t m u : Int) : aWhere ω t m u = aWhere τ t m u := by
  unfold aWhere
  rw [h.1]
  by_cases q : (0 ≤ t ∧ t < τ 3 7) ∧ 0 ≤ m ∧ m < 12
  · rw [if_pos q, if_pos q, whereT_TQ h u q.2]
  · rw [if_neg q, if_neg q]
theorem mvN_TQ {τ ω : Om} (h : TQ τ ω) (w : Int) : mvN ω w = mvN τ w := by
  have q := mvs_TQ h (12 * (τ 3 7).toNat)
  unfold mvN
  rw [h.1, q.1, q.2.1, q.2.2]
theorem aMoves_TQ {τ ω : Om} (h : TQ τ ω) (w : Int) : aMoves ω w = aMoves τ w := by unfold aMoves; rw [mvN_TQ h]
theorem lackT_TQ {τ ω : Om} (h : TQ τ ω) (ms t : Int) : lackT ω ms t = lackT τ ms t := by unfold lackT; rw [ansB_TQ h]
theorem misT_TQ {τ ω : Om} (h : TQ τ ω) (ms : Int) : ∀ k : Nat, misT ω ms k = misT τ ms k := by
  intro k
  induction k with
  | zero => rfl
  | succ k ih => rw [misT, misT, ih, lackT_TQ h]
theorem fitN_TQ {τ ω : Om} (h : TQ τ ω) (ms w : Int) : fitN ω ms w = fitN τ ms w := by
  unfold fitN
  rw [h.1, misT_TQ h, bitsF_cg (τ 3 7).toNat (q := fun t => decide (lackT τ ms t = 0)) (fun k _ => by rw [lackT_TQ h])]
theorem aFit_TQ {τ ω : Om} (h : TQ τ ω) (cn : Int) (cf : Int → Int) (c w : Int) : aFit ω cn cf c w = aFit τ cn cf c w := by unfold aFit; rw [fitN_TQ h]
theorem comT_TQ {τ ω : Om} (h : TQ τ ω) (ts : Int) : ∀ k : Nat, comT ω ts k = comT τ ts k := by
  intro k
  induction k with
  | zero => rfl
  | succ k ih => rw [comT, comT, ih, ansB_TQ h]
theorem aCom_TQ {τ ω : Om} (h : TQ τ ω) (ts : Int) : aCom ω ts = aCom τ ts := by unfold aCom; rw [h.1, comT_TQ h]
theorem aDead_TQ {τ ω : Om} (h : TQ τ ω) (b : Int) : aDead ω b = aDead τ b := by unfold aDead; rw [h.2.1, ddN_TQ h]
theorem dgM_TQ {τ ω : Om} (h : TQ τ ω) (t m : Int) (z : Int) : dgM ω t m z = dgM τ t m z := by unfold dgM; rw [evs_TQ h, ansN_TQ h, ansN_TQ h, trT_TQ h]
theorem dgT_TQ {τ ω : Om} (h : TQ τ ω) (t : Int) (z : Int) : dgT ω t z = dgT τ t z := by
  unfold dgT
  rw [itr_cg 7 z (g := fun w h => mx h (aOf ω t w)) (f := fun w h => mx h (aOf τ t w)) (fun i y _ => by rw [aOf_TQ h]), itr_cg 12 _ (g := fun m h => mx h (hb ω t m)) (f := fun m h => mx h (hb τ t m)) (fun i y _ => by rw [hb_TQ h]), itr_cg 6 _ (g := fun m h => dgM ω t m h) (f := fun m h => dgM τ t m h) (fun i y _ => dgM_TQ h t _ y)]
theorem dgB_TQ {τ ω : Om} (h : TQ τ ω) {b : Int} (hb : 0 ≤ b ∧ b < τ 3 8) (z : Int) : dgB ω b z = dgB τ b z := by
  unfold dgB
  rw [h.2.2.2.2.1 b hb.1 hb.2, ddN_TQ h, itr_cg 6 _ (g := fun k h => mx h (itA ω b k)) (f := fun k h => mx h (itA τ b k)) (fun i y _ => by rw [itA_TQ h])]
theorem dgA_TQ {τ ω : Om} (h : TQ τ ω) (ps : Int) {pg pg' : Int → Int} (hp : ∀ i, 0 ≤ i → i < ps → pg' i = pg i) {cn : Int} {cf cf' : Int → Int} (hc : ∀ i, 0 ≤ i → i < cn → cf' i = cf i) (kp dn un : Int) : dgA ω ps pg' cn cf' kp dn un = dgA τ ps pg cn cf kp dn un := by
  unfold dgA
  rw [h.1, h.2.1, mvN_TQ h, mvN_TQ h, mvN_TQ h, itr_cg (τ 3 7).toNat _ (g := fun t h => dgT ω t h) (f := fun t h => dgT τ t h) (fun i y _ => dgT_TQ h _ y), itr_cg (τ 3 8).toNat _ (g := fun b h => dgB ω b h) (f := fun b h => dgB τ b h) (fun i y hi => dgB_TQ h (by omega) y),
    itr_cg (3 * cn.toNat) _ (g := dgC ω cf') (f := dgC τ cf) (fun i y hi => by unfold dgC; rw [fitN_TQ h, hc _ (by omega) (by omega)]), itr_cg ps.toNat _ (g := fun k h => mx h (pg' k)) (f := fun k h => mx h (pg k)) (fun i y hi => by rw [hp _ (by omega) (by omega)]), itr_cg 9 _ (g := fun w h => mx h (cntN ω ps kp cn dn un w)) (f := fun w h => mx h (cntN τ ps kp cn dn un w)) (fun i y _ => by rw [cntN_TQ h])]
set_option maxRecDepth 100000 in
set_option maxHeartbeats 4000000 in
theorem l_dg6 {X : Cx} {d : Nat} {Q : Option MV → Om → Prop} {ω0 : Om} {h0 : Int} {x : Option MV} : ∀ (n k : Nat) (ω : Om) (z : Int), k + n = 9 → z = itr (fun w h => mx h (cntN ω0 (ω0 1 1) (ω0 6 6) (ω0 0 6) (ω0 6 7) (ω0 6 8) w)) k h0 → CS ω → CP ω0 ω → (∀ ω', CP ω0 ω' → Q (some (vL (itr (fun w h => mx h (cntN ω0 (ω0 1 1) (ω0 6 6) (ω0 0 6) (ω0 6 7) (ω0 6 8) w)) 9 h0))) ω') → JM X mX6_digest (d + 6) Q 184 [some (vR 0), some (vL (z)), none, some (vI k), x] [] ω := by
  intro n
  induction n with
  | zero =>
    intro k ω z hk hz hC hP hQ
    refine J_iload_n 3 dX6_digest_184 rfl ?_
    refine J_bipush 8 dX6_digest_185 ⟨by decide, by decide⟩ (by decide) ?_
    refine J_icmp_gt 207 dX6_digest_187 (by decide) (fun h187 => ?_) (fun h187 => ?_)
    · skip
      refine J_lload_n 1 dX6_digest_207 rfl ?_
      refine JM_lret rfl dX6_digest_208 ?_
      obtain rfl : k = 9 := by omega
      rw [hz]
      exact hQ ω hP
    · skip
      exfalso; omega
  | succ n ih =>
    intro k ω z hk hz hC hP hQ
    refine J_iload_n 3 dX6_digest_184 rfl ?_
    refine J_bipush 8 dX6_digest_185 ⟨by decide, by decide⟩ (by decide) ?_
    refine J_icmp_gt 207 dX6_digest_187 (by decide) (fun h187 => ?_) (fun h187 => ?_)
    · skip
      exfalso; omega
    · skip
      refine J_lload_n 1 dX6_digest_190 rfl ?_
      refine J_aload_n 0 dX6_digest_191 rfl ?_
      refine J_iload_n 3 dX6_digest_192 rfl ?_
      refine JM_V1 lkM_X6_231 rcv_0 dX6_digest_193 (by decide) (Nat.le_of_ble_eq_true rfl) ?_
      refine kX6_count hC (fun ω2 hP2 => ?_)
      have f := hP.1.1
      rw [cntN_TQ hP.1.2.2.2.2, f 1 (by decide), f 0 (by decide), hP.1.2.1 6 (by decide), hP.1.2.1 7 (by decide), hP.1.2.1 8 (by decide)]
      refine J_i2l dX6_digest_196 ?_
      refine JM_S2 lkM_X6_221 dX6_digest_197 (by decide) (Nat.le_of_ble_eq_true rfl) ?_
      refine kX6_with ?_
      refine J_lstore_1 dX6_digest_200 (by decide) rfl ?_
      refine J_iinc_3 dX6_digest_201 (by decide) ⟨by omega, by omega⟩ rfl ?_
      refine J_goto 184 dX6_digest_204 (by decide) ?_
      exact ih (k + 1) ω2 _ (by omega) (by rw [hz, itr]) hP2.2 (hP.tr hP2) hQ

set_option maxRecDepth 100000 in
set_option maxHeartbeats 4000000 in
theorem kX6_digest {X : Cx} {d : Nat} {ω : Om} {Q : Option MV → Om → Prop} (hC : CS ω) (hK : KC ω) (hP : PG ω) (hQ : ∀ ω', CP ω ω' → Q (some (vL (dgA ω (ω 1 1) (ω 8) (ω 0 6) (ω 7) (ω 6 6) (ω 6 7) (ω 6 8)))) ω') : Mc X mX6_digest (d + 6) [vR 0] ω Q := by
  refine Mc_of [some (vR 0), none, none, none, none] (by decide +kernel) rfl (Nat.le_of_ble_eq_true rfl) ?_
  refine J_aload_n 0 dX6_digest_0 rfl ?_
  refine J_getR lkF_X6_40 rfl dX6_digest_1 ?_
  refine JM_V0 lkM_X6_148 rcv_5 dX6_digest_4 (by decide) (Nat.le_of_ble_eq_true rfl) ?_
  refine kX3_refresh hC.1 (TE.rf ω) hC.2.1.2 (fun ω1 s1 s2 s3 s4 => ?_)
  have hP1 := CP_sv hC s1 s3 s4
  refine J_aload_n 0 dX6_digest_7 rfl ?_
  refine J_getR lkF_X6_49 rfl dX6_digest_8 ?_
  refine JM_V0 lkM_X6_177 rcv_6 dX6_digest_11 (by decide) (Nat.le_of_ble_eq_true rfl) ?_
  refine kX0_refresh hP1.2.1 hP1.2.2.1 hP1.2.2.2.1 (fun ω2 r1 r2 r3 r4 r5 r6 => ?_)
  have hP12 := CP_ref hP1.2 r1 r2 r3 r4 r5 r6
  have hP2 := hP1.tr hP12
  have hfr : ω2 5 7 = ω2 3 9 := hP12.1.2.2.2.1.2.2 (by rw [s4, s3 3 (by decide)])
  have hS2 : SVv ω2 ω2 := hP2.2.2.1.2 hfr
  have hK2 : KC ω2 := by
    unfold KC
    rw [hP2.1.1 0 (by decide), hP2.1.1 7 (by decide)]
    exact hK
  have hPG2 : PG ω2 := by
    unfold PG
    rw [hP2.1.1 1 (by decide), hP2.1.1 8 (by decide)]
    exact hP
  have hmv : ω2 6 10 = mvN ω2 0 ∧ ω2 6 11 = mvN ω2 1 ∧ ω2 6 12 = mvN ω2 2 := by
    rw [mvN_TQ r1.2.2.2.2, mvN_TQ r1.2.2.2.2, mvN_TQ r1.2.2.2.2]
    exact ⟨r4, r5, r6⟩
  refine J_ldc2z (v := (1663)) (1663) (gm 769 (by decide +kernel) rfl) (by decide) dX6_digest_14 ?_
  refine J_lstore_1 dX6_digest_17 (by decide) rfl ?_
  refine J_iconst 0 dX6_digest_18 ⟨by decide, by decide⟩ ?_
  refine J_istore_3 dX6_digest_19 (by decide) rfl ?_
  refine l_dg1 hP2.2 hS2 (ω2 3 7).toNat 0 1663 (by omega) (h0 := 1663) (by rw [itr]) ?_
  refine J_iconst 0 dX6_digest_44 ⟨by decide, by decide⟩ ?_
  refine J_istore_3 dX6_digest_45 (by decide) rfl ?_
  refine l_dg2 hP2.2 hS2 (ω2 3 8).toNat 0 _ (by omega) (by rw [itr]) ?_
  refine J_lload_n 1 dX6_digest_70 rfl ?_
  refine J_aload_n 0 dX6_digest_71 rfl ?_
  refine J_getR lkF_X6_49 rfl dX6_digest_72 ?_
  refine J_getI 10 lkF_X6_178 rfl rfl rfl dX6_digest_75 ?_
  refine J_i2l dX6_digest_78 ?_
  refine JM_S2 lkM_X6_221 dX6_digest_79 (by decide) (Nat.le_of_ble_eq_true rfl) ?_
  rw [hmv.1]
  refine kX6_with ?_
  refine J_aload_n 0 dX6_digest_82 rfl ?_
  refine J_getR lkF_X6_49 rfl dX6_digest_83 ?_
  refine J_getI 11 lkF_X6_181 rfl rfl rfl dX6_digest_86 ?_
  refine J_i2l dX6_digest_89 ?_
  refine JM_S2 lkM_X6_221 dX6_digest_90 (by decide) (Nat.le_of_ble_eq_true rfl) ?_
  rw [hmv.2.1]
  refine kX6_with ?_
  refine J_aload_n 0 dX6_digest_93 rfl ?_
  refine J_getR lkF_X6_49 rfl dX6_digest_94 ?_
  refine J_getI 12 lkF_X6_184 rfl rfl rfl dX6_digest_97 ?_
  refine J_i2l dX6_digest_100 ?_
  refine JM_S2 lkM_X6_221 dX6_digest_101 (by decide) (Nat.le_of_ble_eq_true rfl) ?_
  rw [hmv.2.2]
  refine kX6_with ?_
  refine J_lstore_1 dX6_digest_104 (by decide) rfl ?_
  refine J_iconst 0 dX6_digest_105 ⟨by decide, by decide⟩ ?_
  refine J_istore_3 dX6_digest_106 (by decide) rfl ?_
  refine l_dg4 hP2.2 hK2 (ω2 0 6).toNat 0 none _ (by omega) (by rw [itr]) (fun x => ?_)
  refine J_iconst 0 dX6_digest_149 ⟨by decide, by decide⟩ ?_
  refine J_istore_3 dX6_digest_150 (by decide) rfl ?_
  refine l_dg5 hPG2 (ω2 1 1).toNat 0 _ (by omega) (by rw [itr]) ?_
  refine J_iconst 0 dX6_digest_182 ⟨by decide, by decide⟩ ?_
  refine J_istore_3 dX6_digest_183 (by decide) rfl ?_
  refine l_dg6 9 0 ω2 _ (by omega) (by rw [itr]) hP2.2 (CP.rf hP2.2) (fun ω3 hP3 => ?_)
  have e := hQ ω3 (hP2.tr hP3)
  have f := hP2.1.1
  rw [← dgA_TQ hP2.1.2.2.2.2 (ω 1 1) (pg := ω 8) (pg' := ω2 8) (fun i _ _ => by rw [f 8 (by decide)]) (cn := ω 0 6) (cf := ω 7) (cf' := ω2 7) (fun i _ _ => by rw [f 7 (by decide)]) (ω 6 6) (ω 6 7) (ω 6 8)] at e
  rw [← f 1 (by decide), ← f 0 (by decide), ← hP2.1.2.1 6 (by decide), ← hP2.1.2.1 7 (by decide), ← hP2.1.2.1 8 (by decide)] at e
  unfold dgA at e
  exact e
