/-! counting bits -/
def pc6 (x : Int) : Int := zb x 0 + zb x 1 + zb x 2 + zb x 3 + zb x 4 + zb x 5
def bcI (x : Int) : Int :=
  let a := zSub x (zAnd (zUshr x 1) 1431655765)
  let b := zAdd (zAnd a 858993459) (zAnd (zUshr a 2) 858993459)
  let c := zAnd (zAdd b (zUshr b 4)) 252645135
  let e := zAdd c (zUshr c 8)
  zAnd (zAdd e (zUshr e 16)) 63
theorem bcI_tab : ∀ x : Fin 64, bcI x.val = pc6 x.val := by decide +kernel
theorem bcI_pc {x : Int} (hx : 0 ≤ x ∧ x < 64) : bcI x = pc6 x := by
  have := bcI_tab ⟨x.toNat, by omega⟩
  simpa only [Int.toNat_of_nonneg hx.1] using this
theorem z64_tab : ∀ x y : Fin 64, (∀ m : Fin 6, zb x.val m.val = zb y.val m.val) → x = y := by decide +kernel
theorem z64_ext {x y : Int} (hx : 0 ≤ x ∧ x < 64) (hy : 0 ≤ y ∧ y < 64) (h : ∀ m, 0 ≤ m → m < 6 → zb x m = zb y m) : x = y := by
  have := z64_tab ⟨x.toNat, by omega⟩ ⟨y.toNat, by omega⟩ (fun m => by
    have := h m.val (by omega) (by omega)
    simpa only [Int.toNat_of_nonneg hx.1, Int.toNat_of_nonneg hy.1] using this)
  have e := congrArg Fin.val this
  simp only at e
  omega
theorem and63 (x : Int) : 0 ≤ zAnd x 63 ∧ zAnd x 63 < 64 := by
  obtain ⟨j, h1, h2⟩ := pk_andE (Int32.ofInt x) (m := 63) 6 (by decide)
  have e : zAnd x 63 = j := by
    unfold zAnd
    rw [show Int32.ofInt 63 = 63 from rfl, h2, nI_toInt (by omega)]
  rw [e]; omega
theorem zb_and63 (x : Int) {k : Int} (hk : 0 ≤ k ∧ k < 6) : zb (zAnd x 63) k = zb x k := by
  have ek : k = ((k.toNat : Nat) : Int) := by omega
  have h1 := zb_tb (zAnd x 63) (b := k.toNat) (by omega)
  have h2 := zb_tb x (b := k.toNat) (by omega)
  have h3 : tbI (zAnd x 63) k.toNat = tbI x k.toNat := by
    unfold tbI
    rw [zAnd_bv, BitVec.getLsbD_and]
    have : (Int32.ofInt 63).toBitVec.getLsbD k.toNat = true := by
      have t : ∀ i : Fin 6, (Int32.ofInt 63).toBitVec.getLsbD i.val = true := by decide
      exact t ⟨k.toNat, by omega⟩
    rw [this, Bool.and_true]
  rw [← ek] at h1 h2
  rw [h3] at h1
  rcases zb01 (zAnd x 63) k with q | q <;> rcases zb01 x k with w | w
  · omega
  · exfalso; have := h2.mpr (h1.mp q); omega
  · exfalso; have := h1.mpr (h2.mp w); omega
  · omega
/-- how many methods a list tells -/
def nMth : List Int → Int
  | [] => 0
  | x :: l => nMth l + if x < 6 then 1 else 0
def inS (k : Int) (l : List Int) : Int := if k ∈ l then 1 else 0
theorem inS_c (k x : Int) (l : List Int) (h : x ∉ l) : inS k (x :: l) = inS k l + if k = x then 1 else 0 := by
  unfold inS
  by_cases e : k = x
  · subst e; rw [if_pos List.mem_cons_self, if_neg h, if_pos rfl]; rfl
  · rw [if_neg e]
    by_cases g : k ∈ l
    · rw [if_pos (List.mem_cons_of_mem _ g), if_pos g]; rfl
    · rw [if_neg (fun q => g ((List.mem_cons.mp q).resolve_left e)), if_neg g]; rfl
theorem nMth_sum : ∀ l : List Int, l.Nodup → (∀ m ∈ l, 0 ≤ m ∧ m < 12) → nMth l = inS 0 l + inS 1 l + inS 2 l + inS 3 l + inS 4 l + inS 5 l := by
  intro l
  induction l with
  | nil => intro _ _; rfl
  | cons x l ih =>
    intro hn hm
    have hx := hm x List.mem_cons_self
    have h0 := (List.nodup_cons.mp hn).1
    rw [inS_c 0 x l h0, inS_c 1 x l h0, inS_c 2 x l h0, inS_c 3 x l h0, inS_c 4 x l h0, inS_c 5 x l h0]
    simp only [nMth]
    rw [ih (List.nodup_cons.mp hn).2 (fun m h => hm m (List.mem_cons_of_mem _ h))]
    rcases (show x = 0 ∨ x = 1 ∨ x = 2 ∨ x = 3 ∨ x = 4 ∨ x = 5 ∨ 6 ≤ x by omega) with rfl | rfl | rfl | rfl | rfl | rfl | h
    · simp; omega
    · simp; omega
    · simp; omega
    · simp; omega
    · simp; omega
    · simp; omega
    · rw [if_neg (by omega), if_neg (by omega), if_neg (by omega), if_neg (by omega), if_neg (by omega), if_neg (by omega), if_neg (by omega)]; omega
theorem nMth_R : ∀ l : List Int, 0 ≤ nMth l ∧ nMth l ≤ l.length := by
  intro l
  induction l with
  | nil => exact ⟨Int.le_refl 0, Int.le_refl 0⟩
  | cons x l ih => simp only [nMth, List.length_cons]; split <;> omega
theorem seen_pc {n : Int} {s : RS} (hW : RW n s) : pc6 (zAnd s.2.2.2.1 63) = nMth s.2.2.1 := by
  have h : ∀ k, 0 ≤ k → k < 6 → zb (zAnd s.2.2.2.1 63) k = inS k s.2.2.1 := fun k k0 k1 => by
    rw [zb_and63 _ ⟨k0, k1⟩, hW.2.2.2.2.1 k k0 (by omega)]; rfl
  rw [nMth_sum _ hW.2.2.1 hW.2.2.2.1]
  unfold pc6
  rw [h 0 (by omega) (by omega), h 1 (by omega) (by omega), h 2 (by omega) (by omega), h 3 (by omega) (by omega), h 4 (by omega) (by omega), h 5 (by omega) (by omega)]
set_option maxRecDepth 100000 in
set_option maxHeartbeats 4000000 in
theorem kJ6_bitCount_0f7a4 {X : Cx} {d : Nat} {ω : Om} {Q : Option MV → Om → Prop} {x : Int} (hx : 0 ≤ x ∧ x < 64) (hQ : Q (some (vI (pc6 x))) ω) : Mc X mJ6_bitCount_0f7a4 d [vI x] ω Q := by
  refine Mc_of [some (vI x)] (by decide +kernel) rfl (Nat.le_of_ble_eq_true rfl) ?_
  refine J_iload_n 0 dJ6_bitCount_0f7a4_0 rfl ?_
  refine J_iload_n 0 dJ6_bitCount_0f7a4_1 rfl ?_
  refine J_iconst 1 dJ6_bitCount_0f7a4_2 ⟨by decide, by decide⟩ ?_
  refine J_iushr dJ6_bitCount_0f7a4_3 ?_
  refine J_ldcwz (v := (1431655765)) (1431655765) (gm 439 (by decide +kernel) rfl) (by decide) dJ6_bitCount_0f7a4_4 ?_
  refine J_iand dJ6_bitCount_0f7a4_7 ?_
  refine J_isubW dJ6_bitCount_0f7a4_8 ?_
  refine J_istore_0 dJ6_bitCount_0f7a4_9 (by decide) ?_
  refine J_iload_n 0 dJ6_bitCount_0f7a4_10 rfl ?_
  refine J_ldcwz (v := (858993459)) (858993459) (gm 440 (by decide +kernel) rfl) (by decide) dJ6_bitCount_0f7a4_11 ?_
  refine J_iand dJ6_bitCount_0f7a4_14 ?_
  refine J_iload_n 0 dJ6_bitCount_0f7a4_15 rfl ?_
  refine J_iconst 2 dJ6_bitCount_0f7a4_16 ⟨by decide, by decide⟩ ?_
  refine J_iushr dJ6_bitCount_0f7a4_17 ?_
  refine J_ldcwz (v := (858993459)) (858993459) (gm 440 (by decide +kernel) rfl) (by decide) dJ6_bitCount_0f7a4_18 ?_
  refine J_iand dJ6_bitCount_0f7a4_21 ?_
  refine J_iaddW dJ6_bitCount_0f7a4_22 ?_
  refine J_istore_0 dJ6_bitCount_0f7a4_23 (by decide) ?_
  refine J_iload_n 0 dJ6_bitCount_0f7a4_24 rfl ?_
  refine J_iload_n 0 dJ6_bitCount_0f7a4_25 rfl ?_
  refine J_iconst 4 dJ6_bitCount_0f7a4_26 ⟨by decide, by decide⟩ ?_
  refine J_iushr dJ6_bitCount_0f7a4_27 ?_
  refine J_iaddW dJ6_bitCount_0f7a4_28 ?_
  refine J_ldcwz (v := (252645135)) (252645135) (gm 441 (by decide +kernel) rfl) (by decide) dJ6_bitCount_0f7a4_29 ?_
  refine J_iand dJ6_bitCount_0f7a4_32 ?_
  refine J_istore_0 dJ6_bitCount_0f7a4_33 (by decide) ?_
  refine J_iload_n 0 dJ6_bitCount_0f7a4_34 rfl ?_
  refine J_iload_n 0 dJ6_bitCount_0f7a4_35 rfl ?_
  refine J_bipush 8 dJ6_bitCount_0f7a4_36 ⟨by decide, by decide⟩ (by decide) ?_
  refine J_iushr dJ6_bitCount_0f7a4_38 ?_
  refine J_iaddW dJ6_bitCount_0f7a4_39 ?_
  refine J_istore_0 dJ6_bitCount_0f7a4_40 (by decide) ?_
  refine J_iload_n 0 dJ6_bitCount_0f7a4_41 rfl ?_
  refine J_iload_n 0 dJ6_bitCount_0f7a4_42 rfl ?_
  refine J_bipush 16 dJ6_bitCount_0f7a4_43 ⟨by decide, by decide⟩ (by decide) ?_
  refine J_iushr dJ6_bitCount_0f7a4_45 ?_
  refine J_iaddW dJ6_bitCount_0f7a4_46 ?_
  refine J_istore_0 dJ6_bitCount_0f7a4_47 (by decide) ?_
  refine J_iload_n 0 dJ6_bitCount_0f7a4_48 rfl ?_
  refine J_bipush 63 dJ6_bitCount_0f7a4_49 ⟨by decide, by decide⟩ (by decide) ?_
  refine J_iand dJ6_bitCount_0f7a4_51 ?_
  refine JM_iret rfl dJ6_bitCount_0f7a4_52 ?_
  rw [← bcI_pc hx] at hQ; exact hQ

set_option maxRecDepth 100000 in
set_option maxHeartbeats 4000000 in
theorem kX2_methodCount {X : Cx} {d : Nat} {ω : Om} {Q : Option MV → Om → Prop} (hQ : Q (some (vI (pc6 (zAnd (ω 2 7) 63)))) ω) : Mc X mX2_methodCount (d + 1) [vR 2] ω Q := by
  refine Mc_of [some (vR 2)] (by decide +kernel) rfl (Nat.le_of_ble_eq_true rfl) ?_
  refine J_aload_n 0 dX2_methodCount_0 rfl ?_
  refine J_getI 7 lkF_X2_42 rfl rfl rfl dX2_methodCount_1 ?_
  refine J_bipush 63 dX2_methodCount_4 ⟨by decide, by decide⟩ (by decide) ?_
  refine J_iand dX2_methodCount_6 ?_
  refine JM_S1 lkM_X2_45 dX2_methodCount_7 (by decide) (Nat.le_of_ble_eq_true rfl) ?_
  refine kJ6_bitCount_0f7a4 (and63 _) ?_
  refine JM_iret rfl dX2_methodCount_10 ?_
  exact hQ

set_option maxRecDepth 100000 in
set_option maxHeartbeats 4000000 in
theorem kX5_hasRoomFor {X : Cx} {d : Nat} {ω : Om} {Q : Option MV → Om → Prop} {n : Int} {s : RS} (hR : RdC ω n s) (hW : RW n s) (h8 : 0 ≤ ω 3 8 ∧ ω 3 8 ≤ 40) (hQ : Q (some (vI (if ω 3 7 < 8 ∧ ω 3 8 + nMth s.2.2.1 ≤ 40 then 1 else 0))) ω) : Mc X mX5_hasRoomFor (d + 2) [vR 3, vR 2] ω Q := by
  have h12 : s.2.2.1.length ≤ 12 := pigeon 12 _ hW.2.2.1 (fun x hx => by have := hW.2.2.2.1 x hx; omega)
  have hmr := nMth_R s.2.2.1
  have hpc : pc6 (zAnd (ω 2 7) 63) = nMth s.2.2.1 := by rw [hR.2.2.2.2.2.1]; exact seen_pc hW
  clear hW
  refine Mc_of [some (vR 3), some (vR 2)] (by decide +kernel) rfl (Nat.le_of_ble_eq_true rfl) ?_
  refine J_aload_n 0 dX5_hasRoomFor_0 rfl ?_
  refine J_getI 7 lkF_X5_34 rfl rfl rfl dX5_hasRoomFor_1 ?_
  refine J_bipush 8 dX5_hasRoomFor_4 ⟨by decide, by decide⟩ (by decide) ?_
  refine J_icmp_ge 27 dX5_hasRoomFor_6 (by decide) (fun h6 => ?_) (fun h6 => ?_)
  · skip
    refine J_iconst 0 dX5_hasRoomFor_27 ⟨by decide, by decide⟩ ?_
    refine JM_zret rfl (by omega) dX5_hasRoomFor_28 ?_
    (repeat' split at hQ) <;> first | exact hQ | (exfalso; omega)
  · skip
    refine J_aload_n 0 dX5_hasRoomFor_9 rfl ?_
    refine J_getI 8 lkF_X5_38 rfl rfl rfl dX5_hasRoomFor_10 ?_
    refine J_aload_n 1 dX5_hasRoomFor_13 rfl ?_
    refine JM_V0 lkM_X5_65 rcv_2 dX5_hasRoomFor_14 (by decide) (Nat.le_of_ble_eq_true rfl) ?_
    refine kX2_methodCount ?_
    rw [hpc]
    refine J_iadd dX5_hasRoomFor_17 ⟨by omega, by omega⟩ ?_
    refine J_bipush 40 dX5_hasRoomFor_18 ⟨by decide, by decide⟩ (by decide) ?_
    refine J_icmp_gt 27 dX5_hasRoomFor_20 (by decide) (fun h20 => ?_) (fun h20 => ?_)
    · skip
      refine J_iconst 0 dX5_hasRoomFor_27 ⟨by decide, by decide⟩ ?_
      refine JM_zret rfl (by omega) dX5_hasRoomFor_28 ?_
      (repeat' split at hQ) <;> first | exact hQ | (exfalso; omega)
    · skip
      refine J_iconst 1 dX5_hasRoomFor_23 ⟨by decide, by decide⟩ ?_
      refine J_goto 28 dX5_hasRoomFor_24 (by decide) ?_
      refine JM_zret rfl (by omega) dX5_hasRoomFor_28 ?_
      (repeat' split at hQ) <;> first | exact hQ | (exfalso; omega)

set_option maxRecDepth 100000 in
set_option maxHeartbeats 4000000 in
theorem kX5_makeHollow {X : Cx} {d : Nat} {ω : Om} {Q : Option MV → Om → Prop} {t b : Int} (ht : 0 ≤ t ∧ t < ω 3 7 ∧ t < 8) (hb : b = 0 ∨ b = 1) (hv : 0 ≤ ω 3 9 ∧ ω 3 9 < 1000000) (hQ : Q none (up (up ω 13 t b) 3 9 (ω 3 9 + 1))) : Mc X mX5_makeHollow (d + 1) [vR 3, vI t, vI b] ω Q := by
  refine Mc_of [some (vR 3), some (vI t), some (vI b)] (by decide +kernel) rfl (Nat.le_of_ble_eq_true rfl) ?_
  refine J_aload_n 0 dX5_makeHollow_0 rfl ?_
  refine J_iload_n 1 dX5_makeHollow_1 rfl ?_
  refine JM_V1 lkM_X5_44 rcv_3 dX5_makeHollow_2 (by decide) (Nat.le_of_ble_eq_true rfl) ?_
  refine kX5_hasType ?_
  rw [if_pos (by omega)]
  refine J_if_eq 25 dX5_makeHollow_5 (by decide) (fun h5 => ?_) (fun h5 => ?_)
  · skip
    exfalso; omega
  · skip
    refine J_aload_n 0 dX5_makeHollow_8 rfl ?_
    refine J_getR lkF_X5_15 rfl dX5_makeHollow_9 ?_
    refine J_iload_n 1 dX5_makeHollow_12 rfl ?_
    refine J_iload_n 2 dX5_makeHollow_13 rfl ?_
    refine J_bastore _ rfl (by omega) (by omega) dX5_makeHollow_14 ?_
    refine J_aload_n 0 dX5_makeHollow_15 rfl ?_
    first | refine J_dupR dX5_makeHollow_16 ?_ | refine J_dupI dX5_makeHollow_16 ?_
    refine J_getI 9 lkF_X5_41 rfl rfl rfl dX5_makeHollow_17 ?_
    try simp (config := {decide := true}) only [up_s, up_k, up_i]
    refine J_iconst 1 dX5_makeHollow_20 ⟨by decide, by decide⟩ ?_
    refine J_iadd dX5_makeHollow_21 ⟨by omega, by omega⟩ ?_
    refine J_putI 9 lkF_X5_41 rfl fp_5_9 rfl dX5_makeHollow_22 ?_
    refine JM_vret rfl dX5_makeHollow_25 ?_
    exact hQ

set_option maxRecDepth 100000 in
set_option maxHeartbeats 4000000 in
theorem kX5_hiddenOf {X : Cx} {d : Nat} {ω : Om} {Q : Option MV → Om → Prop} {t : Int} (ht : 0 ≤ t ∧ t < ω 3 7 ∧ t < 8) (hQ : Q (some (vI (ω 15 t))) ω) : Mc X mX5_hiddenOf (d + 1) [vR 3, vI t] ω Q := by
  refine Mc_of [some (vR 3), some (vI t)] (by decide +kernel) rfl (Nat.le_of_ble_eq_true rfl) ?_
  refine J_aload_n 0 dX5_hiddenOf_0 rfl ?_
  refine J_iload_n 1 dX5_hiddenOf_1 rfl ?_
  refine JM_V1 lkM_X5_44 rcv_3 dX5_hiddenOf_2 (by decide) (Nat.le_of_ble_eq_true rfl) ?_
  refine kX5_hasType ?_
  rw [if_pos (by omega)]
  refine J_if_eq 17 dX5_hiddenOf_5 (by decide) (fun h5 => ?_) (fun h5 => ?_)
  · skip
    exfalso; omega
  · skip
    refine J_aload_n 0 dX5_hiddenOf_8 rfl ?_
    refine J_getR lkF_X5_22 rfl dX5_hiddenOf_9 ?_
    refine J_iload_n 1 dX5_hiddenOf_12 rfl ?_
    refine J_iaload _ rfl rfl (by omega) dX5_hiddenOf_13 ?_
    refine J_goto 18 dX5_hiddenOf_14 (by decide) ?_
    refine JM_iret rfl dX5_hiddenOf_18 ?_
    exact hQ

set_option maxRecDepth 100000 in
set_option maxHeartbeats 4000000 in
theorem kX5_itemCountOf {X : Cx} {d : Nat} {ω : Om} {Q : Option MV → Om → Prop} {b : Int} (hb : 0 ≤ b ∧ b < ω 3 8 ∧ b < 40) (hQ : Q (some (vI (ω 17 b))) ω) : Mc X mX5_itemCountOf (d + 1) [vR 3, vI b] ω Q := by
  refine Mc_of [some (vR 3), some (vI b)] (by decide +kernel) rfl (Nat.le_of_ble_eq_true rfl) ?_
  refine J_aload_n 0 dX5_itemCountOf_0 rfl ?_
  refine J_iload_n 1 dX5_itemCountOf_1 rfl ?_
  refine JM_V1 lkM_X5_62 rcv_3 dX5_itemCountOf_2 (by decide) (Nat.le_of_ble_eq_true rfl) ?_
  refine kX5_hasBody ?_
  rw [if_pos (by omega)]
  refine J_if_eq 17 dX5_itemCountOf_5 (by decide) (fun h5 => ?_) (fun h5 => ?_)
  · skip
    exfalso; omega
  · skip
    refine J_aload_n 0 dX5_itemCountOf_8 rfl ?_
    refine J_getR lkF_X5_28 rfl dX5_itemCountOf_9 ?_
    refine J_iload_n 1 dX5_itemCountOf_12 rfl ?_
    refine J_iaload _ rfl rfl (by omega) dX5_itemCountOf_13 ?_
    refine J_goto 18 dX5_itemCountOf_14 (by decide) ?_
    refine JM_iret rfl dX5_itemCountOf_18 ?_
    exact hQ

set_option maxRecDepth 100000 in
set_option maxHeartbeats 4000000 in
theorem l_heldBits {X : Cx} {d : Nat} {Q : Option MV → Om → Prop} {ω : Om} {t a : Int} (ha : a = 0 ∨ a = 6) : ∀ (n k : Nat), k + n = 6 → Q (some (vI (bitsF (fun k => decide (¬ hb ω t (a + k) = -1)) 6))) ω → JM X mX5_heldBits (d + 1) Q 6 [some (vR 3), some (vI t), some (vI a), some (vI (a + 6)), some (vI (bitsF (fun k => decide (¬ hb ω t (a + k) = -1)) k)), some (vI (a + k))] [] ω := by
  intro n
  induction n with
  | zero =>
    intro k hk hQ
    refine J_iload 5 dX5_heldBits_6 rfl ?_
    refine J_iload_n 3 dX5_heldBits_8 rfl ?_
    refine J_icmp_ge 40 dX5_heldBits_9 (by decide) (fun h9 => ?_) (fun h9 => ?_)
    · skip
      refine J_iload 4 dX5_heldBits_40 rfl ?_
      refine JM_iret rfl dX5_heldBits_42 ?_
      rw [show k = 6 from by omega]; exact hQ
    · skip
      exfalso; omega
  | succ n ih =>
    intro k hk hQ
    refine J_iload 5 dX5_heldBits_6 rfl ?_
    refine J_iload_n 3 dX5_heldBits_8 rfl ?_
    refine J_icmp_ge 40 dX5_heldBits_9 (by decide) (fun h9 => ?_) (fun h9 => ?_)
    · skip
      exfalso; omega
    · skip
      refine J_aload_n 0 dX5_heldBits_12 rfl ?_
      refine J_iload_n 1 dX5_heldBits_13 rfl ?_
      refine J_iload 5 dX5_heldBits_14 rfl ?_
      refine JM_V2 lkM_X5_51 rcv_3 dX5_heldBits_16 (by decide) (Nat.le_of_ble_eq_true rfl) ?_
      refine kX5_heldBy ?_
      refine J_iconst (-1) dX5_heldBits_19 ⟨by decide, by decide⟩ ?_
      refine J_icmp_eq 34 dX5_heldBits_20 (by decide) (fun h20 => ?_) (fun h20 => ?_)
      · skip
        refine J_iinc_5 dX5_heldBits_34 (by decide) ⟨by omega, by omega⟩ rfl ?_
        refine J_goto 6 dX5_heldBits_37 (by decide) ?_
        have e := ih (k + 1) (by omega) hQ
        rw [bitsF] at e
        rw [show a + (k : Int) + 1 = a + ((k + 1 : Nat) : Int) from by omega]
        first | (rw [if_pos (by simpa using h20)] at e; exact e) | (rw [if_neg (by simpa using h20)] at e; exact e)
      · skip
        refine J_iload 4 dX5_heldBits_23 rfl ?_
        refine J_iconst 1 dX5_heldBits_25 ⟨by decide, by decide⟩ ?_
        refine J_iload 5 dX5_heldBits_26 rfl ?_
        refine J_iload_n 2 dX5_heldBits_28 rfl ?_
        refine J_isub dX5_heldBits_29 ⟨by omega, by omega⟩ ?_
        rw [show a + (k : Int) - a = k from by omega]
        refine J_ishl dX5_heldBits_30 ?_
        refine J_ior dX5_heldBits_31 ?_
        refine J_istore_4 dX5_heldBits_32 (by decide) rfl ?_
        refine J_iinc_5 dX5_heldBits_34 (by decide) ⟨by omega, by omega⟩ rfl ?_
        refine J_goto 6 dX5_heldBits_37 (by decide) ?_
        have e := ih (k + 1) (by omega) hQ
        rw [bitsF] at e
        rw [show a + (k : Int) + 1 = a + ((k + 1 : Nat) : Int) from by omega]
        first | (rw [if_pos (by simpa using h20)] at e; exact e) | (rw [if_neg (by simpa using h20)] at e; exact e)

set_option maxRecDepth 100000 in
set_option maxHeartbeats 4000000 in
theorem kX5_heldBits {X : Cx} {d : Nat} {ω : Om} {Q : Option MV → Om → Prop} {t a b : Int} (ha : a = 0 ∨ a = 6) (hab : b = a + 6) (hQ : Q (some (vI (bitsF (fun k => decide (¬ hb ω t (a + k) = -1)) 6))) ω) : Mc X mX5_heldBits (d + 1) [vR 3, vI t, vI a, vI b] ω Q := by
  refine Mc_of [some (vR 3), some (vI t), some (vI a), some (vI b), none, none] (by decide +kernel) rfl (Nat.le_of_ble_eq_true rfl) ?_
  refine J_iconst 0 dX5_heldBits_0 ⟨by decide, by decide⟩ ?_
  refine J_istore_4 dX5_heldBits_1 (by decide) rfl ?_
  refine J_iload_n 2 dX5_heldBits_3 rfl ?_
  refine J_istore_5 dX5_heldBits_4 (by decide) rfl ?_
  subst hab
  have e := l_heldBits (X := X) (d := d) (Q := Q) (t := t) ha 6 0 rfl hQ
  rw [show a + ((0 : Nat) : Int) = a from by omega] at e
  exact e

set_option maxRecDepth 100000 in
set_option maxHeartbeats 4000000 in
theorem l_newBody {X : Cx} {d : Nat} {Q : Option MV → Om → Prop} {ω1 : Om} {m b : Int} (hm : 0 ≤ m ∧ m < 12) (hb : 0 ≤ b ∧ b < 40) : ∀ (n p : Nat) (ω : Om), p + n = 6 → Fr [18] ω1 ω → (∀ q : Int, 0 ≤ q → q < p → ω 18 (b * 6 + q) = ω1 11 (m * 6 + q)) → (∀ q, (q < b * 6 ∨ b * 6 + 6 ≤ q) → ω 18 q = ω1 18 q) → (∀ ω', Fr [18] ω1 ω' → (∀ q : Int, 0 ≤ q → q < 6 → ω' 18 (b * 6 + q) = ω1 11 (m * 6 + q)) → (∀ q, (q < b * 6 ∨ b * 6 + 6 ≤ q) → ω' 18 q = ω1 18 q) → Q (some (vI b)) ω') → JM X mX5_newBody (d + 2) Q 41 [some (vR 3), some (vR 2), some (vI m), some (vI b), some (vI p)] [] ω := by
  intro n
  induction n with
  | zero =>
    intro p ω hp hF hc ho hQ
    refine J_iload 4 dX5_newBody_41 rfl ?_
    refine J_bipush 6 dX5_newBody_43 ⟨by decide, by decide⟩ (by decide) ?_
    refine J_icmp_ge 73 dX5_newBody_45 (by decide) (fun h45 => ?_) (fun h45 => ?_)
    · skip
      refine J_iload_n 3 dX5_newBody_73 rfl ?_
      refine JM_iret rfl dX5_newBody_74 ?_
      exact hQ ω hF (fun q a b => hc q a (by omega)) ho
    · skip
      exfalso; omega
  | succ n ih =>
    intro p ω hp hF hc ho hQ
    refine J_iload 4 dX5_newBody_41 rfl ?_
    refine J_bipush 6 dX5_newBody_43 ⟨by decide, by decide⟩ (by decide) ?_
    refine J_icmp_ge 73 dX5_newBody_45 (by decide) (fun h45 => ?_) (fun h45 => ?_)
    · skip
      exfalso; omega
    · skip
      refine J_aload_n 0 dX5_newBody_48 rfl ?_
      refine J_getR lkF_X5_31 rfl dX5_newBody_49 ?_
      refine J_iload_n 3 dX5_newBody_52 rfl ?_
      refine J_bipush 6 dX5_newBody_53 ⟨by decide, by decide⟩ (by decide) ?_
      refine J_imul dX5_newBody_55 ⟨by omega, by omega⟩ ?_
      refine J_iload 4 dX5_newBody_56 rfl ?_
      refine J_iadd dX5_newBody_58 ⟨by omega, by omega⟩ ?_
      refine J_aload_n 1 dX5_newBody_59 rfl ?_
      refine J_iload_n 2 dX5_newBody_60 rfl ?_
      refine J_iload 4 dX5_newBody_61 rfl ?_
      refine JM_V2 lkM_X5_96 rcv_2 dX5_newBody_63 (by decide) (Nat.le_of_ble_eq_true rfl) ?_
      refine kX2_itemAt hm (by omega) ?_
      refine J_iastore _ rfl (by omega) dX5_newBody_66 ?_
      refine J_iinc_4 dX5_newBody_67 (by decide) ⟨by omega, by omega⟩ rfl ?_
      refine J_goto 41 dX5_newBody_70 (by decide) ?_
      refine ih (p + 1) _ (by omega) (hF.up (by decide)) (fun q a b => ?_) (fun q hq => ?_) hQ
      · by_cases e : q = (p : Int)
        · subst e; rw [up_s, hF 11 (by decide)]
        · rw [up_i (by omega)]; exact hc q a (by omega)
      · rw [up_i (by omega)]; exact ho q hq

/-- body b is new, of member m of what the reader holds -/
def NbP (ω ω' : Om) (m : Int) : Prop := Fr [3, 17, 18] ω ω' ∧ (∀ i, i ≠ 8 → ω' 3 i = ω 3 i) ∧ ω' 3 8 = ω 3 8 + 1 ∧ ω' 17 (ω 3 8) = ω 10 m ∧ (∀ q, q ≠ ω 3 8 → ω' 17 q = ω 17 q) ∧ (∀ q : Int, 0 ≤ q → q < 6 → ω' 18 (ω 3 8 * 6 + q) = ω 11 (m * 6 + q)) ∧ ∀ q, (q < ω 3 8 * 6 ∨ ω 3 8 * 6 + 6 ≤ q) → ω' 18 q = ω 18 q
set_option maxRecDepth 100000 in
set_option maxHeartbeats 4000000 in
theorem kX5_newBody {X : Cx} {d : Nat} {ω : Om} {Q : Option MV → Om → Prop} {m : Int} (hm : 0 ≤ m ∧ m < 12) (hb : 0 ≤ ω 3 8 ∧ ω 3 8 < 40) (hQ : ∀ ω', NbP ω ω' m → Q (some (vI (ω 3 8))) ω') : Mc X mX5_newBody (d + 2) [vR 3, vR 2, vI m] ω Q := by
  refine Mc_of [some (vR 3), some (vR 2), some (vI m), none, none] (by decide +kernel) rfl (Nat.le_of_ble_eq_true rfl) ?_
  refine J_aload_n 0 dX5_newBody_0 rfl ?_
  refine J_getI 8 lkF_X5_38 rfl rfl rfl dX5_newBody_1 ?_
  refine J_istore_3 dX5_newBody_4 (by decide) rfl ?_
  refine J_iload_n 3 dX5_newBody_5 rfl ?_
  refine J_if_lt 15 dX5_newBody_6 (by decide) (fun h6 => ?_) (fun h6 => ?_)
  · skip
    exfalso; omega
  · skip
    refine J_iload_n 3 dX5_newBody_9 rfl ?_
    refine J_bipush 40 dX5_newBody_10 ⟨by decide, by decide⟩ (by decide) ?_
    refine J_icmp_lt 17 dX5_newBody_12 (by decide) (fun h12 => ?_) (fun h12 => ?_)
    · skip
      refine J_aload_n 0 dX5_newBody_17 rfl ?_
      first | refine J_dupR dX5_newBody_18 ?_ | refine J_dupI dX5_newBody_18 ?_
      refine J_getI 8 lkF_X5_38 rfl rfl rfl dX5_newBody_19 ?_
      refine J_iconst 1 dX5_newBody_22 ⟨by decide, by decide⟩ ?_
      refine J_iadd dX5_newBody_23 ⟨by omega, by omega⟩ ?_
      refine J_putI 8 lkF_X5_38 rfl fp_5_8 rfl dX5_newBody_24 ?_
      refine J_aload_n 0 dX5_newBody_27 rfl ?_
      refine J_getR lkF_X5_28 rfl dX5_newBody_28 ?_
      refine J_iload_n 3 dX5_newBody_31 rfl ?_
      refine J_aload_n 1 dX5_newBody_32 rfl ?_
      refine J_iload_n 2 dX5_newBody_33 rfl ?_
      refine JM_V1 lkM_X5_93 rcv_2 dX5_newBody_34 (by decide) (Nat.le_of_ble_eq_true rfl) ?_
      refine kX2_itemCountOf hm ?_
      rw [up_k (by decide)]
      refine J_iastore _ rfl (by omega) dX5_newBody_37 ?_
      refine J_iconst 0 dX5_newBody_38 ⟨by decide, by decide⟩ ?_
      refine J_istore_4 dX5_newBody_39 (by decide) rfl ?_
      refine l_newBody (ω1 := up (up ω 3 8 (ω 3 8 + 1)) 17 (ω 3 8) (ω 10 m)) hm hb 6 0 _ rfl Fr.rf (fun q a b => by omega) (fun q hq => rfl) (fun ω2 hF hc ho => ?_)
      refine hQ ω2 ⟨?_, fun i hi => ?_, ?_, ?_, fun q hq => ?_, fun q a b => ?_, fun q hq => ?_⟩
      · exact Fr.tr (b := up (up ω 3 8 (ω 3 8 + 1)) 17 (ω 3 8) (ω 10 m)) (Fr.up (Fr.up Fr.rf (by decide)) (by decide)) (hF.mono (by decide))
      · rw [hF 3 (by decide), up_k (by decide), up_i hi]
      · rw [hF 3 (by decide), up_k (by decide), up_s]
      · rw [hF 17 (by decide), up_s]
      · rw [hF 17 (by decide), up_i hq, up_k (by decide)]
      · rw [hc q a b, up_k (by decide), up_k (by decide)]
      · rw [ho q hq, up_k (by decide), up_k (by decide)]
    · skip
      exfalso; omega

set_option maxRecDepth 100000 in
set_option maxHeartbeats 4000000 in
theorem l_lle1 {X : Cx} {d : Nat} {Q : Option MV → Om → Prop} {ω : Om} {t : Nat} (hn : 0 < ω 3 7 ∧ ω 3 7 ≤ 8) (ht : (t : Int) < ω 3 7 - 1) : ∀ (n m : Nat) (x : Option MV), m + n = 12 → (∀ k : Nat, k < 12 * t + m → (fun k => decide ((if k % 12 < 6 then ω 16 (ω 3 7 - 1) else 12 * (ω 3 7 - 1)) ≤ hb ω (k / 12) (k % 12))) k = false) → Q (some (vI (if anyB (fun k => decide ((if k % 12 < 6 then ω 16 (ω 3 7 - 1) else 12 * (ω 3 7 - 1)) ≤ hb ω (k / 12) (k % 12))) (12 * (ω 3 7 - 1).toNat) = true then 1 else 0))) ω → (∀ x : Option MV, (∀ k : Nat, k < 12 * (t + 1) → (fun k => decide ((if k % 12 < 6 then ω 16 (ω 3 7 - 1) else 12 * (ω 3 7 - 1)) ≤ hb ω (k / 12) (k % 12))) k = false) → JM X mX5_lastLiesElsewhere (d + 1) Q 73 [some (vR 3), some (vI (ω 3 7 - 1)), some (vI t), some (vI 12), x] [] ω) → JM X mX5_lastLiesElsewhere (d + 1) Q 26 [some (vR 3), some (vI (ω 3 7 - 1)), some (vI t), some (vI m), x] [] ω := by
  intro n
  induction n with
  | zero =>
    intro m x hm hk hQ hK
    have e12 : m = 12 := by omega
    subst e12
    refine J_iload_n 3 dX5_lastLiesElsewhere_26 rfl ?_
    refine J_bipush 12 dX5_lastLiesElsewhere_27 ⟨by decide, by decide⟩ (by decide) ?_
    refine J_icmp_ge 73 dX5_lastLiesElsewhere_29 (by decide) (fun h29 => ?_) (fun h29 => ?_)
    · skip
      exact hK _ (fun k h => hk k (by omega))
    · skip
      exfalso; omega
  | succ n ih =>
    intro m x hm hk hQ hK
    have e1 : ((12 * t + m : Nat) : Int) / 12 = t := by omega
    have e2 : ((12 * t + m : Nat) : Int) % 12 = m := by omega
    refine J_iload_n 3 dX5_lastLiesElsewhere_26 rfl ?_
    refine J_bipush 12 dX5_lastLiesElsewhere_27 ⟨by decide, by decide⟩ (by decide) ?_
    refine J_icmp_ge 73 dX5_lastLiesElsewhere_29 (by decide) (fun h29 => ?_) (fun h29 => ?_)
    · skip
      exfalso; omega
    · skip
      refine J_iload_n 3 dX5_lastLiesElsewhere_32 rfl ?_
      refine JM_S1 lkM_X5_86 dX5_lastLiesElsewhere_33 (by decide) (Nat.le_of_ble_eq_true rfl) ?_
      refine kX6_isMethod ?_
      generalize hg : (if 0 ≤ (m : Int) ∧ (m : Int) < 6 then (1 : Int) else 0) = g
      have hg2 : (g = 1 ∧ (m : Int) < 6) ∨ (g = 0 ∧ ¬ (m : Int) < 6) := by
        subst hg
        split
        · left; exact ⟨rfl, by omega⟩
        · right; exact ⟨rfl, by omega⟩
      refine J_if_eq 48 dX5_lastLiesElsewhere_36 (by decide) (fun h36 => ?_) (fun h36 => ?_)
      · skip
        refine J_bipush 12 dX5_lastLiesElsewhere_48 ⟨by decide, by decide⟩ (by decide) ?_
        refine J_iload_n 1 dX5_lastLiesElsewhere_50 rfl ?_
        refine J_imul dX5_lastLiesElsewhere_51 ⟨by omega, by omega⟩ ?_
        refine J_istore_4 dX5_lastLiesElsewhere_52 (by decide) rfl ?_
        refine J_aload_n 0 dX5_lastLiesElsewhere_54 rfl ?_
        refine J_iload_n 2 dX5_lastLiesElsewhere_55 rfl ?_
        refine J_iload_n 3 dX5_lastLiesElsewhere_56 rfl ?_
        refine JM_V2 lkM_X5_51 rcv_3 dX5_lastLiesElsewhere_57 (by decide) (Nat.le_of_ble_eq_true rfl) ?_
        refine kX5_heldBy ?_
        refine J_iload 4 dX5_lastLiesElsewhere_60 rfl ?_
        refine J_icmp_lt 67 dX5_lastLiesElsewhere_62 (by decide) (fun h62 => ?_) (fun h62 => ?_)
        · skip
          refine J_iinc_3 dX5_lastLiesElsewhere_67 (by decide) ⟨by omega, by omega⟩ rfl ?_
          refine J_goto 26 dX5_lastLiesElsewhere_70 (by decide) ?_
          refine ih (m + 1) _ (by omega) (fun k h => ?_) hQ hK
          by_cases e : k = 12 * t + m
          · subst e
            simp only [decide_eq_false_iff_not]
            rw [e1, e2]
            first
              | (rw [if_pos (by omega)]; omega)
              | (rw [if_neg (by omega)]; omega)
          · exact hk k (by omega)
        · skip
          refine J_iconst 1 dX5_lastLiesElsewhere_65 ⟨by decide, by decide⟩ ?_
          refine JM_zret rfl (by omega) dX5_lastLiesElsewhere_66 ?_
          rw [if_pos] at hQ
          · exact hQ
          · refine (anyB_iff _).mpr ⟨12 * t + m, by omega, ?_⟩
            simp only [decide_eq_true_eq]
            rw [e1, e2]
            first
              | (rw [if_pos (by omega)]; omega)
              | (rw [if_neg (by omega)]; omega)
      · skip
        refine J_aload_n 0 dX5_lastLiesElsewhere_39 rfl ?_
        refine J_getR lkF_X5_25 rfl dX5_lastLiesElsewhere_40 ?_
        refine J_iload_n 1 dX5_lastLiesElsewhere_43 rfl ?_
        refine J_iaload _ rfl rfl (by omega) dX5_lastLiesElsewhere_44 ?_
        refine J_goto 52 dX5_lastLiesElsewhere_45 (by decide) ?_
        refine J_istore_4 dX5_lastLiesElsewhere_52 (by decide) rfl ?_
        refine J_aload_n 0 dX5_lastLiesElsewhere_54 rfl ?_
        refine J_iload_n 2 dX5_lastLiesElsewhere_55 rfl ?_
        refine J_iload_n 3 dX5_lastLiesElsewhere_56 rfl ?_
        refine JM_V2 lkM_X5_51 rcv_3 dX5_lastLiesElsewhere_57 (by decide) (Nat.le_of_ble_eq_true rfl) ?_
        refine kX5_heldBy ?_
        refine J_iload 4 dX5_lastLiesElsewhere_60 rfl ?_
        refine J_icmp_lt 67 dX5_lastLiesElsewhere_62 (by decide) (fun h62 => ?_) (fun h62 => ?_)
        · skip
          refine J_iinc_3 dX5_lastLiesElsewhere_67 (by decide) ⟨by omega, by omega⟩ rfl ?_
          refine J_goto 26 dX5_lastLiesElsewhere_70 (by decide) ?_
          refine ih (m + 1) _ (by omega) (fun k h => ?_) hQ hK
          by_cases e : k = 12 * t + m
          · subst e
            simp only [decide_eq_false_iff_not]
            rw [e1, e2]
            first
              | (rw [if_pos (by omega)]; omega)
              | (rw [if_neg (by omega)]; omega)
          · exact hk k (by omega)
        · skip
          refine J_iconst 1 dX5_lastLiesElsewhere_65 ⟨by decide, by decide⟩ ?_
          refine JM_zret rfl (by omega) dX5_lastLiesElsewhere_66 ?_
          rw [if_pos] at hQ
          · exact hQ
          · refine (anyB_iff _).mpr ⟨12 * t + m, by omega, ?_⟩
            simp only [decide_eq_true_eq]
            rw [e1, e2]
            first
              | (rw [if_pos (by omega)]; omega)
              | (rw [if_neg (by omega)]; omega)

set_option maxRecDepth 100000 in
set_option maxHeartbeats 4000000 in
theorem l_lle2 {X : Cx} {d : Nat} {Q : Option MV → Om → Prop} {ω : Om} (hn : 0 < ω 3 7 ∧ ω 3 7 ≤ 8) : ∀ (n t : Nat) (y x : Option MV), (t : Int) + n = ω 3 7 - 1 → (∀ k : Nat, k < 12 * t → (fun k => decide ((if k % 12 < 6 then ω 16 (ω 3 7 - 1) else 12 * (ω 3 7 - 1)) ≤ hb ω (k / 12) (k % 12))) k = false) → Q (some (vI (if anyB (fun k => decide ((if k % 12 < 6 then ω 16 (ω 3 7 - 1) else 12 * (ω 3 7 - 1)) ≤ hb ω (k / 12) (k % 12))) (12 * (ω 3 7 - 1).toNat) = true then 1 else 0))) ω → JM X mX5_lastLiesElsewhere (d + 1) Q 19 [some (vR 3), some (vI (ω 3 7 - 1)), some (vI t), y, x] [] ω := by
  intro n
  induction n with
  | zero =>
    intro t y x ht hk hQ
    refine J_iload_n 2 dX5_lastLiesElsewhere_19 rfl ?_
    refine J_iload_n 1 dX5_lastLiesElsewhere_20 rfl ?_
    refine J_icmp_ge 79 dX5_lastLiesElsewhere_21 (by decide) (fun h21 => ?_) (fun h21 => ?_)
    · skip
      refine J_iconst 0 dX5_lastLiesElsewhere_79 ⟨by decide, by decide⟩ ?_
      refine JM_zret rfl (by omega) dX5_lastLiesElsewhere_80 ?_
      rw [if_neg (by rw [anyB_no (fun k h => hk k (by omega))]; decide)] at hQ; exact hQ
    · skip
      exfalso; omega
  | succ n ih =>
    intro t y x ht hk hQ
    refine J_iload_n 2 dX5_lastLiesElsewhere_19 rfl ?_
    refine J_iload_n 1 dX5_lastLiesElsewhere_20 rfl ?_
    refine J_icmp_ge 79 dX5_lastLiesElsewhere_21 (by decide) (fun h21 => ?_) (fun h21 => ?_)
    · skip
      exfalso; omega
    · skip
      refine J_iconst 0 dX5_lastLiesElsewhere_24 ⟨by decide, by decide⟩ ?_
      refine J_istore_3 dX5_lastLiesElsewhere_25 (by decide) rfl ?_
      refine l_lle1 hn (by omega) 12 0 x rfl hk hQ (fun x1 hk1 => ?_)
      refine J_iinc_2 dX5_lastLiesElsewhere_73 (by decide) ⟨by omega, by omega⟩ rfl ?_
      refine J_goto 19 dX5_lastLiesElsewhere_76 (by decide) ?_
      exact ih (t + 1) _ _ (by omega) hk1 hQ

set_option maxRecDepth 100000 in
set_option maxHeartbeats 4000000 in
theorem kX5_lastLiesElsewhere {X : Cx} {d : Nat} {ω : Om} {Q : Option MV → Om → Prop} (hn : 0 < ω 3 7 ∧ ω 3 7 ≤ 8) (hQ : Q (some (vI (if anyB (fun k => decide ((if k % 12 < 6 then ω 16 (ω 3 7 - 1) else 12 * (ω 3 7 - 1)) ≤ hb ω (k / 12) (k % 12))) (12 * (ω 3 7 - 1).toNat) = true then 1 else 0))) ω) : Mc X mX5_lastLiesElsewhere (d + 1) [vR 3] ω Q := by
  refine Mc_of [some (vR 3), none, none, none, none] (by decide +kernel) rfl (Nat.le_of_ble_eq_true rfl) ?_
  refine J_aload_n 0 dX5_lastLiesElsewhere_0 rfl ?_
  refine J_getI 7 lkF_X5_34 rfl rfl rfl dX5_lastLiesElsewhere_1 ?_
  refine J_iconst 1 dX5_lastLiesElsewhere_4 ⟨by decide, by decide⟩ ?_
  refine J_isub dX5_lastLiesElsewhere_5 ⟨by omega, by omega⟩ ?_
  refine J_istore_1 dX5_lastLiesElsewhere_6 (by decide) rfl ?_
  refine J_aload_n 0 dX5_lastLiesElsewhere_7 rfl ?_
  refine J_iload_n 1 dX5_lastLiesElsewhere_8 rfl ?_
  refine JM_V1 lkM_X5_44 rcv_3 dX5_lastLiesElsewhere_9 (by decide) (Nat.le_of_ble_eq_true rfl) ?_
  refine kX5_hasType ?_
  rw [if_pos (by omega)]
  refine J_if_ne 17 dX5_lastLiesElsewhere_12 (by decide) (fun h12 => ?_) (fun h12 => ?_)
  · skip
    refine J_iconst 0 dX5_lastLiesElsewhere_17 ⟨by decide, by decide⟩ ?_
    refine J_istore_2 dX5_lastLiesElsewhere_18 (by decide) rfl ?_
    exact l_lle2 hn (ω 3 7 - 1).toNat 0 _ _ (by omega) (fun k h => absurd h (by omega)) hQ
  · skip
    exact absurd h12 (by decide)

set_option maxRecDepth 100000 in
set_option maxHeartbeats 4000000 in
theorem kX5_removeLast {X : Cx} {d : Nat} {ω : Om} {Q : Option MV → Om → Prop} (hn : 0 < ω 3 7 ∧ ω 3 7 ≤ 8) (hv : 0 ≤ ω 3 9 ∧ ω 3 9 < 1000000) (hQ : Q none (up (up (up ω 3 8 (ω 16 (ω 3 7 - 1))) 3 7 (ω 3 7 - 1)) 3 9 (ω 3 9 + 1))) : Mc X mX5_removeLast (d + 1) [vR 3] ω Q := by
  refine Mc_of [some (vR 3), none] (by decide +kernel) rfl (Nat.le_of_ble_eq_true rfl) ?_
  refine J_aload_n 0 dX5_removeLast_0 rfl ?_
  refine J_getI 7 lkF_X5_34 rfl rfl rfl dX5_removeLast_1 ?_
  refine J_iconst 1 dX5_removeLast_4 ⟨by decide, by decide⟩ ?_
  refine J_isub dX5_removeLast_5 ⟨by omega, by omega⟩ ?_
  refine J_istore_1 dX5_removeLast_6 (by decide) rfl ?_
  refine J_aload_n 0 dX5_removeLast_7 rfl ?_
  refine J_iload_n 1 dX5_removeLast_8 rfl ?_
  refine JM_V1 lkM_X5_44 rcv_3 dX5_removeLast_9 (by decide) (Nat.le_of_ble_eq_true rfl) ?_
  refine kX5_hasType ?_
  rw [if_pos (by omega)]
  refine J_if_eq 40 dX5_removeLast_12 (by decide) (fun h12 => ?_) (fun h12 => ?_)
  · skip
    exact absurd h12 (by decide)
  · skip
    refine J_aload_n 0 dX5_removeLast_15 rfl ?_
    refine J_aload_n 0 dX5_removeLast_16 rfl ?_
    refine J_getR lkF_X5_25 rfl dX5_removeLast_17 ?_
    refine J_iload_n 1 dX5_removeLast_20 rfl ?_
    refine J_iaload _ rfl rfl (by omega) dX5_removeLast_21 ?_
    refine J_putI 8 lkF_X5_38 rfl fp_5_8 rfl dX5_removeLast_22 ?_
    refine J_aload_n 0 dX5_removeLast_25 rfl ?_
    refine J_iload_n 1 dX5_removeLast_26 rfl ?_
    refine J_putI 7 lkF_X5_34 rfl fp_5_7 rfl dX5_removeLast_27 ?_
    refine J_aload_n 0 dX5_removeLast_30 rfl ?_
    first | refine J_dupR dX5_removeLast_31 ?_ | refine J_dupI dX5_removeLast_31 ?_
    refine J_getI 9 lkF_X5_41 rfl rfl rfl dX5_removeLast_32 ?_
    try simp (config := {decide := true}) only [up_s, up_k, up_i]
    refine J_iconst 1 dX5_removeLast_35 ⟨by decide, by decide⟩ ?_
    refine J_iadd dX5_removeLast_36 ⟨by omega, by omega⟩ ?_
    refine J_putI 9 lkF_X5_41 rfl fp_5_9 rfl dX5_removeLast_37 ?_
    refine JM_vret rfl dX5_removeLast_40 ?_
    exact hQ
