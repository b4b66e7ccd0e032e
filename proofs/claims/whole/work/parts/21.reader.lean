/-- the reader's cells hold s -/
def RdC (ω : Om) (n : Int) (s : RS) : Prop := ω 2 3 = s.1 ∧ ω 2 4 = n ∧ ω 2 5 = s.2.1 ∧ ω 2 6 = s.2.2.1.length ∧ Arr (ω 9) s.2.2.1 ∧ ω 2 7 = s.2.2.2.1 ∧ ω 2 8 = s.2.2.2.2.1 ∧ ∀ m ∈ s.2.2.1, ω 10 m = (s.2.2.2.2.2 m).length ∧ Arr (fun i => ω 11 (m * 6 + i)) (s.2.2.2.2.2 m)
def TkR (n : Int) (o : Option RS) (r : Int) (ω : Om) : Prop := (o = none ∧ r = 0) ∨ ∃ s', o = some s' ∧ r = 1 ∧ RdC ω n s'
theorem RdC_go {ω : Om} {n : Int} {s : RS} {st : Int} (h : RdC ω n s) : RdC (up ω 2 3 st) n (goS s st) := by
  obtain ⟨a1, a2, a3, a4, a5, a6, a7, a8⟩ := h
  refine ⟨by rw [up_s]; rfl, by rw [up_i (by decide)]; exact a2, by rw [up_i (by decide)]; exact a3, by rw [up_i (by decide)]; exact a4, by rw [up_f (by decide)]; exact a5, by rw [up_i (by decide)]; exact a6, by rw [up_i (by decide)]; exact a7, fun m hm => ?_⟩
  rw [up_f (by decide), up_f (by decide)]; exact a8 m hm
theorem RdC_par {ω : Om} {n : Int} {s : RS} {p : Int} (h : RdC ω n s) : RdC (up (up ω 2 5 p) 2 3 3) n (3, p, s.2.2) := by
  obtain ⟨a1, a2, a3, a4, a5, a6, a7, a8⟩ := h
  refine ⟨by rw [up_s], by rw [up_i (by decide), up_i (by decide)]; exact a2, by rw [up_i (by decide), up_s], by rw [up_i (by decide), up_i (by decide)]; exact a4, by rw [up_f (by decide), up_f (by decide)]; exact a5, by rw [up_i (by decide), up_i (by decide)]; exact a6, by rw [up_i (by decide), up_i (by decide)]; exact a7, fun m hm => ?_⟩
  rw [up_f (by decide), up_f (by decide), up_f (by decide), up_f (by decide)]; exact a8 m hm
theorem RdC_dash {ω : Om} {n : Int} {s : RS} {h' : Int} (h : RdC ω n s) : RdC (up (up ω 2 8 h') 2 3 6) n (6, s.2.1, s.2.2.1, s.2.2.2.1, h', s.2.2.2.2.2) := by
  obtain ⟨a1, a2, a3, a4, a5, a6, a7, a8⟩ := h
  refine ⟨by rw [up_s], by rw [up_i (by decide), up_i (by decide)]; exact a2, by rw [up_i (by decide), up_i (by decide)]; exact a3, by rw [up_i (by decide), up_i (by decide)]; exact a4, by rw [up_f (by decide), up_f (by decide)]; exact a5, by rw [up_i (by decide), up_i (by decide)]; exact a6, by rw [up_i (by decide), up_s], fun m hm => ?_⟩
  rw [up_f (by decide), up_f (by decide), up_f (by decide), up_f (by decide)]; exact a8 m hm
theorem RdC_memb {ω : Om} {n : Int} {s : RS} {m st : Int} (h : RdC ω n s) (hn : m ∉ s.2.2.1) : RdC (up (up (up (up (up ω 9 (ω 2 6) m) 2 6 (ω 2 6 + 1)) 2 7 (zOr (ω 2 7) (zShl 1 m))) 10 m 0) 2 3 st) n (st, s.2.1, m :: s.2.2.1, zOr s.2.2.2.1 (zShl 1 m), s.2.2.2.2.1, setI s.2.2.2.2.2 m []) := by
  obtain ⟨a1, a2, a3, a4, a5, a6, a7, a8⟩ := h
  refine ⟨by rw [up_s], ?_, ?_, ?_, ?_, ?_, ?_, fun q hq => ?_⟩
  · rw [up_i (by decide), up_k (by decide), up_i (by decide), up_i (by decide), up_k (by decide)]; exact a2
  · rw [up_i (by decide), up_k (by decide), up_i (by decide), up_i (by decide), up_k (by decide)]; exact a3
  · rw [up_i (by decide), up_k (by decide), up_i (by decide), up_s, a4]; simp
  · rw [up_f (by decide), up_f (by decide), up_f (by decide), up_f (by decide), a4]; exact Arr_push a5
  · rw [up_i (by decide), up_k (by decide), up_s, a6]
  · rw [up_i (by decide), up_k (by decide), up_i (by decide), up_i (by decide), up_k (by decide)]; exact a7
  · have e11 : (up (up (up (up (up ω 9 (ω 2 6) m) 2 6 (ω 2 6 + 1)) 2 7 (zOr (ω 2 7) (zShl 1 m))) 10 m 0) 2 3 st) 11 = ω 11 := by rw [up_f (by decide), up_f (by decide), up_f (by decide), up_f (by decide), up_f (by decide)]
    rw [e11, up_k (by decide)]
    simp only [setI]
    by_cases e : q = m
    · subst e; rw [up_s, if_pos rfl]; exact ⟨rfl, trivial⟩
    · rw [up_i e, up_k (by decide), up_k (by decide), up_k (by decide), if_neg e]
      exact a8 q ((List.mem_cons.mp hq).resolve_left e)
theorem RdC_add {ω : Om} {n : Int} {s : RS} {r it : Int} {l : List Int} (h : RdC ω n s) (e : s.2.2.1 = r :: l) (hr : 0 ≤ r ∧ r < 12) (hN : ∀ m ∈ s.2.2.1, 0 ≤ m ∧ m < 12) (hl : (s.2.2.2.2.2 r).length < 6) (hl6 : ∀ m ∈ s.2.2.1, (s.2.2.2.2.2 m).length ≤ 6) : RdC (up (up (up ω 11 (r * 6 + ω 10 r) it) 10 r (ω 10 r + 1)) 2 3 7) n (addS s it) := by
  obtain ⟨a1, a2, a3, a4, a5, a6, a7, a8⟩ := h
  have el : lastS s = r := by unfold lastS; rw [e]
  have hcr := (a8 r (by rw [e]; exact List.mem_cons_self)).1
  refine ⟨by rw [up_s]; rfl, by rw [up_i (by decide), up_k (by decide), up_k (by decide)]; exact a2, by rw [up_i (by decide), up_k (by decide), up_k (by decide)]; exact a3, by rw [up_i (by decide), up_k (by decide), up_k (by decide)]; exact a4, by rw [up_f (by decide), up_f (by decide), up_f (by decide)]; exact a5, by rw [up_i (by decide), up_k (by decide), up_k (by decide)]; exact a6, by rw [up_i (by decide), up_k (by decide), up_k (by decide)]; exact a7, fun q hq => ?_⟩
  have aq := a8 q hq
  have hq12 := hN q hq
  have hq6 := hl6 q hq
  simp only [addS, setI, el]
  rw [up_k (by decide)]
  by_cases eq : q = r
  · subst eq
    rw [up_s, if_pos rfl, aq.1]
    refine ⟨by simp, ⟨?_, Arr_cg (fun i hi => ?_) aq.2⟩⟩
    · show up (up (up ω 11 _ it) 10 _ _) 2 3 7 11 _ = it
      rw [up_k (by decide), up_k (by decide), up_s]
    · show up (up (up ω 11 _ it) 10 _ _) 2 3 7 11 _ = _
      rw [up_k (by decide), up_k (by decide), up_i (by omega)]
  · rw [up_i eq, up_k (by decide), if_neg eq]
    refine ⟨aq.1, Arr_cg (fun i hi => ?_) aq.2⟩
    show up (up (up ω 11 _ it) 10 _ _) 2 3 7 11 _ = _
    rw [up_k (by decide), up_k (by decide), up_i (by omega)]
theorem rdS_0 {n c : Int} {s : RS} (h : s.1 = 0) : rdS n c s = if c = 65 + n then some (goS s 1) else none := by unfold rdS; rw [if_pos h]
theorem rdS_1 {n c : Int} {s : RS} (h : s.1 = 1) : rdS n c s = if c = 58 then some (goS s 4) else if c = 60 ∧ 0 < n then some (goS s 2) else none := by unfold rdS; rw [if_neg (by omega), if_pos h]
theorem rdS_2 {n c : Int} {s : RS} (h : s.1 = 2) : rdS n c s = if 0 ≤ c - 65 ∧ c - 65 < n then some (3, c - 65, s.2.2) else none := by unfold rdS; rw [if_neg (by omega), if_neg (by omega), if_pos h]
theorem rdS_3 {n c : Int} {s : RS} (h : s.1 = 3) : rdS n c s = if c = 58 then some (goS s 4) else none := by unfold rdS; rw [if_neg (by omega), if_neg (by omega), if_neg (by omega), if_pos h]
theorem rdS_4 {n c : Int} {s : RS} (h : s.1 = 4) : rdS n c s = membS c s := by unfold rdS; rw [if_neg (by omega), if_neg (by omega), if_neg (by omega), if_neg (by omega), if_pos h]
theorem rdS_5 {n c : Int} {s : RS} (h : s.1 = 5) : rdS n c s = if c = 45 then some (6, s.2.1, s.2.2.1, s.2.2.2.1, zOr s.2.2.2.2.1 (zShl 1 (lastS s)), s.2.2.2.2.2) else behS c s := by unfold rdS; rw [if_neg (by omega), if_neg (by omega), if_neg (by omega), if_neg (by omega), if_neg (by omega), if_pos h]
theorem rdS_6 {n c : Int} {s : RS} (h : s.1 = 6) : rdS n c s = behS c s := by unfold rdS; rw [if_neg (by omega), if_neg (by omega), if_neg (by omega), if_neg (by omega), if_neg (by omega), if_neg (by omega), if_pos h]
theorem rdS_7 {n c : Int} {s : RS} (h : s.1 = 7) : rdS n c s = itmS c s := by unfold rdS; rw [if_neg (by omega), if_neg (by omega), if_neg (by omega), if_neg (by omega), if_neg (by omega), if_neg (by omega), if_neg (by omega), if_pos h]
theorem rdS_8 {n c : Int} {s : RS} (h : s.1 = 8) : rdS n c s = askS c s := by unfold rdS; rw [if_neg (by omega), if_neg (by omega), if_neg (by omega), if_neg (by omega), if_neg (by omega), if_neg (by omega), if_neg (by omega), if_neg (by omega)]
set_option maxRecDepth 100000 in
set_option maxHeartbeats 4000000 in
theorem kX1_wipe {X : Cx} {d : Nat} {ω : Om} {Q : Option MV → Om → Prop} (hQ : Q none (up ω 1 1 0)) : Mc X mX1_wipe d [vR 1] ω Q := by
  refine Mc_of [some (vR 1)] (by decide +kernel) rfl (Nat.le_of_ble_eq_true rfl) ?_
  refine J_aload_n 0 dX1_wipe_0 rfl ?_
  refine J_iconst 0 dX1_wipe_1 ⟨by decide, by decide⟩ ?_
  refine J_putI 1 lkF_X1_15 rfl fp_1_1 rfl dX1_wipe_2 ?_
  refine JM_vret rfl dX1_wipe_5 ?_
  exact hQ

set_option maxRecDepth 100000 in
set_option maxHeartbeats 4000000 in
theorem kX1_codeAt {X : Cx} {d : Nat} {ω : Om} {Q : Option MV → Om → Prop} {p : Int} (hp : 0 ≤ p ∧ p < ω 1 1 ∧ p < 40) (hQ : Q (some (vI (ω 8 p))) ω) : Mc X mX1_codeAt d [vR 1, vI p] ω Q := by
  refine Mc_of [some (vR 1), some (vI p)] (by decide +kernel) rfl (Nat.le_of_ble_eq_true rfl) ?_
  refine J_iload_n 1 dX1_codeAt_0 rfl ?_
  refine J_if_lt 27 dX1_codeAt_1 (by decide) (fun h1 => ?_) (fun h1 => ?_)
  · skip
    exfalso; omega
  · skip
    refine J_iload_n 1 dX1_codeAt_4 rfl ?_
    refine J_aload_n 0 dX1_codeAt_5 rfl ?_
    refine J_getI 1 lkF_X1_15 rfl rfl rfl dX1_codeAt_6 ?_
    refine J_icmp_ge 27 dX1_codeAt_9 (by decide) (fun h9 => ?_) (fun h9 => ?_)
    · skip
      exfalso; omega
    · skip
      refine J_iload_n 1 dX1_codeAt_12 rfl ?_
      refine J_bipush 40 dX1_codeAt_13 ⟨by decide, by decide⟩ (by decide) ?_
      refine J_icmp_ge 27 dX1_codeAt_15 (by decide) (fun h15 => ?_) (fun h15 => ?_)
      · skip
        exfalso; omega
      · skip
        refine J_aload_n 0 dX1_codeAt_18 rfl ?_
        refine J_getR lkF_X1_9 rfl dX1_codeAt_19 ?_
        refine J_iload_n 1 dX1_codeAt_22 rfl ?_
        refine J_iaload _ rfl rfl (by omega) dX1_codeAt_23 ?_
        refine J_goto 28 dX1_codeAt_24 (by decide) ?_
        refine JM_iret rfl dX1_codeAt_28 ?_
        exact hQ

set_option maxRecDepth 100000 in
set_option maxHeartbeats 4000000 in
theorem kX1_append {X : Cx} {d : Nat} {ω : Om} {Q : Option MV → Om → Prop} {c : Int} (h0 : 0 ≤ ω 1 1) (hQ : if ω 1 1 < 40 then Q (some (vI 1)) (up (up ω 8 (ω 1 1) c) 1 1 (ω 1 1 + 1)) else Q (some (vI 0)) ω) : Mc X mX1_append d [vR 1, vI c] ω Q := by
  refine Mc_of [some (vR 1), some (vI c)] (by decide +kernel) rfl (Nat.le_of_ble_eq_true rfl) ?_
  refine J_aload_n 0 dX1_append_0 rfl ?_
  refine J_getI 1 lkF_X1_15 rfl rfl rfl dX1_append_1 ?_
  refine J_bipush 40 dX1_append_4 ⟨by decide, by decide⟩ (by decide) ?_
  refine J_icmp_lt 11 dX1_append_6 (by decide) (fun h6 => ?_) (fun h6 => ?_)
  · skip
    rw [if_pos h6] at hQ
    refine J_aload_n 0 dX1_append_11 rfl ?_
    refine J_getR lkF_X1_9 rfl dX1_append_12 ?_
    refine J_aload_n 0 dX1_append_15 rfl ?_
    refine J_getI 1 lkF_X1_15 rfl rfl rfl dX1_append_16 ?_
    refine J_iload_n 1 dX1_append_19 rfl ?_
    refine J_iastore _ rfl (by omega) dX1_append_20 ?_
    refine J_aload_n 0 dX1_append_21 rfl ?_
    first | refine J_dupR dX1_append_22 ?_ | refine J_dupI dX1_append_22 ?_
    refine J_getI 1 lkF_X1_15 rfl rfl rfl dX1_append_23 ?_
    try simp (config := {decide := true}) only [up_s, up_k, up_i]
    refine J_iconst 1 dX1_append_26 ⟨by decide, by decide⟩ ?_
    refine J_iadd dX1_append_27 ⟨by omega, by omega⟩ ?_
    refine J_putI 1 lkF_X1_15 rfl fp_1_1 rfl dX1_append_28 ?_
    refine J_iconst 1 dX1_append_31 ⟨by decide, by decide⟩ ?_
    refine JM_zret rfl (by omega) dX1_append_32 ?_
    exact hQ
  · skip
    rw [if_neg h6] at hQ
    refine J_iconst 0 dX1_append_9 ⟨by decide, by decide⟩ ?_
    refine JM_zret rfl (by omega) dX1_append_10 ?_
    exact hQ

set_option maxRecDepth 100000 in
set_option maxHeartbeats 4000000 in
theorem kX2_start {X : Cx} {d : Nat} {ω : Om} {Q : Option MV → Om → Prop} {n : Int} (hQ : ∀ ω', RdC ω' n rd0 → Fr [2, 9, 10, 11] ω ω' → Q none ω') : Mc X mX2_start d [vR 2, vI n] ω Q := by
  refine Mc_of [some (vR 2), some (vI n)] (by decide +kernel) rfl (Nat.le_of_ble_eq_true rfl) ?_
  refine J_aload_n 0 dX2_start_0 rfl ?_
  refine J_iconst 0 dX2_start_1 ⟨by decide, by decide⟩ ?_
  refine J_putI 3 lkF_X2_39 rfl fp_2_3 rfl dX2_start_2 ?_
  refine J_aload_n 0 dX2_start_5 rfl ?_
  refine J_iload_n 1 dX2_start_6 rfl ?_
  refine J_putI 4 lkF_X2_56 rfl fp_2_4 rfl dX2_start_7 ?_
  refine J_aload_n 0 dX2_start_10 rfl ?_
  refine J_iconst (-1) dX2_start_11 ⟨by decide, by decide⟩ ?_
  refine J_putI 5 lkF_X2_59 rfl fp_2_5 rfl dX2_start_12 ?_
  refine J_aload_n 0 dX2_start_15 rfl ?_
  refine J_iconst 0 dX2_start_16 ⟨by decide, by decide⟩ ?_
  refine J_putI 6 lkF_X2_50 rfl fp_2_6 rfl dX2_start_17 ?_
  refine J_aload_n 0 dX2_start_20 rfl ?_
  refine J_iconst 0 dX2_start_21 ⟨by decide, by decide⟩ ?_
  refine J_putI 7 lkF_X2_42 rfl fp_2_7 rfl dX2_start_22 ?_
  refine J_aload_n 0 dX2_start_25 rfl ?_
  refine J_iconst 0 dX2_start_26 ⟨by decide, by decide⟩ ?_
  refine J_putI 8 lkF_X2_62 rfl fp_2_8 rfl dX2_start_27 ?_
  refine JM_vret rfl dX2_start_30 ?_
  refine hQ _ ⟨?_, ?_, ?_, ?_, trivial, ?_, ?_, fun m hm => absurd hm List.not_mem_nil⟩ (Fr.up (Fr.up (Fr.up (Fr.up (Fr.up (Fr.up Fr.rf (by decide)) (by decide)) (by decide)) (by decide)) (by decide)) (by decide))
  · rw [up_i (by decide), up_i (by decide), up_i (by decide), up_i (by decide), up_i (by decide), up_s]; rfl
  · rw [up_i (by decide), up_i (by decide), up_i (by decide), up_i (by decide), up_s]
  · rw [up_i (by decide), up_i (by decide), up_i (by decide), up_s]; rfl
  · rw [up_i (by decide), up_i (by decide), up_s]; rfl
  · rw [up_i (by decide), up_s]; rfl
  · rw [up_s]; rfl

set_option maxRecDepth 100000 in
set_option maxHeartbeats 4000000 in
theorem kX2_goOn {X : Cx} {d : Nat} {ω : Om} {Q : Option MV → Om → Prop} {b st : Int} (hb : b = 0 ∨ b = 1) (hQ : if b = 0 then Q (some (vI 0)) ω else Q (some (vI 1)) (up ω 2 3 st)) : Mc X mX2_goOn d [vR 2, vI b, vI st] ω Q := by
  refine Mc_of [some (vR 2), some (vI b), some (vI st)] (by decide +kernel) rfl (Nat.le_of_ble_eq_true rfl) ?_
  refine J_iload_n 1 dX2_goOn_0 rfl ?_
  refine J_if_eq 9 dX2_goOn_1 (by decide) (fun h1 => ?_) (fun h1 => ?_)
  · skip
    rw [if_pos h1] at hQ
    subst h1
    refine J_iload_n 1 dX2_goOn_9 rfl ?_
    refine JM_zret rfl (by omega) dX2_goOn_10 ?_
    exact hQ
  · skip
    rw [if_neg h1] at hQ
    have hb1 : b = 1 := by omega
    subst hb1
    refine J_aload_n 0 dX2_goOn_4 rfl ?_
    refine J_iload_n 2 dX2_goOn_5 rfl ?_
    refine J_putI 3 lkF_X2_39 rfl fp_2_3 rfl dX2_goOn_6 ?_
    refine J_iload_n 1 dX2_goOn_9 rfl ?_
    refine JM_zret rfl (by omega) dX2_goOn_10 ?_
    exact hQ

set_option maxRecDepth 100000 in
set_option maxHeartbeats 4000000 in
theorem kX2_memberOf {X : Cx} {d : Nat} {ω : Om} {Q : Option MV → Om → Prop} {c : Int} (hc : -100 ≤ c ∧ c ≤ 1000) (hQ : Q (some (vI (memS c))) ω) : Mc X mX2_memberOf d [vI c] ω Q := by
  unfold memS at hQ
  refine Mc_of [some (vI c)] (by decide +kernel) rfl (Nat.le_of_ble_eq_true rfl) ?_
  refine J_iload_n 0 dX2_memberOf_0 rfl ?_
  refine J_bipush 97 dX2_memberOf_1 ⟨by decide, by decide⟩ (by decide) ?_
  refine J_icmp_lt 17 dX2_memberOf_3 (by decide) (fun h3 => ?_) (fun h3 => ?_)
  · skip
    refine J_iload_n 0 dX2_memberOf_17 rfl ?_
    refine J_bipush 117 dX2_memberOf_18 ⟨by decide, by decide⟩ (by decide) ?_
    refine J_icmp_lt 39 dX2_memberOf_20 (by decide) (fun h20 => ?_) (fun h20 => ?_)
    · skip
      refine J_iconst (-1) dX2_memberOf_39 ⟨by decide, by decide⟩ ?_
      refine JM_iret rfl dX2_memberOf_40 ?_
      first
        | (rw [if_pos (by omega)] at hQ; exact hQ)
        | (rw [if_neg (by omega), if_pos (by omega)] at hQ; rw [show 6 + c - 117 = c - 117 + 6 from by omega]; exact hQ)
        | (rw [if_neg (by omega), if_neg (by omega)] at hQ; exact hQ)
    · skip
      refine J_iload_n 0 dX2_memberOf_23 rfl ?_
      refine J_bipush 122 dX2_memberOf_24 ⟨by decide, by decide⟩ (by decide) ?_
      refine J_icmp_gt 39 dX2_memberOf_26 (by decide) (fun h26 => ?_) (fun h26 => ?_)
      · skip
        refine J_iconst (-1) dX2_memberOf_39 ⟨by decide, by decide⟩ ?_
        refine JM_iret rfl dX2_memberOf_40 ?_
        first
          | (rw [if_pos (by omega)] at hQ; exact hQ)
          | (rw [if_neg (by omega), if_pos (by omega)] at hQ; rw [show 6 + c - 117 = c - 117 + 6 from by omega]; exact hQ)
          | (rw [if_neg (by omega), if_neg (by omega)] at hQ; exact hQ)
      · skip
        refine J_bipush 6 dX2_memberOf_29 ⟨by decide, by decide⟩ (by decide) ?_
        refine J_iload_n 0 dX2_memberOf_31 rfl ?_
        refine J_iadd dX2_memberOf_32 ⟨by omega, by omega⟩ ?_
        refine J_bipush 117 dX2_memberOf_33 ⟨by decide, by decide⟩ (by decide) ?_
        refine J_isub dX2_memberOf_35 ⟨by omega, by omega⟩ ?_
        refine J_goto 40 dX2_memberOf_36 (by decide) ?_
        refine JM_iret rfl dX2_memberOf_40 ?_
        first
          | (rw [if_pos (by omega)] at hQ; exact hQ)
          | (rw [if_neg (by omega), if_pos (by omega)] at hQ; rw [show 6 + c - 117 = c - 117 + 6 from by omega]; exact hQ)
          | (rw [if_neg (by omega), if_neg (by omega)] at hQ; exact hQ)
  · skip
    refine J_iload_n 0 dX2_memberOf_6 rfl ?_
    refine J_bipush 102 dX2_memberOf_7 ⟨by decide, by decide⟩ (by decide) ?_
    refine J_icmp_gt 17 dX2_memberOf_9 (by decide) (fun h9 => ?_) (fun h9 => ?_)
    · skip
      refine J_iload_n 0 dX2_memberOf_17 rfl ?_
      refine J_bipush 117 dX2_memberOf_18 ⟨by decide, by decide⟩ (by decide) ?_
      refine J_icmp_lt 39 dX2_memberOf_20 (by decide) (fun h20 => ?_) (fun h20 => ?_)
      · skip
        refine J_iconst (-1) dX2_memberOf_39 ⟨by decide, by decide⟩ ?_
        refine JM_iret rfl dX2_memberOf_40 ?_
        first
          | (rw [if_pos (by omega)] at hQ; exact hQ)
          | (rw [if_neg (by omega), if_pos (by omega)] at hQ; rw [show 6 + c - 117 = c - 117 + 6 from by omega]; exact hQ)
          | (rw [if_neg (by omega), if_neg (by omega)] at hQ; exact hQ)
      · skip
        refine J_iload_n 0 dX2_memberOf_23 rfl ?_
        refine J_bipush 122 dX2_memberOf_24 ⟨by decide, by decide⟩ (by decide) ?_
        refine J_icmp_gt 39 dX2_memberOf_26 (by decide) (fun h26 => ?_) (fun h26 => ?_)
        · skip
          refine J_iconst (-1) dX2_memberOf_39 ⟨by decide, by decide⟩ ?_
          refine JM_iret rfl dX2_memberOf_40 ?_
          first
            | (rw [if_pos (by omega)] at hQ; exact hQ)
            | (rw [if_neg (by omega), if_pos (by omega)] at hQ; rw [show 6 + c - 117 = c - 117 + 6 from by omega]; exact hQ)
            | (rw [if_neg (by omega), if_neg (by omega)] at hQ; exact hQ)
        · skip
          refine J_bipush 6 dX2_memberOf_29 ⟨by decide, by decide⟩ (by decide) ?_
          refine J_iload_n 0 dX2_memberOf_31 rfl ?_
          refine J_iadd dX2_memberOf_32 ⟨by omega, by omega⟩ ?_
          refine J_bipush 117 dX2_memberOf_33 ⟨by decide, by decide⟩ (by decide) ?_
          refine J_isub dX2_memberOf_35 ⟨by omega, by omega⟩ ?_
          refine J_goto 40 dX2_memberOf_36 (by decide) ?_
          refine JM_iret rfl dX2_memberOf_40 ?_
          first
            | (rw [if_pos (by omega)] at hQ; exact hQ)
            | (rw [if_neg (by omega), if_pos (by omega)] at hQ; rw [show 6 + c - 117 = c - 117 + 6 from by omega]; exact hQ)
            | (rw [if_neg (by omega), if_neg (by omega)] at hQ; exact hQ)
    · skip
      refine J_iload_n 0 dX2_memberOf_12 rfl ?_
      refine J_bipush 97 dX2_memberOf_13 ⟨by decide, by decide⟩ (by decide) ?_
      refine J_isub dX2_memberOf_15 ⟨by omega, by omega⟩ ?_
      refine JM_iret rfl dX2_memberOf_16 ?_
      first
        | (rw [if_pos (by omega)] at hQ; exact hQ)
        | (rw [if_neg (by omega), if_pos (by omega)] at hQ; rw [show 6 + c - 117 = c - 117 + 6 from by omega]; exact hQ)
        | (rw [if_neg (by omega), if_neg (by omega)] at hQ; exact hQ)

set_option maxRecDepth 100000 in
set_option maxHeartbeats 4000000 in
theorem kX2_memberAt {X : Cx} {d : Nat} {ω : Om} {Q : Option MV → Om → Prop} {p : Int} (hQ : Q (some (vI (if 0 ≤ p ∧ p < ω 2 6 ∧ p < 12 then ω 9 p else -1))) ω) : Mc X mX2_memberAt d [vR 2, vI p] ω Q := by
  refine Mc_of [some (vR 2), some (vI p)] (by decide +kernel) rfl (Nat.le_of_ble_eq_true rfl) ?_
  refine J_iload_n 1 dX2_memberAt_0 rfl ?_
  refine J_if_lt 27 dX2_memberAt_1 (by decide) (fun h1 => ?_) (fun h1 => ?_)
  · skip
    refine J_iconst (-1) dX2_memberAt_27 ⟨by decide, by decide⟩ ?_
    refine JM_iret rfl dX2_memberAt_28 ?_
    (repeat' split at hQ) <;> first | exact hQ | (exfalso; omega)
  · skip
    refine J_iload_n 1 dX2_memberAt_4 rfl ?_
    refine J_aload_n 0 dX2_memberAt_5 rfl ?_
    refine J_getI 6 lkF_X2_50 rfl rfl rfl dX2_memberAt_6 ?_
    refine J_icmp_ge 27 dX2_memberAt_9 (by decide) (fun h9 => ?_) (fun h9 => ?_)
    · skip
      refine J_iconst (-1) dX2_memberAt_27 ⟨by decide, by decide⟩ ?_
      refine JM_iret rfl dX2_memberAt_28 ?_
      (repeat' split at hQ) <;> first | exact hQ | (exfalso; omega)
    · skip
      refine J_iload_n 1 dX2_memberAt_12 rfl ?_
      refine J_bipush 12 dX2_memberAt_13 ⟨by decide, by decide⟩ (by decide) ?_
      refine J_icmp_ge 27 dX2_memberAt_15 (by decide) (fun h15 => ?_) (fun h15 => ?_)
      · skip
        refine J_iconst (-1) dX2_memberAt_27 ⟨by decide, by decide⟩ ?_
        refine JM_iret rfl dX2_memberAt_28 ?_
        (repeat' split at hQ) <;> first | exact hQ | (exfalso; omega)
      · skip
        refine J_aload_n 0 dX2_memberAt_18 rfl ?_
        refine J_getR lkF_X2_9 rfl dX2_memberAt_19 ?_
        refine J_iload_n 1 dX2_memberAt_22 rfl ?_
        refine J_iaload _ rfl rfl (by omega) dX2_memberAt_23 ?_
        refine J_goto 28 dX2_memberAt_24 (by decide) ?_
        refine JM_iret rfl dX2_memberAt_28 ?_
        (repeat' split at hQ) <;> first | exact hQ | (exfalso; omega)

set_option maxRecDepth 100000 in
set_option maxHeartbeats 4000000 in
theorem kX2_itemCountOf {X : Cx} {d : Nat} {ω : Om} {Q : Option MV → Om → Prop} {m : Int} (hm : 0 ≤ m ∧ m < 12) (hQ : Q (some (vI (ω 10 m))) ω) : Mc X mX2_itemCountOf d [vR 2, vI m] ω Q := by
  refine Mc_of [some (vR 2), some (vI m)] (by decide +kernel) rfl (Nat.le_of_ble_eq_true rfl) ?_
  refine J_iload_n 1 dX2_itemCountOf_0 rfl ?_
  refine J_if_lt 19 dX2_itemCountOf_1 (by decide) (fun h1 => ?_) (fun h1 => ?_)
  · skip
    exfalso; omega
  · skip
    refine J_iload_n 1 dX2_itemCountOf_4 rfl ?_
    refine J_bipush 12 dX2_itemCountOf_5 ⟨by decide, by decide⟩ (by decide) ?_
    refine J_icmp_ge 19 dX2_itemCountOf_7 (by decide) (fun h7 => ?_) (fun h7 => ?_)
    · skip
      exfalso; omega
    · skip
      refine J_aload_n 0 dX2_itemCountOf_10 rfl ?_
      refine J_getR lkF_X2_15 rfl dX2_itemCountOf_11 ?_
      refine J_iload_n 1 dX2_itemCountOf_14 rfl ?_
      refine J_iaload _ rfl rfl (by omega) dX2_itemCountOf_15 ?_
      refine J_goto 20 dX2_itemCountOf_16 (by decide) ?_
      refine JM_iret rfl dX2_itemCountOf_20 ?_
      exact hQ

set_option maxRecDepth 100000 in
set_option maxHeartbeats 4000000 in
theorem kX2_itemAt {X : Cx} {d : Nat} {ω : Om} {Q : Option MV → Om → Prop} {m p : Int} (hm : 0 ≤ m ∧ m < 12) (hp : 0 ≤ p ∧ p < 6) (hQ : Q (some (vI (ω 11 (m * 6 + p)))) ω) : Mc X mX2_itemAt (d + 1) [vR 2, vI m, vI p] ω Q := by
  refine Mc_of [some (vR 2), some (vI m), some (vI p)] (by decide +kernel) rfl (Nat.le_of_ble_eq_true rfl) ?_
  refine J_iload_n 1 dX2_itemAt_0 rfl ?_
  refine JM_S1 lkM_X2_53 dX2_itemAt_1 (by decide) (Nat.le_of_ble_eq_true rfl) ?_
  refine kX6_isMember ?_
  rw [if_pos (by omega)]
  refine J_if_eq 31 dX2_itemAt_4 (by decide) (fun h4 => ?_) (fun h4 => ?_)
  · skip
    exfalso; omega
  · skip
    refine J_iload_n 2 dX2_itemAt_7 rfl ?_
    refine J_if_lt 31 dX2_itemAt_8 (by decide) (fun h8 => ?_) (fun h8 => ?_)
    · skip
      exfalso; omega
    · skip
      refine J_iload_n 2 dX2_itemAt_11 rfl ?_
      refine J_bipush 6 dX2_itemAt_12 ⟨by decide, by decide⟩ (by decide) ?_
      refine J_icmp_ge 31 dX2_itemAt_14 (by decide) (fun h14 => ?_) (fun h14 => ?_)
      · skip
        exfalso; omega
      · skip
        refine J_aload_n 0 dX2_itemAt_17 rfl ?_
        refine J_getR lkF_X2_18 rfl dX2_itemAt_18 ?_
        refine J_iload_n 1 dX2_itemAt_21 rfl ?_
        refine J_bipush 6 dX2_itemAt_22 ⟨by decide, by decide⟩ (by decide) ?_
        refine J_imul dX2_itemAt_24 ⟨by omega, by omega⟩ ?_
        refine J_iload_n 2 dX2_itemAt_25 rfl ?_
        refine J_iadd dX2_itemAt_26 ⟨by omega, by omega⟩ ?_
        refine J_iaload _ rfl rfl (by omega) dX2_itemAt_27 ?_
        refine J_goto 32 dX2_itemAt_28 (by decide) ?_
        refine JM_iret rfl dX2_itemAt_32 ?_
        exact hQ

set_option maxRecDepth 100000 in
set_option maxHeartbeats 4000000 in
theorem kX2_takeMember {X : Cx} {d : Nat} {ω : Om} {Q : Option MV → Om → Prop} {n c : Int} {s : RS} (hR : RdC ω n s) (hW : RW n s) (hc : -100 ≤ c ∧ c ≤ 1000) (hQ : ∀ (r : Int) (ω' : Om), TkR n (membS c s) r ω' → Fr [2, 9, 10, 11] ω ω' → Q (some (vI r)) ω') : Mc X mX2_takeMember (d + 1) [vR 2, vI c] ω Q := by
  have hmr := memS_R c
  obtain ⟨a1, a2, a3, a4, a5, a6, a7, a8⟩ := id hR
  have hseen : 0 ≤ memS c → zb (ω 2 7) (memS c) = if memS c ∈ s.2.2.1 then 1 else 0 := fun q => by rw [a6]; exact hW.2.2.2.2.1 _ q hmr.2
  have h12 : s.2.2.1.length ≤ 12 := pigeon 12 _ hW.2.2.1 (fun x hx => by have := hW.2.2.2.1 x hx; omega)
  have h12n : memS c ∉ s.2.2.1 → 0 ≤ memS c → s.2.2.1.length < 12 := fun q q0 => by
    have := pigeon 12 (memS c :: s.2.2.1) (List.nodup_cons.mpr ⟨q, hW.2.2.1⟩) (fun x hx => by
      rcases List.mem_cons.mp hx with rfl | hx
      · omega
      · have := hW.2.2.2.1 x hx; omega)
    simp at this; omega
  clear hW
  unfold membS at hQ
  unfold zb at hseen
  refine Mc_of [some (vR 2), some (vI c), none] (by decide +kernel) rfl (Nat.le_of_ble_eq_true rfl) ?_
  refine J_iload_n 1 dX2_takeMember_0 rfl ?_
  refine JM_S1 lkM_X2_85 dX2_takeMember_1 (by decide) (Nat.le_of_ble_eq_true rfl) ?_
  refine kX2_memberOf hc ?_
  generalize memS c = m at hmr hseen h12n hQ ⊢
  refine J_istore_2 dX2_takeMember_4 (by decide) rfl ?_
  refine J_iload_n 2 dX2_takeMember_5 rfl ?_
  refine JM_S1 lkM_X2_53 dX2_takeMember_6 (by decide) (Nat.le_of_ble_eq_true rfl) ?_
  refine kX6_isMember ?_
  generalize hg : (if 0 ≤ m ∧ m < 12 then (1 : Int) else 0) = g
  have hg2 : (g = 1 ∧ 0 ≤ m) ∨ (g = 0 ∧ m = -1) := by
    subst hg
    split
    · left; exact ⟨rfl, by omega⟩
    · right; exact ⟨rfl, by omega⟩
  refine J_if_eq 32 dX2_takeMember_9 (by decide) (fun h9 => ?_) (fun h9 => ?_)
  · skip
    have hm1 : m = -1 := by omega
    rw [if_pos hm1] at hQ
    refine J_iconst 0 dX2_takeMember_32 ⟨by decide, by decide⟩ ?_
    refine JM_zret rfl (by omega) dX2_takeMember_33 ?_
    exact hQ 0 _ (Or.inl ⟨rfl, rfl⟩) Fr.rf
  · skip
    have hm0 : 0 ≤ m := by omega
    rw [if_neg (by omega)] at hQ
    have hsn := hseen hm0
    rw [a6] at hsn
    refine J_aload_n 0 dX2_takeMember_12 rfl ?_
    refine J_getI 7 lkF_X2_42 rfl rfl rfl dX2_takeMember_13 ?_
    refine J_iload_n 2 dX2_takeMember_16 rfl ?_
    refine J_ishr dX2_takeMember_17 ?_
    refine J_iconst 1 dX2_takeMember_18 ⟨by decide, by decide⟩ ?_
    refine J_iand dX2_takeMember_19 ?_
    refine J_if_ne 32 dX2_takeMember_20 (by decide) (fun h20 => ?_) (fun h20 => ?_)
    · skip
      rw [a6] at h20
      have hin : zb s.2.2.2.1 m = 1 := by
        unfold zb
        rw [hsn]
        rw [hsn] at h20
        split
        · rfl
        · rename_i g; rw [if_neg g] at h20; exact absurd rfl h20
      rw [if_pos hin] at hQ
      refine J_iconst 0 dX2_takeMember_32 ⟨by decide, by decide⟩ ?_
      refine JM_zret rfl (by omega) dX2_takeMember_33 ?_
      exact hQ 0 _ (Or.inl ⟨rfl, rfl⟩) Fr.rf
    · skip
      rw [a6] at h20
      have hnin : m ∉ s.2.2.1 := fun q => by rw [hsn, if_pos q] at h20; exact absurd h20 (by decide)
      rw [if_neg (show ¬ zb s.2.2.2.1 m = 1 by unfold zb; rw [h20]; decide)] at hQ
      have hlt := h12n hnin hm0
      refine J_aload_n 0 dX2_takeMember_23 rfl ?_
      refine J_getI 6 lkF_X2_50 rfl rfl rfl dX2_takeMember_24 ?_
      refine J_bipush 12 dX2_takeMember_27 ⟨by decide, by decide⟩ (by decide) ?_
      refine J_icmp_lt 34 dX2_takeMember_29 (by decide) (fun h29 => ?_) (fun h29 => ?_)
      · skip
        refine J_aload_n 0 dX2_takeMember_34 rfl ?_
        refine J_getR lkF_X2_9 rfl dX2_takeMember_35 ?_
        refine J_aload_n 0 dX2_takeMember_38 rfl ?_
        refine J_getI 6 lkF_X2_50 rfl rfl rfl dX2_takeMember_39 ?_
        refine J_iload_n 2 dX2_takeMember_42 rfl ?_
        refine J_iastore _ rfl (by omega) dX2_takeMember_43 ?_
        refine J_aload_n 0 dX2_takeMember_44 rfl ?_
        first | refine J_dupR dX2_takeMember_45 ?_ | refine J_dupI dX2_takeMember_45 ?_
        refine J_getI 6 lkF_X2_50 rfl rfl rfl dX2_takeMember_46 ?_
        try simp (config := {decide := true}) only [up_s, up_k, up_i]
        refine J_iconst 1 dX2_takeMember_49 ⟨by decide, by decide⟩ ?_
        refine J_iadd dX2_takeMember_50 ⟨by omega, by omega⟩ ?_
        refine J_putI 6 lkF_X2_50 rfl fp_2_6 rfl dX2_takeMember_51 ?_
        refine J_aload_n 0 dX2_takeMember_54 rfl ?_
        first | refine J_dupR dX2_takeMember_55 ?_ | refine J_dupI dX2_takeMember_55 ?_
        refine J_getI 7 lkF_X2_42 rfl rfl rfl dX2_takeMember_56 ?_
        try simp (config := {decide := true}) only [up_s, up_k, up_i]
        refine J_iconst 1 dX2_takeMember_59 ⟨by decide, by decide⟩ ?_
        refine J_iload_n 2 dX2_takeMember_60 rfl ?_
        refine J_ishl dX2_takeMember_61 ?_
        refine J_ior dX2_takeMember_62 ?_
        refine J_putI 7 lkF_X2_42 rfl fp_2_7 rfl dX2_takeMember_63 ?_
        refine J_aload_n 0 dX2_takeMember_66 rfl ?_
        refine J_getR lkF_X2_15 rfl dX2_takeMember_67 ?_
        refine J_iload_n 2 dX2_takeMember_70 rfl ?_
        refine J_iconst 0 dX2_takeMember_71 ⟨by decide, by decide⟩ ?_
        refine J_iastore _ rfl (by omega) dX2_takeMember_72 ?_
        refine J_aload_n 0 dX2_takeMember_73 rfl ?_
        refine J_iconst 1 dX2_takeMember_74 ⟨by decide, by decide⟩ ?_
        refine J_iload_n 2 dX2_takeMember_75 rfl ?_
        refine JM_S1 lkM_X2_88 dX2_takeMember_76 (by decide) (Nat.le_of_ble_eq_true rfl) ?_
        refine kX6_isMethod ?_
        generalize hg5 : (if 0 ≤ m ∧ m < 6 then (1 : Int) else 0) = g5
        have hg6 : (g5 = 1 ∧ m < 6) ∨ (g5 = 0 ∧ ¬ m < 6) := by
          subst hg5
          split
          · left; exact ⟨rfl, by omega⟩
          · right; exact ⟨rfl, by omega⟩
        refine J_if_eq 86 dX2_takeMember_79 (by decide) (fun h79 => ?_) (fun h79 => ?_)
        · skip
          refine J_iconst 4 dX2_takeMember_86 ⟨by decide, by decide⟩ ?_
          refine JM_V2 lkM_X2_65 rcv_2 dX2_takeMember_87 (by decide) (Nat.le_of_ble_eq_true rfl) ?_
          refine kX2_goOn (Or.inr rfl) ?_
          rw [if_neg (by decide)]
          refine JM_zret rfl (by omega) dX2_takeMember_90 ?_
          refine hQ 1 _ (Or.inr ⟨_, rfl, rfl, ?_⟩) (Fr.up (Fr.up (Fr.up (Fr.up (Fr.up Fr.rf (by decide)) (by decide)) (by decide)) (by decide)) (by decide))
          first
            | (rw [if_pos (by omega)]; exact RdC_memb hR hnin)
            | (rw [if_neg (by omega)]; exact RdC_memb hR hnin)
        · skip
          refine J_iconst 5 dX2_takeMember_82 ⟨by decide, by decide⟩ ?_
          refine J_goto 87 dX2_takeMember_83 (by decide) ?_
          refine JM_V2 lkM_X2_65 rcv_2 dX2_takeMember_87 (by decide) (Nat.le_of_ble_eq_true rfl) ?_
          refine kX2_goOn (Or.inr rfl) ?_
          rw [if_neg (by decide)]
          refine JM_zret rfl (by omega) dX2_takeMember_90 ?_
          refine hQ 1 _ (Or.inr ⟨_, rfl, rfl, ?_⟩) (Fr.up (Fr.up (Fr.up (Fr.up (Fr.up Fr.rf (by decide)) (by decide)) (by decide)) (by decide)) (by decide))
          first
            | (rw [if_pos (by omega)]; exact RdC_memb hR hnin)
            | (rw [if_neg (by omega)]; exact RdC_memb hR hnin)
      · skip
        exfalso; omega

set_option maxRecDepth 100000 in
set_option maxHeartbeats 4000000 in
theorem kX2_addItem {X : Cx} {d : Nat} {ω : Om} {Q : Option MV → Om → Prop} {n it : Int} {s : RS} (hR : RdC ω n s) (hW : RW n s) (h5 : 5 ≤ s.1) (hlt : (s.2.2.2.2.2 (lastS s)).length < 6) (hQ : ∀ ω', RdC ω' n (addS s it) → Fr [2, 9, 10, 11] ω ω' → Q (some (vI 1)) ω') : Mc X mX2_addItem (d + 1) [vR 2, vI it] ω Q := by
  obtain ⟨r, l, e1, e2⟩ := hW.2.2.2.2.2.1 h5
  obtain ⟨a1, a2, a3, a4, a5, a6, a7, a8⟩ := id hR
  have hr12 := hW.2.2.2.1 r (by rw [e1]; exact List.mem_cons_self)
  have h12 : s.2.2.1.length ≤ 12 := pigeon 12 _ hW.2.2.1 (fun x hx => by have := hW.2.2.2.1 x hx; omega)
  have hl1 : ω 2 6 = l.length + 1 := by rw [a4, e1]; simp
  have hl2 : s.2.2.1.length = l.length + 1 := by rw [e1]; simp
  have h9 : ω 9 (ω 2 6 - 1) = r := by
    have := a5; rw [e1] at this; rw [hl1, show (l.length : Int) + 1 - 1 = l.length from by omega]; exact this.1
  have el : lastS s = r := by unfold lastS; rw [e1]
  have hcnt := (a8 r (by rw [e1]; exact List.mem_cons_self)).1
  have hlen6 := hW.2.2.2.2.2.2.1 r (by rw [e1]; exact List.mem_cons_self)
  have hN := hW.2.2.2.1
  have hL6 := hW.2.2.2.2.2.2.1
  rw [el] at hlt
  clear hW
  refine Mc_of [some (vR 2), some (vI it), none] (by decide +kernel) rfl (Nat.le_of_ble_eq_true rfl) ?_
  refine J_aload_n 0 dX2_addItem_0 rfl ?_
  refine J_aload_n 0 dX2_addItem_1 rfl ?_
  refine J_getI 6 lkF_X2_50 rfl rfl rfl dX2_addItem_2 ?_
  refine J_iconst 1 dX2_addItem_5 ⟨by decide, by decide⟩ ?_
  refine J_isub dX2_addItem_6 ⟨by omega, by omega⟩ ?_
  refine JM_V1 lkM_X2_91 rcv_2 dX2_addItem_7 (by decide) (Nat.le_of_ble_eq_true rfl) ?_
  refine kX2_memberAt ?_
  rw [if_pos (by omega), h9]
  refine J_istore_2 dX2_addItem_10 (by decide) rfl ?_
  refine J_iload_n 2 dX2_addItem_11 rfl ?_
  refine JM_S1 lkM_X2_53 dX2_addItem_12 (by decide) (Nat.le_of_ble_eq_true rfl) ?_
  refine kX6_isMember ?_
  rw [if_pos (by omega)]
  refine J_if_eq 29 dX2_addItem_15 (by decide) (fun h15 => ?_) (fun h15 => ?_)
  · skip
    exfalso; omega
  · skip
    refine J_aload_n 0 dX2_addItem_18 rfl ?_
    refine J_getR lkF_X2_15 rfl dX2_addItem_19 ?_
    refine J_iload_n 2 dX2_addItem_22 rfl ?_
    refine J_iaload _ rfl rfl (by omega) dX2_addItem_23 ?_
    refine J_bipush 6 dX2_addItem_24 ⟨by decide, by decide⟩ (by decide) ?_
    refine J_icmp_lt 31 dX2_addItem_26 (by decide) (fun h26 => ?_) (fun h26 => ?_)
    · skip
      refine J_aload_n 0 dX2_addItem_31 rfl ?_
      refine J_getR lkF_X2_18 rfl dX2_addItem_32 ?_
      refine J_iload_n 2 dX2_addItem_35 rfl ?_
      refine J_bipush 6 dX2_addItem_36 ⟨by decide, by decide⟩ (by decide) ?_
      refine J_imul dX2_addItem_38 ⟨by omega, by omega⟩ ?_
      refine J_aload_n 0 dX2_addItem_39 rfl ?_
      refine J_getR lkF_X2_15 rfl dX2_addItem_40 ?_
      refine J_iload_n 2 dX2_addItem_43 rfl ?_
      refine J_iaload _ rfl rfl (by omega) dX2_addItem_44 ?_
      refine J_iadd dX2_addItem_45 ⟨by omega, by omega⟩ ?_
      refine J_iload_n 1 dX2_addItem_46 rfl ?_
      refine J_iastore _ rfl (by omega) dX2_addItem_47 ?_
      refine J_aload_n 0 dX2_addItem_48 rfl ?_
      refine J_getR lkF_X2_15 rfl dX2_addItem_49 ?_
      refine J_iload_n 2 dX2_addItem_52 rfl ?_
      refine J_dup2 dX2_addItem_53 ?_
      refine J_iaload _ rfl rfl (by omega) dX2_addItem_54 ?_
      try simp (config := {decide := true}) only [up_s, up_k, up_i]
      refine J_iconst 1 dX2_addItem_55 ⟨by decide, by decide⟩ ?_
      refine J_iadd dX2_addItem_56 ⟨by omega, by omega⟩ ?_
      refine J_iastore _ rfl (by omega) dX2_addItem_57 ?_
      refine J_aload_n 0 dX2_addItem_58 rfl ?_
      refine J_iconst 1 dX2_addItem_59 ⟨by decide, by decide⟩ ?_
      refine J_bipush 7 dX2_addItem_60 ⟨by decide, by decide⟩ (by decide) ?_
      refine JM_V2 lkM_X2_65 rcv_2 dX2_addItem_62 (by decide) (Nat.le_of_ble_eq_true rfl) ?_
      refine kX2_goOn (Or.inr rfl) ?_
      rw [if_neg (by decide)]
      refine JM_zret rfl (by omega) dX2_addItem_65 ?_
      exact hQ _ (RdC_add hR e1 hr12 hN hlt hL6) (Fr.up (Fr.up (Fr.up Fr.rf (by decide)) (by decide)) (by decide))
    · skip
      exfalso; omega

set_option maxRecDepth 100000 in
set_option maxHeartbeats 4000000 in
theorem kX2_takeDash {X : Cx} {d : Nat} {ω : Om} {Q : Option MV → Om → Prop} {n : Int} {s : RS} (hR : RdC ω n s) (hW : RW n s) (h5 : 5 ≤ s.1) (hQ : ∀ ω', RdC ω' n (6, s.2.1, s.2.2.1, s.2.2.2.1, zOr s.2.2.2.2.1 (zShl 1 (lastS s)), s.2.2.2.2.2) → Fr [2, 9, 10, 11] ω ω' → Q (some (vI 1)) ω') : Mc X mX2_takeDash (d + 1) [vR 2] ω Q := by
  obtain ⟨r, l, e1, e2⟩ := hW.2.2.2.2.2.1 h5
  obtain ⟨a1, a2, a3, a4, a5, a6, a7, a8⟩ := id hR
  have hr12 := hW.2.2.2.1 r (by rw [e1]; exact List.mem_cons_self)
  have h12 : s.2.2.1.length ≤ 12 := pigeon 12 _ hW.2.2.1 (fun x hx => by have := hW.2.2.2.1 x hx; omega)
  have hl1 : ω 2 6 = l.length + 1 := by rw [a4, e1]; simp
  have hl2 : s.2.2.1.length = l.length + 1 := by rw [e1]; simp
  have h9 : ω 9 (ω 2 6 - 1) = r := by
    have := a5; rw [e1] at this; rw [hl1, show (l.length : Int) + 1 - 1 = l.length from by omega]; exact this.1
  have el : lastS s = r := by unfold lastS; rw [e1]
  have hcnt := (a8 r (by rw [e1]; exact List.mem_cons_self)).1
  have hlen6 := hW.2.2.2.2.2.2.1 r (by rw [e1]; exact List.mem_cons_self)
  have hN := hW.2.2.2.1
  have hL6 := hW.2.2.2.2.2.2.1
  clear hW
  rw [el] at hQ
  refine Mc_of [some (vR 2)] (by decide +kernel) rfl (Nat.le_of_ble_eq_true rfl) ?_
  refine J_aload_n 0 dX2_takeDash_0 rfl ?_
  first | refine J_dupR dX2_takeDash_1 ?_ | refine J_dupI dX2_takeDash_1 ?_
  refine J_getI 8 lkF_X2_62 rfl rfl rfl dX2_takeDash_2 ?_
  refine J_iconst 1 dX2_takeDash_5 ⟨by decide, by decide⟩ ?_
  refine J_aload_n 0 dX2_takeDash_6 rfl ?_
  refine J_aload_n 0 dX2_takeDash_7 rfl ?_
  refine J_getI 6 lkF_X2_50 rfl rfl rfl dX2_takeDash_8 ?_
  refine J_iconst 1 dX2_takeDash_11 ⟨by decide, by decide⟩ ?_
  refine J_isub dX2_takeDash_12 ⟨by omega, by omega⟩ ?_
  refine JM_V1 lkM_X2_91 rcv_2 dX2_takeDash_13 (by decide) (Nat.le_of_ble_eq_true rfl) ?_
  refine kX2_memberAt ?_
  rw [if_pos (by omega), h9]
  refine J_ishl dX2_takeDash_16 ?_
  refine J_ior dX2_takeDash_17 ?_
  refine J_putI 8 lkF_X2_62 rfl fp_2_8 rfl dX2_takeDash_18 ?_
  refine J_aload_n 0 dX2_takeDash_21 rfl ?_
  refine J_iconst 1 dX2_takeDash_22 ⟨by decide, by decide⟩ ?_
  refine J_bipush 6 dX2_takeDash_23 ⟨by decide, by decide⟩ (by decide) ?_
  refine JM_V2 lkM_X2_65 rcv_2 dX2_takeDash_25 (by decide) (Nat.le_of_ble_eq_true rfl) ?_
  refine kX2_goOn (Or.inr rfl) ?_
  rw [if_neg (by decide), a7]
  refine JM_zret rfl (by omega) dX2_takeDash_28 ?_
  exact hQ _ (RdC_dash hR) (Fr.up (Fr.up Fr.rf (by decide)) (by decide))

set_option maxRecDepth 100000 in
set_option maxHeartbeats 4000000 in
theorem kX2_takeBehindDash {X : Cx} {d : Nat} {ω : Om} {Q : Option MV → Om → Prop} {n c : Int} {s : RS} (hR : RdC ω n s) (hW : RW n s) (hc : -100 ≤ c ∧ c ≤ 1000) (hQ : ∀ (r : Int) (ω' : Om), TkR n (behS c s) r ω' → Fr [2, 9, 10, 11] ω ω' → Q (some (vI r)) ω') : Mc X mX2_takeBehindDash (d + 2) [vR 2, vI c] ω Q := by
  unfold behS at hQ
  refine Mc_of [some (vR 2), some (vI c)] (by decide +kernel) rfl (Nat.le_of_ble_eq_true rfl) ?_
  refine J_iload_n 1 dX2_takeBehindDash_0 rfl ?_
  refine J_bipush 40 dX2_takeBehindDash_1 ⟨by decide, by decide⟩ (by decide) ?_
  refine J_icmp_ne 16 dX2_takeBehindDash_3 (by decide) (fun h3 => ?_) (fun h3 => ?_)
  · skip
    rw [if_neg h3] at hQ
    refine J_aload_n 0 dX2_takeBehindDash_16 rfl ?_
    refine J_iload_n 1 dX2_takeBehindDash_17 rfl ?_
    refine JM_V1 lkM_X2_69 rcv_2 dX2_takeBehindDash_18 (by decide) (Nat.le_of_ble_eq_true rfl) ?_
    refine kX2_takeMember hR hW hc (fun r ω1 q1 q2 => ?_)
    have hr01 : r = 0 ∨ r = 1 := by
      rcases q1 with ⟨_, q⟩ | ⟨_, _, q, _⟩
      · exact Or.inl q
      · exact Or.inr q
    refine JM_zret rfl (by first | exact hr01 | exact Or.inr rfl) dX2_takeBehindDash_21 ?_
    first | exact hQ _ _ q1 q2 | exact hQ 1 _ (Or.inr ⟨_, rfl, rfl, RdC_go hR⟩) (Fr.up Fr.rf (by decide))
  · skip
    rw [if_pos h3] at hQ
    refine J_aload_n 0 dX2_takeBehindDash_6 rfl ?_
    refine J_iconst 1 dX2_takeBehindDash_7 ⟨by decide, by decide⟩ ?_
    refine J_bipush 7 dX2_takeBehindDash_8 ⟨by decide, by decide⟩ (by decide) ?_
    refine JM_V2 lkM_X2_65 rcv_2 dX2_takeBehindDash_10 (by decide) (Nat.le_of_ble_eq_true rfl) ?_
    refine kX2_goOn (Or.inr rfl) ?_
    rw [if_neg (by decide)]
    refine J_goto 21 dX2_takeBehindDash_13 (by decide) ?_
    refine JM_zret rfl (by first | exact hr01 | exact Or.inr rfl) dX2_takeBehindDash_21 ?_
    first | exact hQ _ _ q1 q2 | exact hQ 1 _ (Or.inr ⟨_, rfl, rfl, RdC_go hR⟩) (Fr.up Fr.rf (by decide))

set_option maxRecDepth 100000 in
set_option maxHeartbeats 4000000 in
theorem kX2_takeItem {X : Cx} {d : Nat} {ω : Om} {Q : Option MV → Om → Prop} {n c : Int} {s : RS} (h5 : 5 ≤ s.1) (hR : RdC ω n s) (hW : RW n s) (hc : -100 ≤ c ∧ c ≤ 1000) (hQ : ∀ (r : Int) (ω' : Om), TkR n (itmS c s) r ω' → Fr [2, 9, 10, 11] ω ω' → Q (some (vI r)) ω') : Mc X mX2_takeItem (d + 2) [vR 2, vI c] ω Q := by
  obtain ⟨r, l, e1, e2⟩ := hW.2.2.2.2.2.1 h5
  obtain ⟨a1, a2, a3, a4, a5, a6, a7, a8⟩ := id hR
  have hr12 := hW.2.2.2.1 r (by rw [e1]; exact List.mem_cons_self)
  have h12 : s.2.2.1.length ≤ 12 := pigeon 12 _ hW.2.2.1 (fun x hx => by have := hW.2.2.2.1 x hx; omega)
  have hl1 : ω 2 6 = l.length + 1 := by rw [a4, e1]; simp
  have hl2 : s.2.2.1.length = l.length + 1 := by rw [e1]; simp
  have h9 : ω 9 (ω 2 6 - 1) = r := by
    have := a5; rw [e1] at this; rw [hl1, show (l.length : Int) + 1 - 1 = l.length from by omega]; exact this.1
  have el : lastS s = r := by unfold lastS; rw [e1]
  have hcnt := (a8 r (by rw [e1]; exact List.mem_cons_self)).1
  have hlen6 := hW.2.2.2.2.2.2.1 r (by rw [e1]; exact List.mem_cons_self)
  have hN := hW.2.2.2.1
  have hL6 := hW.2.2.2.2.2.2.1
  have hmr := memS_R c
  have hnil : s.2.2.2.2.2 r = [] ↔ (s.2.2.2.2.2 r).length = 0 := List.length_eq_zero_iff.symm
  have hW0 : RW n s := hW
  clear hW
  unfold itmS at hQ
  rw [el] at hQ
  refine Mc_of [some (vR 2), some (vI c), none, none] (by decide +kernel) rfl (Nat.le_of_ble_eq_true rfl) ?_
  refine J_aload_n 0 dX2_takeItem_0 rfl ?_
  refine J_aload_n 0 dX2_takeItem_1 rfl ?_
  refine J_aload_n 0 dX2_takeItem_2 rfl ?_
  refine J_getI 6 lkF_X2_50 rfl rfl rfl dX2_takeItem_3 ?_
  refine J_iconst 1 dX2_takeItem_6 ⟨by decide, by decide⟩ ?_
  refine J_isub dX2_takeItem_7 ⟨by omega, by omega⟩ ?_
  refine JM_V1 lkM_X2_91 rcv_2 dX2_takeItem_8 (by decide) (Nat.le_of_ble_eq_true rfl) ?_
  refine kX2_memberAt ?_
  rw [if_pos (by omega), h9]
  refine JM_V1 lkM_X2_94 rcv_2 dX2_takeItem_11 (by decide) (Nat.le_of_ble_eq_true rfl) ?_
  refine kX2_itemCountOf hr12 ?_
  rw [hcnt]
  refine J_istore_2 dX2_takeItem_14 (by decide) rfl ?_
  refine J_iload_n 1 dX2_takeItem_15 rfl ?_
  refine J_bipush 41 dX2_takeItem_16 ⟨by decide, by decide⟩ (by decide) ?_
  refine J_icmp_ne 36 dX2_takeItem_18 (by decide) (fun h18 => ?_) (fun h18 => ?_)
  · skip
    rw [if_neg h18] at hQ
    refine J_iload_n 2 dX2_takeItem_36 rfl ?_
    refine J_bipush 6 dX2_takeItem_37 ⟨by decide, by decide⟩ (by decide) ?_
    refine J_icmp_lt 44 dX2_takeItem_39 (by decide) (fun h39 => ?_) (fun h39 => ?_)
    · skip
      rw [if_neg (by omega)] at hQ
      refine J_iload_n 1 dX2_takeItem_44 rfl ?_
      refine J_bipush 94 dX2_takeItem_45 ⟨by decide, by decide⟩ (by decide) ?_
      refine J_icmp_ne 58 dX2_takeItem_47 (by decide) (fun h47 => ?_) (fun h47 => ?_)
      · skip
        rw [if_neg h47] at hQ
        refine J_iload_n 1 dX2_takeItem_58 rfl ?_
        refine JM_S1 lkM_X2_85 dX2_takeItem_59 (by decide) (Nat.le_of_ble_eq_true rfl) ?_
        refine kX2_memberOf hc ?_
        refine J_istore_3 dX2_takeItem_62 (by decide) rfl ?_
        refine J_iload_n 3 dX2_takeItem_63 rfl ?_
        refine JM_S1 lkM_X2_53 dX2_takeItem_64 (by decide) (Nat.le_of_ble_eq_true rfl) ?_
        refine kX6_isMember ?_
        generalize hg : (if 0 ≤ memS c ∧ memS c < 12 then (1 : Int) else 0) = g
        have hg2 : (g = 1 ∧ 0 ≤ memS c) ∨ (g = 0 ∧ memS c = -1) := by
          subst hg
          split
          · left; exact ⟨rfl, by omega⟩
          · right; exact ⟨rfl, by omega⟩
        refine J_if_eq 82 dX2_takeItem_67 (by decide) (fun h67 => ?_) (fun h67 => ?_)
        · skip
          rw [if_pos (by omega)] at hQ
          refine J_iconst 0 dX2_takeItem_82 ⟨by decide, by decide⟩ ?_
          refine JM_zret rfl (by omega) dX2_takeItem_83 ?_
          first | exact hQ 1 _ (Or.inr ⟨_, rfl, rfl, q1⟩) q2 | exact hQ 0 _ (Or.inl ⟨rfl, rfl⟩) Fr.rf
        · skip
          rw [if_neg (by omega)] at hQ
          refine J_aload_n 0 dX2_takeItem_70 rfl ?_
          refine J_iload_n 3 dX2_takeItem_71 rfl ?_
          refine JM_V1 lkM_X2_97 rcv_2 dX2_takeItem_72 (by decide) (Nat.le_of_ble_eq_true rfl) ?_
          refine kX2_addItem hR hW0 h5 (by rw [el]; omega) (fun ω1 q1 q2 => ?_)
          refine J_if_eq 82 dX2_takeItem_75 (by decide) (fun h75 => ?_) (fun h75 => ?_)
          · skip
            exact absurd h75 (by decide)
          · skip
            refine J_iconst 1 dX2_takeItem_78 ⟨by decide, by decide⟩ ?_
            refine J_goto 83 dX2_takeItem_79 (by decide) ?_
            refine JM_zret rfl (by omega) dX2_takeItem_83 ?_
            first | exact hQ 1 _ (Or.inr ⟨_, rfl, rfl, q1⟩) q2 | exact hQ 0 _ (Or.inl ⟨rfl, rfl⟩) Fr.rf
      · skip
        rw [if_pos h47] at hQ
        refine J_aload_n 0 dX2_takeItem_50 rfl ?_
        refine J_iconst 1 dX2_takeItem_51 ⟨by decide, by decide⟩ ?_
        refine J_bipush 8 dX2_takeItem_52 ⟨by decide, by decide⟩ (by decide) ?_
        refine JM_V2 lkM_X2_65 rcv_2 dX2_takeItem_54 (by decide) (Nat.le_of_ble_eq_true rfl) ?_
        refine kX2_goOn (Or.inr rfl) ?_
        rw [if_neg (by decide)]
        refine JM_zret rfl (by omega) dX2_takeItem_57 ?_
        exact hQ 1 _ (Or.inr ⟨_, rfl, rfl, RdC_go hR⟩) (Fr.up Fr.rf (by decide))
    · skip
      rw [if_pos (by omega)] at hQ
      refine J_iconst 0 dX2_takeItem_42 ⟨by decide, by decide⟩ ?_
      refine JM_zret rfl (by omega) dX2_takeItem_43 ?_
      exact hQ 0 _ (Or.inl ⟨rfl, rfl⟩) Fr.rf
  · skip
    rw [if_pos h18] at hQ
    refine J_aload_n 0 dX2_takeItem_21 rfl ?_
    refine J_iload_n 2 dX2_takeItem_22 rfl ?_
    refine J_if_le 30 dX2_takeItem_23 (by decide) (fun h23 => ?_) (fun h23 => ?_)
    · skip
      rw [if_pos (by rw [hnil]; omega)] at hQ
      refine J_iconst 0 dX2_takeItem_30 ⟨by decide, by decide⟩ ?_
      refine J_iconst 4 dX2_takeItem_31 ⟨by decide, by decide⟩ ?_
      refine JM_V2 lkM_X2_65 rcv_2 dX2_takeItem_32 (by decide) (Nat.le_of_ble_eq_true rfl) ?_
      refine kX2_goOn (by omega) ?_
      first | rw [if_neg (by decide)] | rw [if_pos rfl]
      refine JM_zret rfl (by omega) dX2_takeItem_35 ?_
      first | exact hQ 1 _ (Or.inr ⟨_, rfl, rfl, RdC_go hR⟩) (Fr.up Fr.rf (by decide)) | exact hQ 0 _ (Or.inl ⟨rfl, rfl⟩) Fr.rf
    · skip
      rw [if_neg (by rw [hnil]; omega)] at hQ
      refine J_iconst 1 dX2_takeItem_26 ⟨by decide, by decide⟩ ?_
      refine J_goto 31 dX2_takeItem_27 (by decide) ?_
      refine J_iconst 4 dX2_takeItem_31 ⟨by decide, by decide⟩ ?_
      refine JM_V2 lkM_X2_65 rcv_2 dX2_takeItem_32 (by decide) (Nat.le_of_ble_eq_true rfl) ?_
      refine kX2_goOn (by omega) ?_
      first | rw [if_neg (by decide)] | rw [if_pos rfl]
      refine JM_zret rfl (by omega) dX2_takeItem_35 ?_
      first | exact hQ 1 _ (Or.inr ⟨_, rfl, rfl, RdC_go hR⟩) (Fr.up Fr.rf (by decide)) | exact hQ 0 _ (Or.inl ⟨rfl, rfl⟩) Fr.rf

set_option maxRecDepth 100000 in
set_option maxHeartbeats 4000000 in
theorem kX2_takeAsked {X : Cx} {d : Nat} {ω : Om} {Q : Option MV → Om → Prop} {n c : Int} {s : RS} (h5 : 5 ≤ s.1) (hlt : (s.2.2.2.2.2 (lastS s)).length < 6) (hR : RdC ω n s) (hW : RW n s) (hc : -100 ≤ c ∧ c ≤ 1000) (hQ : ∀ (r : Int) (ω' : Om), TkR n (askS c s) r ω' → Fr [2, 9, 10, 11] ω ω' → Q (some (vI r)) ω') : Mc X mX2_takeAsked (d + 2) [vR 2, vI c] ω Q := by
  have hmr := memS_R c
  unfold askS at hQ
  refine Mc_of [some (vR 2), some (vI c), none] (by decide +kernel) rfl (Nat.le_of_ble_eq_true rfl) ?_
  refine J_iload_n 1 dX2_takeAsked_0 rfl ?_
  refine JM_S1 lkM_X2_85 dX2_takeAsked_1 (by decide) (Nat.le_of_ble_eq_true rfl) ?_
  refine kX2_memberOf hc ?_
  refine J_istore_2 dX2_takeAsked_4 (by decide) rfl ?_
  refine J_iload_n 2 dX2_takeAsked_5 rfl ?_
  refine JM_S1 lkM_X2_88 dX2_takeAsked_6 (by decide) (Nat.le_of_ble_eq_true rfl) ?_
  refine kX6_isMethod ?_
  generalize hg : (if 0 ≤ memS c ∧ memS c < 6 then (1 : Int) else 0) = g
  have hg2 : (g = 1 ∧ 0 ≤ memS c ∧ memS c < 6) ∨ (g = 0 ∧ ¬ (0 ≤ memS c ∧ memS c < 6)) := by
    subst hg
    split
    · left; exact ⟨rfl, by omega⟩
    · right; exact ⟨rfl, by omega⟩
  refine J_if_eq 27 dX2_takeAsked_9 (by decide) (fun h9 => ?_) (fun h9 => ?_)
  · skip
    rw [if_neg (by omega)] at hQ
    refine J_iconst 0 dX2_takeAsked_27 ⟨by decide, by decide⟩ ?_
    refine JM_zret rfl (by omega) dX2_takeAsked_28 ?_
    first | exact hQ 1 _ (Or.inr ⟨_, rfl, rfl, q1⟩) q2 | exact hQ 0 _ (Or.inl ⟨rfl, rfl⟩) Fr.rf
  · skip
    rw [if_pos (by omega)] at hQ
    refine J_aload_n 0 dX2_takeAsked_12 rfl ?_
    refine J_bipush 20 dX2_takeAsked_13 ⟨by decide, by decide⟩ (by decide) ?_
    refine J_iload_n 2 dX2_takeAsked_15 rfl ?_
    refine J_iadd dX2_takeAsked_16 ⟨by omega, by omega⟩ ?_
    refine JM_V1 lkM_X2_97 rcv_2 dX2_takeAsked_17 (by decide) (Nat.le_of_ble_eq_true rfl) ?_
    refine kX2_addItem hR hW h5 hlt (fun ω1 q1 q2 => ?_)
    refine J_if_eq 27 dX2_takeAsked_20 (by decide) (fun h20 => ?_) (fun h20 => ?_)
    · skip
      exact absurd h20 (by decide)
    · skip
      refine J_iconst 1 dX2_takeAsked_23 ⟨by decide, by decide⟩ ?_
      refine J_goto 28 dX2_takeAsked_24 (by decide) ?_
      refine JM_zret rfl (by omega) dX2_takeAsked_28 ?_
      first | exact hQ 1 _ (Or.inr ⟨_, rfl, rfl, q1⟩) q2 | exact hQ 0 _ (Or.inl ⟨rfl, rfl⟩) Fr.rf

set_option maxRecDepth 100000 in
set_option maxHeartbeats 4000000 in
theorem kX2_take {X : Cx} {d : Nat} {ω : Om} {Q : Option MV → Om → Prop} {n c : Int} {s : RS} (hn : 0 ≤ n ∧ n ≤ 8) (hR : RdC ω n s) (hW : RW n s) (hc : -100 ≤ c ∧ c ≤ 1000) (hQ : ∀ (r : Int) (ω' : Om), TkR n (rdS n c s) r ω' → Fr [2, 9, 10, 11] ω ω' → Q (some (vI r)) ω') : Mc X mX2_take (d + 3) [vR 2, vI c] ω Q := by
  have h23 : ω 2 3 = s.1 := hR.1
  have h24 : ω 2 4 = n := hR.2.1
  have hst := hW.1
  refine Mc_of [some (vR 2), some (vI c)] (by decide +kernel) rfl (Nat.le_of_ble_eq_true rfl) ?_
  refine J_aload_n 0 dX2_take_0 rfl ?_
  refine J_getI 3 lkF_X2_39 rfl rfl rfl dX2_take_1 ?_
  refine J_switch dX2_take_4 204 (by decide) (fun h4 => ?_) (fun h4a h4b => ?_)
  · skip
    have h8 : s.1 = 8 := by omega
    rw [rdS_8 h8] at hQ
    refine J_aload_n 0 dX2_take_204 rfl ?_
    refine J_iload_n 1 dX2_take_205 rfl ?_
    refine JM_V1 lkM_X2_82 rcv_2 dX2_take_206 (by decide) (Nat.le_of_ble_eq_true rfl) ?_
    refine kX2_takeAsked (by omega) (hW.2.2.2.2.2.2.2.1 h8) hR hW hc (fun r ω1 q1 q2 => ?_)
    have hr01 : r = 0 ∨ r = 1 := by
      rcases q1 with ⟨_, q⟩ | ⟨_, _, q, _⟩
      · exact Or.inl q
      · exact Or.inr q
    refine JM_zret rfl (by first | exact hr01 | exact Or.inr rfl | exact Or.inl rfl) dX2_take_209 ?_
    first | exact hQ _ _ q1 q2 | exact hQ 1 _ (Or.inr ⟨_, rfl, rfl, q1⟩) q2 | exact hQ 1 _ (Or.inr ⟨_, rfl, rfl, RdC_go hR⟩) (Fr.up Fr.rf (by decide)) | exact hQ 0 _ (Or.inl ⟨rfl, rfl⟩) Fr.rf | exact hQ 1 _ (Or.inr ⟨_, rfl, rfl, RdC_par hR⟩) (Fr.up (Fr.up Fr.rf (by decide)) (by decide)) | exact hQ 0 _ (Or.inl ⟨rfl, rfl⟩) (Fr.up Fr.rf (by decide))
  · skip
    rcases (show ω 2 3 = 0 ∨ ω 2 3 = 1 ∨ ω 2 3 = 2 ∨ ω 2 3 = 3 ∨ ω 2 3 = 4 ∨ ω 2 3 = 5 ∨ ω 2 3 = 6 ∨ ω 2 3 = 7 by omega) with h4s | h4s | h4s | h4s | h4s | h4s | h4s | h4s
    · skip
      refine ⟨48, 52, by rw [h4s]; rfl, by decide, ?_⟩
      rw [rdS_0 (by omega)] at hQ
      refine J_aload_n 0 dX2_take_52 rfl ?_
      refine J_iload_n 1 dX2_take_53 rfl ?_
      refine J_bipush 65 dX2_take_54 ⟨by decide, by decide⟩ (by decide) ?_
      refine J_aload_n 0 dX2_take_56 rfl ?_
      refine J_getI 4 lkF_X2_56 rfl rfl rfl dX2_take_57 ?_
      refine J_iadd dX2_take_60 ⟨by omega, by omega⟩ ?_
      refine J_icmp_ne 68 dX2_take_61 (by decide) (fun h61 => ?_) (fun h61 => ?_)
      · skip
        rw [if_neg (by omega)] at hQ
        refine J_iconst 0 dX2_take_68 ⟨by decide, by decide⟩ ?_
        refine J_iconst 1 dX2_take_69 ⟨by decide, by decide⟩ ?_
        refine JM_V2 lkM_X2_65 rcv_2 dX2_take_70 (by decide) (Nat.le_of_ble_eq_true rfl) ?_
        refine kX2_goOn (by omega) ?_
        first | rw [if_neg (by decide)] | rw [if_pos rfl]
        refine JM_zret rfl (by first | exact hr01 | exact Or.inr rfl | exact Or.inl rfl) dX2_take_73 ?_
        first | exact hQ _ _ q1 q2 | exact hQ 1 _ (Or.inr ⟨_, rfl, rfl, q1⟩) q2 | exact hQ 1 _ (Or.inr ⟨_, rfl, rfl, RdC_go hR⟩) (Fr.up Fr.rf (by decide)) | exact hQ 0 _ (Or.inl ⟨rfl, rfl⟩) Fr.rf | exact hQ 1 _ (Or.inr ⟨_, rfl, rfl, RdC_par hR⟩) (Fr.up (Fr.up Fr.rf (by decide)) (by decide)) | exact hQ 0 _ (Or.inl ⟨rfl, rfl⟩) (Fr.up Fr.rf (by decide))
      · skip
        rw [if_pos (by omega)] at hQ
        refine J_iconst 1 dX2_take_64 ⟨by decide, by decide⟩ ?_
        refine J_goto 69 dX2_take_65 (by decide) ?_
        refine J_iconst 1 dX2_take_69 ⟨by decide, by decide⟩ ?_
        refine JM_V2 lkM_X2_65 rcv_2 dX2_take_70 (by decide) (Nat.le_of_ble_eq_true rfl) ?_
        refine kX2_goOn (by omega) ?_
        first | rw [if_neg (by decide)] | rw [if_pos rfl]
        refine JM_zret rfl (by first | exact hr01 | exact Or.inr rfl | exact Or.inl rfl) dX2_take_73 ?_
        first | exact hQ _ _ q1 q2 | exact hQ 1 _ (Or.inr ⟨_, rfl, rfl, q1⟩) q2 | exact hQ 1 _ (Or.inr ⟨_, rfl, rfl, RdC_go hR⟩) (Fr.up Fr.rf (by decide)) | exact hQ 0 _ (Or.inl ⟨rfl, rfl⟩) Fr.rf | exact hQ 1 _ (Or.inr ⟨_, rfl, rfl, RdC_par hR⟩) (Fr.up (Fr.up Fr.rf (by decide)) (by decide)) | exact hQ 0 _ (Or.inl ⟨rfl, rfl⟩) (Fr.up Fr.rf (by decide))
    · skip
      refine ⟨70, 74, by rw [h4s]; rfl, by decide, ?_⟩
      rw [rdS_1 (by omega)] at hQ
      refine J_iload_n 1 dX2_take_74 rfl ?_
      refine J_bipush 58 dX2_take_75 ⟨by decide, by decide⟩ (by decide) ?_
      refine J_icmp_ne 89 dX2_take_77 (by decide) (fun h77 => ?_) (fun h77 => ?_)
      · skip
        rw [if_neg h77] at hQ
        refine J_aload_n 0 dX2_take_89 rfl ?_
        refine J_iload_n 1 dX2_take_90 rfl ?_
        refine J_bipush 60 dX2_take_91 ⟨by decide, by decide⟩ (by decide) ?_
        refine J_icmp_ne 107 dX2_take_93 (by decide) (fun h93 => ?_) (fun h93 => ?_)
        · skip
          rw [if_neg (by omega)] at hQ
          refine J_iconst 0 dX2_take_107 ⟨by decide, by decide⟩ ?_
          refine J_iconst 2 dX2_take_108 ⟨by decide, by decide⟩ ?_
          refine JM_V2 lkM_X2_65 rcv_2 dX2_take_109 (by decide) (Nat.le_of_ble_eq_true rfl) ?_
          refine kX2_goOn (by omega) ?_
          first | rw [if_neg (by decide)] | rw [if_pos rfl]
          refine JM_zret rfl (by first | exact hr01 | exact Or.inr rfl | exact Or.inl rfl) dX2_take_112 ?_
          first | exact hQ _ _ q1 q2 | exact hQ 1 _ (Or.inr ⟨_, rfl, rfl, q1⟩) q2 | exact hQ 1 _ (Or.inr ⟨_, rfl, rfl, RdC_go hR⟩) (Fr.up Fr.rf (by decide)) | exact hQ 0 _ (Or.inl ⟨rfl, rfl⟩) Fr.rf | exact hQ 1 _ (Or.inr ⟨_, rfl, rfl, RdC_par hR⟩) (Fr.up (Fr.up Fr.rf (by decide)) (by decide)) | exact hQ 0 _ (Or.inl ⟨rfl, rfl⟩) (Fr.up Fr.rf (by decide))
        · skip
          refine J_aload_n 0 dX2_take_96 rfl ?_
          refine J_getI 4 lkF_X2_56 rfl rfl rfl dX2_take_97 ?_
          refine J_if_le 107 dX2_take_100 (by decide) (fun h100 => ?_) (fun h100 => ?_)
          · skip
            rw [if_neg (by omega)] at hQ
            refine J_iconst 0 dX2_take_107 ⟨by decide, by decide⟩ ?_
            refine J_iconst 2 dX2_take_108 ⟨by decide, by decide⟩ ?_
            refine JM_V2 lkM_X2_65 rcv_2 dX2_take_109 (by decide) (Nat.le_of_ble_eq_true rfl) ?_
            refine kX2_goOn (by omega) ?_
            first | rw [if_neg (by decide)] | rw [if_pos rfl]
            refine JM_zret rfl (by first | exact hr01 | exact Or.inr rfl | exact Or.inl rfl) dX2_take_112 ?_
            first | exact hQ _ _ q1 q2 | exact hQ 1 _ (Or.inr ⟨_, rfl, rfl, q1⟩) q2 | exact hQ 1 _ (Or.inr ⟨_, rfl, rfl, RdC_go hR⟩) (Fr.up Fr.rf (by decide)) | exact hQ 0 _ (Or.inl ⟨rfl, rfl⟩) Fr.rf | exact hQ 1 _ (Or.inr ⟨_, rfl, rfl, RdC_par hR⟩) (Fr.up (Fr.up Fr.rf (by decide)) (by decide)) | exact hQ 0 _ (Or.inl ⟨rfl, rfl⟩) (Fr.up Fr.rf (by decide))
          · skip
            rw [if_pos (by omega)] at hQ
            refine J_iconst 1 dX2_take_103 ⟨by decide, by decide⟩ ?_
            refine J_goto 108 dX2_take_104 (by decide) ?_
            refine J_iconst 2 dX2_take_108 ⟨by decide, by decide⟩ ?_
            refine JM_V2 lkM_X2_65 rcv_2 dX2_take_109 (by decide) (Nat.le_of_ble_eq_true rfl) ?_
            refine kX2_goOn (by omega) ?_
            first | rw [if_neg (by decide)] | rw [if_pos rfl]
            refine JM_zret rfl (by first | exact hr01 | exact Or.inr rfl | exact Or.inl rfl) dX2_take_112 ?_
            first | exact hQ _ _ q1 q2 | exact hQ 1 _ (Or.inr ⟨_, rfl, rfl, q1⟩) q2 | exact hQ 1 _ (Or.inr ⟨_, rfl, rfl, RdC_go hR⟩) (Fr.up Fr.rf (by decide)) | exact hQ 0 _ (Or.inl ⟨rfl, rfl⟩) Fr.rf | exact hQ 1 _ (Or.inr ⟨_, rfl, rfl, RdC_par hR⟩) (Fr.up (Fr.up Fr.rf (by decide)) (by decide)) | exact hQ 0 _ (Or.inl ⟨rfl, rfl⟩) (Fr.up Fr.rf (by decide))
      · skip
        rw [if_pos h77] at hQ
        refine J_aload_n 0 dX2_take_80 rfl ?_
        refine J_iconst 1 dX2_take_81 ⟨by decide, by decide⟩ ?_
        refine J_iconst 4 dX2_take_82 ⟨by decide, by decide⟩ ?_
        refine JM_V2 lkM_X2_65 rcv_2 dX2_take_83 (by decide) (Nat.le_of_ble_eq_true rfl) ?_
        refine kX2_goOn (by omega) ?_
        first | rw [if_neg (by decide)] | rw [if_pos rfl]
        refine J_goto 112 dX2_take_86 (by decide) ?_
        refine JM_zret rfl (by first | exact hr01 | exact Or.inr rfl | exact Or.inl rfl) dX2_take_112 ?_
        first | exact hQ _ _ q1 q2 | exact hQ 1 _ (Or.inr ⟨_, rfl, rfl, q1⟩) q2 | exact hQ 1 _ (Or.inr ⟨_, rfl, rfl, RdC_go hR⟩) (Fr.up Fr.rf (by decide)) | exact hQ 0 _ (Or.inl ⟨rfl, rfl⟩) Fr.rf | exact hQ 1 _ (Or.inr ⟨_, rfl, rfl, RdC_par hR⟩) (Fr.up (Fr.up Fr.rf (by decide)) (by decide)) | exact hQ 0 _ (Or.inl ⟨rfl, rfl⟩) (Fr.up Fr.rf (by decide))
    · skip
      refine ⟨109, 113, by rw [h4s]; rfl, by decide, ?_⟩
      rw [rdS_2 (by omega)] at hQ
      refine J_aload_n 0 dX2_take_113 rfl ?_
      refine J_iload_n 1 dX2_take_114 rfl ?_
      refine J_bipush 65 dX2_take_115 ⟨by decide, by decide⟩ (by decide) ?_
      refine J_isub dX2_take_117 ⟨by omega, by omega⟩ ?_
      refine J_putI 5 lkF_X2_59 rfl fp_2_5 rfl dX2_take_118 ?_
      refine J_aload_n 0 dX2_take_121 rfl ?_
      refine J_aload_n 0 dX2_take_122 rfl ?_
      refine J_getI 5 lkF_X2_59 rfl rfl rfl dX2_take_123 ?_
      try simp (config := {decide := true}) only [up_s, up_k, up_i]
      refine J_if_lt 144 dX2_take_126 (by decide) (fun h126 => ?_) (fun h126 => ?_)
      · skip
        rw [if_neg (by omega)] at hQ
        refine J_iconst 0 dX2_take_144 ⟨by decide, by decide⟩ ?_
        refine J_iconst 3 dX2_take_145 ⟨by decide, by decide⟩ ?_
        refine JM_V2 lkM_X2_65 rcv_2 dX2_take_146 (by decide) (Nat.le_of_ble_eq_true rfl) ?_
        refine kX2_goOn (by omega) ?_
        first | rw [if_neg (by decide)] | rw [if_pos rfl]
        refine JM_zret rfl (by first | exact hr01 | exact Or.inr rfl | exact Or.inl rfl) dX2_take_149 ?_
        first | exact hQ _ _ q1 q2 | exact hQ 1 _ (Or.inr ⟨_, rfl, rfl, q1⟩) q2 | exact hQ 1 _ (Or.inr ⟨_, rfl, rfl, RdC_go hR⟩) (Fr.up Fr.rf (by decide)) | exact hQ 0 _ (Or.inl ⟨rfl, rfl⟩) Fr.rf | exact hQ 1 _ (Or.inr ⟨_, rfl, rfl, RdC_par hR⟩) (Fr.up (Fr.up Fr.rf (by decide)) (by decide)) | exact hQ 0 _ (Or.inl ⟨rfl, rfl⟩) (Fr.up Fr.rf (by decide))
      · skip
        refine J_aload_n 0 dX2_take_129 rfl ?_
        refine J_getI 5 lkF_X2_59 rfl rfl rfl dX2_take_130 ?_
        try simp (config := {decide := true}) only [up_s, up_k, up_i]
        refine J_aload_n 0 dX2_take_133 rfl ?_
        refine J_getI 4 lkF_X2_56 rfl rfl rfl dX2_take_134 ?_
        try simp (config := {decide := true}) only [up_s, up_k, up_i]
        refine J_icmp_ge 144 dX2_take_137 (by decide) (fun h137 => ?_) (fun h137 => ?_)
        · skip
          rw [if_neg (by omega)] at hQ
          refine J_iconst 0 dX2_take_144 ⟨by decide, by decide⟩ ?_
          refine J_iconst 3 dX2_take_145 ⟨by decide, by decide⟩ ?_
          refine JM_V2 lkM_X2_65 rcv_2 dX2_take_146 (by decide) (Nat.le_of_ble_eq_true rfl) ?_
          refine kX2_goOn (by omega) ?_
          first | rw [if_neg (by decide)] | rw [if_pos rfl]
          refine JM_zret rfl (by first | exact hr01 | exact Or.inr rfl | exact Or.inl rfl) dX2_take_149 ?_
          first | exact hQ _ _ q1 q2 | exact hQ 1 _ (Or.inr ⟨_, rfl, rfl, q1⟩) q2 | exact hQ 1 _ (Or.inr ⟨_, rfl, rfl, RdC_go hR⟩) (Fr.up Fr.rf (by decide)) | exact hQ 0 _ (Or.inl ⟨rfl, rfl⟩) Fr.rf | exact hQ 1 _ (Or.inr ⟨_, rfl, rfl, RdC_par hR⟩) (Fr.up (Fr.up Fr.rf (by decide)) (by decide)) | exact hQ 0 _ (Or.inl ⟨rfl, rfl⟩) (Fr.up Fr.rf (by decide))
        · skip
          rw [if_pos (by omega)] at hQ
          refine J_iconst 1 dX2_take_140 ⟨by decide, by decide⟩ ?_
          refine J_goto 145 dX2_take_141 (by decide) ?_
          refine J_iconst 3 dX2_take_145 ⟨by decide, by decide⟩ ?_
          refine JM_V2 lkM_X2_65 rcv_2 dX2_take_146 (by decide) (Nat.le_of_ble_eq_true rfl) ?_
          refine kX2_goOn (by omega) ?_
          first | rw [if_neg (by decide)] | rw [if_pos rfl]
          refine JM_zret rfl (by first | exact hr01 | exact Or.inr rfl | exact Or.inl rfl) dX2_take_149 ?_
          first | exact hQ _ _ q1 q2 | exact hQ 1 _ (Or.inr ⟨_, rfl, rfl, q1⟩) q2 | exact hQ 1 _ (Or.inr ⟨_, rfl, rfl, RdC_go hR⟩) (Fr.up Fr.rf (by decide)) | exact hQ 0 _ (Or.inl ⟨rfl, rfl⟩) Fr.rf | exact hQ 1 _ (Or.inr ⟨_, rfl, rfl, RdC_par hR⟩) (Fr.up (Fr.up Fr.rf (by decide)) (by decide)) | exact hQ 0 _ (Or.inl ⟨rfl, rfl⟩) (Fr.up Fr.rf (by decide))
    · skip
      refine ⟨146, 150, by rw [h4s]; rfl, by decide, ?_⟩
      rw [rdS_3 (by omega)] at hQ
      refine J_aload_n 0 dX2_take_150 rfl ?_
      refine J_iload_n 1 dX2_take_151 rfl ?_
      refine J_bipush 58 dX2_take_152 ⟨by decide, by decide⟩ (by decide) ?_
      refine J_icmp_ne 161 dX2_take_154 (by decide) (fun h154 => ?_) (fun h154 => ?_)
      · skip
        rw [if_neg h154] at hQ
        refine J_iconst 0 dX2_take_161 ⟨by decide, by decide⟩ ?_
        refine J_iconst 4 dX2_take_162 ⟨by decide, by decide⟩ ?_
        refine JM_V2 lkM_X2_65 rcv_2 dX2_take_163 (by decide) (Nat.le_of_ble_eq_true rfl) ?_
        refine kX2_goOn (by omega) ?_
        first | rw [if_neg (by decide)] | rw [if_pos rfl]
        refine JM_zret rfl (by first | exact hr01 | exact Or.inr rfl | exact Or.inl rfl) dX2_take_166 ?_
        first | exact hQ _ _ q1 q2 | exact hQ 1 _ (Or.inr ⟨_, rfl, rfl, q1⟩) q2 | exact hQ 1 _ (Or.inr ⟨_, rfl, rfl, RdC_go hR⟩) (Fr.up Fr.rf (by decide)) | exact hQ 0 _ (Or.inl ⟨rfl, rfl⟩) Fr.rf | exact hQ 1 _ (Or.inr ⟨_, rfl, rfl, RdC_par hR⟩) (Fr.up (Fr.up Fr.rf (by decide)) (by decide)) | exact hQ 0 _ (Or.inl ⟨rfl, rfl⟩) (Fr.up Fr.rf (by decide))
      · skip
        rw [if_pos h154] at hQ
        refine J_iconst 1 dX2_take_157 ⟨by decide, by decide⟩ ?_
        refine J_goto 162 dX2_take_158 (by decide) ?_
        refine J_iconst 4 dX2_take_162 ⟨by decide, by decide⟩ ?_
        refine JM_V2 lkM_X2_65 rcv_2 dX2_take_163 (by decide) (Nat.le_of_ble_eq_true rfl) ?_
        refine kX2_goOn (by omega) ?_
        first | rw [if_neg (by decide)] | rw [if_pos rfl]
        refine JM_zret rfl (by first | exact hr01 | exact Or.inr rfl | exact Or.inl rfl) dX2_take_166 ?_
        first | exact hQ _ _ q1 q2 | exact hQ 1 _ (Or.inr ⟨_, rfl, rfl, q1⟩) q2 | exact hQ 1 _ (Or.inr ⟨_, rfl, rfl, RdC_go hR⟩) (Fr.up Fr.rf (by decide)) | exact hQ 0 _ (Or.inl ⟨rfl, rfl⟩) Fr.rf | exact hQ 1 _ (Or.inr ⟨_, rfl, rfl, RdC_par hR⟩) (Fr.up (Fr.up Fr.rf (by decide)) (by decide)) | exact hQ 0 _ (Or.inl ⟨rfl, rfl⟩) (Fr.up Fr.rf (by decide))
    · skip
      refine ⟨163, 167, by rw [h4s]; rfl, by decide, ?_⟩
      rw [rdS_4 (by omega)] at hQ
      refine J_aload_n 0 dX2_take_167 rfl ?_
      refine J_iload_n 1 dX2_take_168 rfl ?_
      refine JM_V1 lkM_X2_69 rcv_2 dX2_take_169 (by decide) (Nat.le_of_ble_eq_true rfl) ?_
      refine kX2_takeMember hR hW hc (fun r ω1 q1 q2 => ?_)
      have hr01 : r = 0 ∨ r = 1 := by
        rcases q1 with ⟨_, q⟩ | ⟨_, _, q, _⟩
        · exact Or.inl q
        · exact Or.inr q
      refine JM_zret rfl (by first | exact hr01 | exact Or.inr rfl | exact Or.inl rfl) dX2_take_172 ?_
      first | exact hQ _ _ q1 q2 | exact hQ 1 _ (Or.inr ⟨_, rfl, rfl, q1⟩) q2 | exact hQ 1 _ (Or.inr ⟨_, rfl, rfl, RdC_go hR⟩) (Fr.up Fr.rf (by decide)) | exact hQ 0 _ (Or.inl ⟨rfl, rfl⟩) Fr.rf | exact hQ 1 _ (Or.inr ⟨_, rfl, rfl, RdC_par hR⟩) (Fr.up (Fr.up Fr.rf (by decide)) (by decide)) | exact hQ 0 _ (Or.inl ⟨rfl, rfl⟩) (Fr.up Fr.rf (by decide))
    · skip
      refine ⟨169, 173, by rw [h4s]; rfl, by decide, ?_⟩
      rw [rdS_5 (by omega)] at hQ
      refine J_iload_n 1 dX2_take_173 rfl ?_
      refine J_bipush 45 dX2_take_174 ⟨by decide, by decide⟩ (by decide) ?_
      refine J_icmp_ne 186 dX2_take_176 (by decide) (fun h176 => ?_) (fun h176 => ?_)
      · skip
        rw [if_neg h176] at hQ
        refine J_aload_n 0 dX2_take_186 rfl ?_
        refine J_iload_n 1 dX2_take_187 rfl ?_
        refine JM_V1 lkM_X2_76 rcv_2 dX2_take_188 (by decide) (Nat.le_of_ble_eq_true rfl) ?_
        refine kX2_takeBehindDash hR hW hc (fun r ω1 q1 q2 => ?_)
        have hr01 : r = 0 ∨ r = 1 := by
          rcases q1 with ⟨_, q⟩ | ⟨_, _, q, _⟩
          · exact Or.inl q
          · exact Or.inr q
        refine JM_zret rfl (by first | exact hr01 | exact Or.inr rfl | exact Or.inl rfl) dX2_take_191 ?_
        first | exact hQ _ _ q1 q2 | exact hQ 1 _ (Or.inr ⟨_, rfl, rfl, q1⟩) q2 | exact hQ 1 _ (Or.inr ⟨_, rfl, rfl, RdC_go hR⟩) (Fr.up Fr.rf (by decide)) | exact hQ 0 _ (Or.inl ⟨rfl, rfl⟩) Fr.rf | exact hQ 1 _ (Or.inr ⟨_, rfl, rfl, RdC_par hR⟩) (Fr.up (Fr.up Fr.rf (by decide)) (by decide)) | exact hQ 0 _ (Or.inl ⟨rfl, rfl⟩) (Fr.up Fr.rf (by decide))
      · skip
        rw [if_pos h176] at hQ
        refine J_aload_n 0 dX2_take_179 rfl ?_
        refine JM_V0 lkM_X2_72 rcv_2 dX2_take_180 (by decide) (Nat.le_of_ble_eq_true rfl) ?_
        refine kX2_takeDash hR hW (by omega) (fun ω1 q1 q2 => ?_)
        refine J_goto 191 dX2_take_183 (by decide) ?_
        refine JM_zret rfl (by first | exact hr01 | exact Or.inr rfl | exact Or.inl rfl) dX2_take_191 ?_
        first | exact hQ _ _ q1 q2 | exact hQ 1 _ (Or.inr ⟨_, rfl, rfl, q1⟩) q2 | exact hQ 1 _ (Or.inr ⟨_, rfl, rfl, RdC_go hR⟩) (Fr.up Fr.rf (by decide)) | exact hQ 0 _ (Or.inl ⟨rfl, rfl⟩) Fr.rf | exact hQ 1 _ (Or.inr ⟨_, rfl, rfl, RdC_par hR⟩) (Fr.up (Fr.up Fr.rf (by decide)) (by decide)) | exact hQ 0 _ (Or.inl ⟨rfl, rfl⟩) (Fr.up Fr.rf (by decide))
    · skip
      refine ⟨188, 192, by rw [h4s]; rfl, by decide, ?_⟩
      rw [rdS_6 (by omega)] at hQ
      refine J_aload_n 0 dX2_take_192 rfl ?_
      refine J_iload_n 1 dX2_take_193 rfl ?_
      refine JM_V1 lkM_X2_76 rcv_2 dX2_take_194 (by decide) (Nat.le_of_ble_eq_true rfl) ?_
      refine kX2_takeBehindDash hR hW hc (fun r ω1 q1 q2 => ?_)
      have hr01 : r = 0 ∨ r = 1 := by
        rcases q1 with ⟨_, q⟩ | ⟨_, _, q, _⟩
        · exact Or.inl q
        · exact Or.inr q
      refine JM_zret rfl (by first | exact hr01 | exact Or.inr rfl | exact Or.inl rfl) dX2_take_197 ?_
      first | exact hQ _ _ q1 q2 | exact hQ 1 _ (Or.inr ⟨_, rfl, rfl, q1⟩) q2 | exact hQ 1 _ (Or.inr ⟨_, rfl, rfl, RdC_go hR⟩) (Fr.up Fr.rf (by decide)) | exact hQ 0 _ (Or.inl ⟨rfl, rfl⟩) Fr.rf | exact hQ 1 _ (Or.inr ⟨_, rfl, rfl, RdC_par hR⟩) (Fr.up (Fr.up Fr.rf (by decide)) (by decide)) | exact hQ 0 _ (Or.inl ⟨rfl, rfl⟩) (Fr.up Fr.rf (by decide))
    · skip
      refine ⟨194, 198, by rw [h4s]; rfl, by decide, ?_⟩
      rw [rdS_7 (by omega)] at hQ
      refine J_aload_n 0 dX2_take_198 rfl ?_
      refine J_iload_n 1 dX2_take_199 rfl ?_
      refine JM_V1 lkM_X2_79 rcv_2 dX2_take_200 (by decide) (Nat.le_of_ble_eq_true rfl) ?_
      refine kX2_takeItem (by omega) hR hW hc (fun r ω1 q1 q2 => ?_)
      have hr01 : r = 0 ∨ r = 1 := by
        rcases q1 with ⟨_, q⟩ | ⟨_, _, q, _⟩
        · exact Or.inl q
        · exact Or.inr q
      refine JM_zret rfl (by first | exact hr01 | exact Or.inr rfl | exact Or.inl rfl) dX2_take_203 ?_
      first | exact hQ _ _ q1 q2 | exact hQ 1 _ (Or.inr ⟨_, rfl, rfl, q1⟩) q2 | exact hQ 1 _ (Or.inr ⟨_, rfl, rfl, RdC_go hR⟩) (Fr.up Fr.rf (by decide)) | exact hQ 0 _ (Or.inl ⟨rfl, rfl⟩) Fr.rf | exact hQ 1 _ (Or.inr ⟨_, rfl, rfl, RdC_par hR⟩) (Fr.up (Fr.up Fr.rf (by decide)) (by decide)) | exact hQ 0 _ (Or.inl ⟨rfl, rfl⟩) (Fr.up Fr.rf (by decide))

set_option maxRecDepth 100000 in
set_option maxHeartbeats 4000000 in
theorem l_read {X : Cx} {d : Nat} {Q : Option MV → Om → Prop} {ω0 : Om} {n : Int} (hn : 0 ≤ n ∧ n ≤ 8) (h40 : 0 ≤ ω0 1 1 ∧ ω0 1 1 ≤ 40) (hcd : ∀ i : Int, 0 ≤ i → i < ω0 1 1 → -100 ≤ ω0 8 i ∧ ω0 8 i ≤ 1000) : ∀ (k i : Nat) (ω : Om) (s : RS), (i : Int) + k = ω0 1 1 → RdC ω n s → RW n s → Fr [2, 9, 10, 11] ω0 ω → (∀ ω', (∀ s', (rdF (ω0 8) n k i s).2 = some s' → RdC ω' n s' ∧ RW n s') → Fr [2, 9, 10, 11] ω0 ω' → Q (some (vI (rdF (ω0 8) n k i s).1)) ω') → JM X mX2_read (d + 4) Q 7 [some (vR 2), some (vR 1), some (vI n), some (vI i)] [] ω := by
  intro k
  induction k with
  | zero =>
    intro i ω s hi hR hW hF hQ
    have e1 : ω 1 = ω0 1 := hF 1 (by decide)
    refine J_iload_n 3 dX2_read_7 rfl ?_
    refine J_aload_n 1 dX2_read_8 rfl ?_
    refine J_getI 1 lkF_X2_25 rfl rfl rfl dX2_read_9 ?_
    refine J_icmp_ge 35 dX2_read_12 (by decide) (fun h12 => ?_) (fun h12 => ?_)
    · skip
      refine J_aload_n 1 dX2_read_35 rfl ?_
      refine J_getI 1 lkF_X2_25 rfl rfl rfl dX2_read_36 ?_
      refine JM_iret rfl dX2_read_39 ?_
      rw [e1, show ω0 1 1 = (i : Int) from by omega]
      exact hQ ω (fun s' h => by cases h; exact ⟨hR, hW⟩) hF
    · skip
      rw [e1] at h12; exfalso; omega
  | succ k ih =>
    intro i ω s hi hR hW hF hQ
    have e1 : ω 1 = ω0 1 := hF 1 (by decide)
    have e8 : ω 8 = ω0 8 := hF 8 (by decide)
    have hcc := hcd i (by omega) (by omega)
    simp only [rdF] at hQ
    refine J_iload_n 3 dX2_read_7 rfl ?_
    refine J_aload_n 1 dX2_read_8 rfl ?_
    refine J_getI 1 lkF_X2_25 rfl rfl rfl dX2_read_9 ?_
    refine J_icmp_ge 35 dX2_read_12 (by decide) (fun h12 => ?_) (fun h12 => ?_)
    · skip
      rw [e1] at h12; exfalso; omega
    · skip
      refine J_aload_n 0 dX2_read_15 rfl ?_
      refine J_aload_n 1 dX2_read_16 rfl ?_
      refine J_iload_n 3 dX2_read_17 rfl ?_
      refine JM_V1 lkM_X2_31 rcv_1 dX2_read_18 (by decide) (Nat.le_of_ble_eq_true rfl) ?_
      refine kX1_codeAt (by rw [e1]; omega) ?_
      rw [e8]
      refine JM_V1 lkM_X2_35 rcv_2 dX2_read_21 (by decide) (Nat.le_of_ble_eq_true rfl) ?_
      refine kX2_take hn hR hW hcc (fun r ω1 q1 q2 => ?_)
      refine J_if_ne 29 dX2_read_24 (by decide) (fun h24 => ?_) (fun h24 => ?_)
      · skip
        rcases q1 with ⟨_, q⟩ | ⟨s1, g1, g2, g3⟩
        · exact absurd q h24
        rw [g1] at hQ
        refine J_iinc_3 dX2_read_29 (by decide) ⟨by omega, by omega⟩ rfl ?_
        refine J_goto 7 dX2_read_32 (by decide) ?_
        exact ih (i + 1) ω1 s1 (by omega) g3 (RW_step hW g1) (hF.tr q2) hQ
      · skip
        rcases q1 with ⟨g1, _⟩ | ⟨s1, _, g2, _⟩
        rotate_left
        · exfalso; omega
        rw [g1] at hQ
        refine J_iload_n 3 dX2_read_27 rfl ?_
        refine JM_iret rfl dX2_read_28 ?_
        exact hQ ω1 (fun s' h => by cases h) (hF.tr q2)

set_option maxRecDepth 100000 in
set_option maxHeartbeats 4000000 in
theorem kX2_read {X : Cx} {d : Nat} {ω : Om} {Q : Option MV → Om → Prop} {n : Int} (hn : 0 ≤ n ∧ n ≤ 8) (h40 : 0 ≤ ω 1 1 ∧ ω 1 1 ≤ 40) (hcd : ∀ i : Int, 0 ≤ i → i < ω 1 1 → -100 ≤ ω 8 i ∧ ω 8 i ≤ 1000) (hQ : ∀ ω', (∀ s', (rdF (ω 8) n (ω 1 1).toNat 0 rd0).2 = some s' → RdC ω' n s' ∧ RW n s') → Fr [2, 9, 10, 11] ω ω' → Q (some (vI (rdF (ω 8) n (ω 1 1).toNat 0 rd0).1)) ω') : Mc X mX2_read (d + 4) [vR 2, vR 1, vI n] ω Q := by
  refine Mc_of [some (vR 2), some (vR 1), some (vI n), none] (by decide +kernel) rfl (Nat.le_of_ble_eq_true rfl) ?_
  refine J_aload_n 0 dX2_read_0 rfl ?_
  refine J_iload_n 2 dX2_read_1 rfl ?_
  refine JM_V1 lkM_X2_21 rcv_2 dX2_read_2 (by decide) (Nat.le_of_ble_eq_true rfl) ?_
  refine kX2_start (fun ω1 q1 q2 => ?_)
  refine J_iconst 0 dX2_read_5 ⟨by decide, by decide⟩ ?_
  refine J_istore_3 dX2_read_6 (by decide) rfl ?_
  exact l_read hn h40 hcd (ω 1 1).toNat 0 ω1 rd0 (by omega) q1 (RW_0 n) q2 hQ

set_option maxRecDepth 100000 in
set_option maxHeartbeats 4000000 in
theorem kX2_isWhole {X : Cx} {d : Nat} {ω : Om} {Q : Option MV → Om → Prop} (hQ : Q (some (vI (if 4 ≤ ω 2 3 ∧ ω 2 3 ≤ 6 then 1 else 0))) ω) : Mc X mX2_isWhole d [vR 2] ω Q := by
  refine Mc_of [some (vR 2)] (by decide +kernel) rfl (Nat.le_of_ble_eq_true rfl) ?_
  refine J_aload_n 0 dX2_isWhole_0 rfl ?_
  refine J_getI 3 lkF_X2_39 rfl rfl rfl dX2_isWhole_1 ?_
  refine J_iconst 4 dX2_isWhole_4 ⟨by decide, by decide⟩ ?_
  refine J_icmp_eq 25 dX2_isWhole_5 (by decide) (fun h5 => ?_) (fun h5 => ?_)
  · skip
    refine J_iconst 1 dX2_isWhole_25 ⟨by decide, by decide⟩ ?_
    refine J_goto 30 dX2_isWhole_26 (by decide) ?_
    refine JM_zret rfl (by omega) dX2_isWhole_30 ?_
    (repeat' split at hQ) <;> first | exact hQ | (exfalso; omega)
  · skip
    refine J_aload_n 0 dX2_isWhole_8 rfl ?_
    refine J_getI 3 lkF_X2_39 rfl rfl rfl dX2_isWhole_9 ?_
    refine J_iconst 5 dX2_isWhole_12 ⟨by decide, by decide⟩ ?_
    refine J_icmp_eq 25 dX2_isWhole_13 (by decide) (fun h13 => ?_) (fun h13 => ?_)
    · skip
      refine J_iconst 1 dX2_isWhole_25 ⟨by decide, by decide⟩ ?_
      refine J_goto 30 dX2_isWhole_26 (by decide) ?_
      refine JM_zret rfl (by omega) dX2_isWhole_30 ?_
      (repeat' split at hQ) <;> first | exact hQ | (exfalso; omega)
    · skip
      refine J_aload_n 0 dX2_isWhole_16 rfl ?_
      refine J_getI 3 lkF_X2_39 rfl rfl rfl dX2_isWhole_17 ?_
      refine J_bipush 6 dX2_isWhole_20 ⟨by decide, by decide⟩ (by decide) ?_
      refine J_icmp_ne 29 dX2_isWhole_22 (by decide) (fun h22 => ?_) (fun h22 => ?_)
      · skip
        refine J_iconst 0 dX2_isWhole_29 ⟨by decide, by decide⟩ ?_
        refine JM_zret rfl (by omega) dX2_isWhole_30 ?_
        (repeat' split at hQ) <;> first | exact hQ | (exfalso; omega)
      · skip
        refine J_iconst 1 dX2_isWhole_25 ⟨by decide, by decide⟩ ?_
        refine J_goto 30 dX2_isWhole_26 (by decide) ?_
        refine JM_zret rfl (by omega) dX2_isWhole_30 ?_
        (repeat' split at hQ) <;> first | exact hQ | (exfalso; omega)
