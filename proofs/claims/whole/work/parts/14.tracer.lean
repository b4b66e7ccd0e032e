/-! the tracer -/
theorem TR_note {τ ω : Om} {s : TS} {c : Int} (h : TR τ ω s) : TR τ (up (up ω 19 (ω 4 7) c) 4 7 (ω 4 7 + 1)) (c :: s.1, s.2) := by
  obtain ⟨h1, h2, h3, h4, h5, h6, h7, h8, h9⟩ := h
  refine ⟨h1.fr (K := [4, 19]) ((Fr.rf.up (by decide)).up (by decide)) rfl, ?_, ?_, ?_, ?_, ?_, ?_, ?_, ?_⟩
  · rw [up_s, h2]; simp
  · rw [up_f (by decide), h2]; exact Arr_push h3
  · rw [up_i (by decide), up_k (by decide)]; exact h4
  · rw [up_f (by decide), up_f (by decide)]; exact h5
  · rw [up_f (by decide), up_f (by decide)]; exact h6
  · rw [up_f (by decide), up_f (by decide)]; exact h7
  · rw [up_i (by decide), up_k (by decide)]; exact h8
  · rw [up_i (by decide), up_k (by decide)]; exact h9
theorem any_has {l : List (Int × Int × Int)} {c : Int} : (l.any fun x => x.1 == c) = true ↔ c ∈ l.map (·.1) := by
  simp only [List.any_eq_true, List.mem_map, beq_iff_eq]
theorem TR_enter {τ ω ω' : Om} {s : TS} {b h : Int} (hT : TR τ ω s) (hb : 0 ≤ b ∧ b < 40)
    (he : ω' = up (up (up (up (up ω 20 (ω 4 6) b) 21 (ω 4 6) h) 22 (ω 4 6) 0) 4 5 (lOr (ω 4 5) (lShl 1 b))) 4 6 (ω 4 6 + 1)) (dp : Int) : (dp = s.2.2 → TR τ ω' (s.1, (b, h, 0) :: s.2.1, dp)) ∧ TR τ (up ω' 4 8 dp) (s.1, (b, h, 0) :: s.2.1, dp) := by
  obtain ⟨h1, h2, h3, h4, h5, h6, h7, h8, h9⟩ := hT
  have e1 : ∀ k, k ≠ 4 → k ≠ 20 → k ≠ 21 → k ≠ 22 → ω' k = ω k := by
    intro k a1 a2 a3 a4
    rw [he, up_f a1, up_f a1, up_f a4, up_f a3, up_f a2]
  have e2 : ∀ i, i ≠ 5 → i ≠ 6 → ω' 4 i = ω 4 i := by
    intro i a1 a2
    rw [he, up_i a2, up_i a1, up_k (by decide), up_k (by decide), up_k (by decide)]
  have e5 : ω' 4 5 = lOr (ω 4 5) (lShl 1 b) := by rw [he, up_i (by decide), up_s]
  have e6 : ω' 4 6 = ω 4 6 + 1 := by rw [he, up_s]
  have e20 : ω' 20 = up ω 20 (ω 4 6) b 20 := by rw [he, up_f (by decide), up_f (by decide), up_f (by decide), up_f (by decide)]
  have e21 : ω' 21 = up ω 21 (ω 4 6) h 21 := by
    rw [he, up_f (by decide), up_f (by decide), up_f (by decide)]; funext j; unfold up; split
    · rfl
    · rw [if_neg (by simp)]
  have e22 : ω' 22 = up ω 22 (ω 4 6) 0 22 := by
    rw [he, up_f (by decide), up_f (by decide)]; funext j; unfold up; split
    · rfl
    · rw [if_neg (by simp), if_neg (by simp)]
  have hTE : TE τ ω' := by
    obtain ⟨a1, a2, a3, a4, a5, a6, a7, a8⟩ := h1
    exact ⟨(e1 _ (by decide) (by decide) (by decide) (by decide)).trans a1, (e1 _ (by decide) (by decide) (by decide) (by decide)).trans a2, (e1 _ (by decide) (by decide) (by decide) (by decide)).trans a3, (e1 _ (by decide) (by decide) (by decide) (by decide)).trans a4, (e1 _ (by decide) (by decide) (by decide) (by decide)).trans a5, (e1 _ (by decide) (by decide) (by decide) (by decide)).trans a6, (e1 _ (by decide) (by decide) (by decide) (by decide)).trans a7, (e1 _ (by decide) (by decide) (by decide) (by decide)).trans a8⟩
  have k20 : Arr (ω' 20) (b :: s.2.1.map (·.1)) := by rw [e20, h4]; have := Arr_push (z := b) h5; rwa [List.length_map] at this
  have k21 : Arr (ω' 21) (h :: s.2.1.map (·.2.1)) := by rw [e21, h4]; have := Arr_push (z := h) h6; rwa [List.length_map] at this
  have k22 : Arr (ω' 22) (0 :: s.2.1.map (·.2.2)) := by rw [e22, h4]; have := Arr_push (z := 0) h7; rwa [List.length_map] at this
  have kb : ∀ c : Nat, c < 64 → tbL (ω' 4 5) c = ((b, h, (0 : Int)) :: s.2.1).any (fun x => x.1 == (c : Int)) := by
    intro c hc
    have hbn : b = ((b.toNat : Nat) : Int) := by omega
    rw [e5, hbn, bit_or _ (by omega) hc, h9 c hc]
    simp only [List.any_cons]
    rw [Bool.or_comm]
    congr 1
    rw [Bool.eq_iff_iff]; simp only [decide_eq_true_eq, beq_iff_eq]; omega
  refine ⟨fun hd => ⟨hTE, ?_, ?_, ?_, k20, k21, k22, ?_, kb⟩, ?_⟩
  · rw [e2 7 (by decide) (by decide)]; exact h2
  · rw [e1 _ (by decide) (by decide) (by decide) (by decide)]; exact h3
  · rw [e6, h4]; simp
  · rw [e2 8 (by decide) (by decide), h8, hd]
  · refine ⟨hTE.fr (K := [4]) (Fr.rf.up (by decide)) rfl, ?_, ?_, ?_, ?_, ?_, ?_, ?_, ?_⟩
    · rw [up_i (by decide), e2 7 (by decide) (by decide)]; exact h2
    · rw [up_f (by decide), e1 _ (by decide) (by decide) (by decide) (by decide)]; exact h3
    · rw [up_i (by decide), e6, h4]; simp
    · rw [up_f (by decide)]; exact k20
    · rw [up_f (by decide)]; exact k21
    · rw [up_f (by decide)]; exact k22
    · rw [up_s]
    · rw [up_i (by decide)]; exact kb
theorem TR_leave {τ ω : Om} {ev : List Int} {b h p : Int} {r : List (Int × Int × Int)} {dp : Int} (hT : TR τ ω (ev, (b, h, p) :: r, dp)) (hb : 0 ≤ b ∧ b < 40) (hn : b ∉ r.map (·.1)) : TR τ (up (up ω 4 6 (ω 4 6 - 1)) 4 5 (lAnd (ω 4 5) (lXor (lShl 1 b) (-1)))) (ev, r, dp) := by
  obtain ⟨h1, h2, h3, h4, h5, h6, h7, h8, h9⟩ := hT
  refine ⟨h1.fr (K := [4]) ((Fr.rf.up (by decide)).up (by decide)) rfl, ?_, ?_, ?_, ?_, ?_, ?_, ?_, ?_⟩
  · rw [up_i (by decide), up_i (by decide)]; exact h2
  · rw [up_f (by decide), up_f (by decide)]; exact h3
  · rw [up_i (by decide), up_s, h4]; simp
  · rw [up_f (by decide), up_f (by decide)]; exact h5.2
  · rw [up_f (by decide), up_f (by decide)]; exact h6.2
  · rw [up_f (by decide), up_f (by decide)]; exact h7.2
  · rw [up_i (by decide), up_i (by decide)]; exact h8
  · intro c hc
    have hbn : b = ((b.toNat : Nat) : Int) := by omega
    rw [up_s]
    rw [hbn, bit_clr _ (by omega) hc, h9 c hc]
    simp only [List.any_cons]
    by_cases e : c = b.toNat
    · have e2 : (c : Int) = b := by omega
      have : (r.any fun x => x.1 == (c : Int)) = false := by
        rw [Bool.eq_false_iff]; intro q; rw [any_has] at q; exact hn (e2 ▸ q)
      rw [this]; simp [e]
    · have e2 : (b == (c : Int)) = false := by simp; omega
      simp [e, e2]
theorem TR_next {τ ω : Om} {ev : List Int} {b h p : Int} {r : List (Int × Int × Int)} {dp : Int} (hT : TR τ ω (ev, (b, h, p) :: r, dp)) : TR τ (up ω 22 (ω 4 6 - 1) (p + 1)) (ev, (b, h, p + 1) :: r, dp) := by
  obtain ⟨h1, h2, h3, h4, h5, h6, h7, h8, h9⟩ := hT
  have e : ω 4 6 - 1 = ((r.map (·.2.2)).length : Int) := by rw [h4]; simp
  refine ⟨h1.fr (K := [22]) (Fr.rf.up (by decide)) rfl, ?_, ?_, ?_, ?_, ?_, ?_, ?_, ?_⟩
  · rw [up_k (by decide)]; exact h2
  · rw [up_f (by decide)]; exact h3
  · rw [up_k (by decide)]; exact h4
  · rw [up_f (by decide)]; exact h5
  · rw [up_f (by decide)]; exact h6
  · rw [e]; exact Arr_push h7.2
  · rw [up_k (by decide)]; exact h8
  · rw [up_k (by decide)]; exact h9
set_option maxRecDepth 100000 in
set_option maxHeartbeats 4000000 in
theorem kX4_note {X : Cx} {d : Nat} {ω : Om} {Q : Option MV → Om → Prop} {k n : Int} {τ : Om} {s : TS} (hT : TR τ ω s) (hl : s.1.length < 60) (hr : InR (4 * n)) (hr2 : InR (4 * n + k)) (hQ : ∀ ω', TR τ ω' ((4 * n + k) :: s.1, s.2) → Fr [4, 19, 20, 21, 22] ω ω' → Q none ω') : Mc X mX4_note d [vR 4, vI k, vI n] ω Q := by
  have hsz : ω 4 7 = s.1.length := hT.2.1
  refine Mc_of [some (vR 4), some (vI k), some (vI n)] (by decide +kernel) rfl (Nat.le_of_ble_eq_true rfl) ?_
  refine J_aload_n 0 dX4_note_0 rfl ?_
  refine J_getI 7 lkF_X4_36 rfl rfl rfl dX4_note_1 ?_
  refine J_if_lt 40 dX4_note_4 (by decide) (fun h4 => ?_) (fun h4 => ?_)
  · skip
    exfalso; omega
  · skip
    refine J_aload_n 0 dX4_note_7 rfl ?_
    refine J_getI 7 lkF_X4_36 rfl rfl rfl dX4_note_8 ?_
    refine J_bipush 60 dX4_note_11 ⟨by decide, by decide⟩ (by decide) ?_
    refine J_icmp_ge 40 dX4_note_13 (by decide) (fun h13 => ?_) (fun h13 => ?_)
    · skip
      exfalso; omega
    · skip
      refine J_aload_n 0 dX4_note_16 rfl ?_
      refine J_getR lkF_X4_9 rfl dX4_note_17 ?_
      refine J_aload_n 0 dX4_note_20 rfl ?_
      refine J_getI 7 lkF_X4_36 rfl rfl rfl dX4_note_21 ?_
      refine J_iconst 4 dX4_note_24 ⟨by decide, by decide⟩ ?_
      refine J_iload_n 2 dX4_note_25 rfl ?_
      refine J_imul dX4_note_26 hr ?_
      refine J_iload_n 1 dX4_note_27 rfl ?_
      refine J_iadd dX4_note_28 hr2 ?_
      refine J_iastore _ rfl (by omega) dX4_note_29 ?_
      refine J_aload_n 0 dX4_note_30 rfl ?_
      first | refine J_dupR dX4_note_31 ?_ | refine J_dupI dX4_note_31 ?_
      refine J_getI 7 lkF_X4_36 rfl rfl rfl dX4_note_32 ?_
      try simp (config := {decide := true}) only [up_s, up_k, up_i]
      refine J_iconst 1 dX4_note_35 ⟨by decide, by decide⟩ ?_
      refine J_iadd dX4_note_36 ⟨by omega, by omega⟩ ?_
      refine J_putI 7 lkF_X4_36 rfl fp_4_7 rfl dX4_note_37 ?_
      refine JM_vret rfl dX4_note_40 ?_
      exact hQ _ (TR_note hT) ((Fr.up (Fr.up Fr.rf (by decide)) (by decide)))

set_option maxRecDepth 100000 in
set_option maxHeartbeats 4000000 in
theorem kX4_openHome {X : Cx} {d : Nat} {ω : Om} {Q : Option MV → Om → Prop} {τ : Om} {ev : List Int} {b h p : Int} {r : List (Int × Int × Int)} {dp : Int} (hT : TR τ ω (ev, (b, h, p) :: r, dp)) (hl : r.length < 40) (hQ : Q (some (vI h)) ω) : Mc X mX4_openHome d [vR 4] ω Q := by
  have hop : ω 4 6 = r.length + 1 := by have := hT.2.2.2.1; simpa using this
  have hh : ω 21 (ω 4 6 - 1) = h := by have := hT.2.2.2.2.2.1.1; rw [hop]; simpa using this
  refine Mc_of [some (vR 4)] (by decide +kernel) rfl (Nat.le_of_ble_eq_true rfl) ?_
  refine J_aload_n 0 dX4_openHome_0 rfl ?_
  refine J_getI 6 lkF_X4_28 rfl rfl rfl dX4_openHome_1 ?_
  refine J_if_le 30 dX4_openHome_4 (by decide) (fun h4 => ?_) (fun h4 => ?_)
  · skip
    exfalso; omega
  · skip
    refine J_aload_n 0 dX4_openHome_7 rfl ?_
    refine J_getI 6 lkF_X4_28 rfl rfl rfl dX4_openHome_8 ?_
    refine J_bipush 40 dX4_openHome_11 ⟨by decide, by decide⟩ (by decide) ?_
    refine J_icmp_gt 30 dX4_openHome_13 (by decide) (fun h13 => ?_) (fun h13 => ?_)
    · skip
      exfalso; omega
    · skip
      refine J_aload_n 0 dX4_openHome_16 rfl ?_
      refine J_getR lkF_X4_18 rfl dX4_openHome_17 ?_
      refine J_aload_n 0 dX4_openHome_20 rfl ?_
      refine J_getI 6 lkF_X4_28 rfl rfl rfl dX4_openHome_21 ?_
      refine J_iconst 1 dX4_openHome_24 ⟨by decide, by decide⟩ ?_
      refine J_isub dX4_openHome_25 ⟨by omega, by omega⟩ ?_
      refine J_iaload _ rfl rfl (by omega) dX4_openHome_26 ?_
      refine J_goto 31 dX4_openHome_27 (by decide) ?_
      refine JM_iret rfl dX4_openHome_31 ?_
      rw [hh]; exact hQ

set_option maxRecDepth 100000 in
set_option maxHeartbeats 4000000 in
theorem kX4_nextItem {X : Cx} {d : Nat} {ω : Om} {Q : Option MV → Om → Prop} {τ : Om} {ev : List Int} {b h p : Int} {r : List (Int × Int × Int)} {dp : Int} (hT : TR τ ω (ev, (b, h, p) :: r, dp)) (hl : r.length < 40) (hp : 0 ≤ p ∧ p ≤ 6) (hQ : ∀ ω', TR τ ω' (ev, (b, h, p + 1) :: r, dp) → Fr [4, 19, 20, 21, 22] ω ω' → Q (some (vI (itA τ b p))) ω') : Mc X mX4_nextItem (d + 1) [vR 4] ω Q := by
  have hop : ω 4 6 = r.length + 1 := by have := hT.2.2.2.1; simpa using this
  have hb1 : ω 20 (ω 4 6 - 1) = b := by have := hT.2.2.2.2.1.1; rw [hop]; simpa using this
  have hp1 : ω 22 (ω 4 6 - 1) = p := by have := hT.2.2.2.2.2.2.1.1; rw [hop]; simpa using this
  refine Mc_of [some (vR 4), none, none] (by decide +kernel) rfl (Nat.le_of_ble_eq_true rfl) ?_
  refine J_aload_n 0 dX4_nextItem_0 rfl ?_
  refine J_getI 6 lkF_X4_28 rfl rfl rfl dX4_nextItem_1 ?_
  refine J_iconst 1 dX4_nextItem_4 ⟨by decide, by decide⟩ ?_
  refine J_isub dX4_nextItem_5 ⟨by omega, by omega⟩ ?_
  refine J_istore_1 dX4_nextItem_6 (by decide) rfl ?_
  refine J_iload_n 1 dX4_nextItem_7 rfl ?_
  refine J_if_lt 17 dX4_nextItem_8 (by decide) (fun h8 => ?_) (fun h8 => ?_)
  · skip
    exfalso; omega
  · skip
    refine J_iload_n 1 dX4_nextItem_11 rfl ?_
    refine J_bipush 40 dX4_nextItem_12 ⟨by decide, by decide⟩ (by decide) ?_
    refine J_icmp_lt 19 dX4_nextItem_14 (by decide) (fun h14 => ?_) (fun h14 => ?_)
    · skip
      refine J_aload_n 0 dX4_nextItem_19 rfl ?_
      refine J_getR lkF_X4_24 rfl dX4_nextItem_20 ?_
      refine J_aload_n 0 dX4_nextItem_23 rfl ?_
      refine J_getR lkF_X4_15 rfl dX4_nextItem_24 ?_
      refine J_iload_n 1 dX4_nextItem_27 rfl ?_
      refine J_iaload _ rfl rfl (by omega) dX4_nextItem_28 ?_
      refine J_aload_n 0 dX4_nextItem_29 rfl ?_
      refine J_getR lkF_X4_21 rfl dX4_nextItem_30 ?_
      refine J_iload_n 1 dX4_nextItem_33 rfl ?_
      refine J_iaload _ rfl rfl (by omega) dX4_nextItem_34 ?_
      refine JM_V2 lkM_X4_66 rcv_3 dX4_nextItem_35 (by decide) (Nat.le_of_ble_eq_true rfl) ?_
      refine kX5_itemAt ?_
      rw [hb1, hp1, itA_TE hT.1]
      refine J_istore_2 dX4_nextItem_38 (by decide) rfl ?_
      refine J_aload_n 0 dX4_nextItem_39 rfl ?_
      refine J_getR lkF_X4_21 rfl dX4_nextItem_40 ?_
      refine J_iload_n 1 dX4_nextItem_43 rfl ?_
      refine J_dup2 dX4_nextItem_44 ?_
      refine J_iaload _ rfl rfl (by omega) dX4_nextItem_45 ?_
      rw [hp1]
      refine J_iconst 1 dX4_nextItem_46 ⟨by decide, by decide⟩ ?_
      refine J_iadd dX4_nextItem_47 ⟨by omega, by omega⟩ ?_
      refine J_iastore _ rfl (by omega) dX4_nextItem_48 ?_
      refine J_iload_n 2 dX4_nextItem_49 rfl ?_
      refine JM_iret rfl dX4_nextItem_50 ?_
      exact hQ _ (TR_next hT) ((Fr.up Fr.rf (by decide)))
    · skip
      exfalso; omega

set_option maxRecDepth 100000 in
set_option maxHeartbeats 4000000 in
theorem kX4_homeFor {X : Cx} {d : Nat} {ω : Om} {Q : Option MV → Om → Prop} {ty it : Int} {τ : Om} {ev : List Int} {b h p : Int} {r : List (Int × Int × Int)} {dp : Int} (hT : TR τ ω (ev, (b, h, p) :: r, dp)) (hl : r.length < 40) (hi : 0 ≤ it ∧ it < 100) (hQ : Q (some (vI (homT τ ty h it))) ω) : Mc X mX4_homeFor (d + 1) [vR 4, vI ty, vI it] ω Q := by
  unfold homT at hQ
  refine Mc_of [some (vR 4), some (vI ty), some (vI it), none] (by decide +kernel) rfl (Nat.le_of_ble_eq_true rfl) ?_
  refine J_aload_n 0 dX4_homeFor_0 rfl ?_
  refine JM_V0 lkM_X4_69 rcv_4 dX4_homeFor_1 (by decide) (Nat.le_of_ble_eq_true rfl) ?_
  refine kX4_openHome hT hl ?_
  refine J_istore_3 dX4_homeFor_4 (by decide) rfl ?_
  refine J_iload_n 2 dX4_homeFor_5 rfl ?_
  refine J_bipush 20 dX4_homeFor_6 ⟨by decide, by decide⟩ (by decide) ?_
  refine J_icmp_lt 31 dX4_homeFor_8 (by decide) (fun h8 => ?_) (fun h8 => ?_)
  · skip
    rw [if_neg (by omega)] at hQ
    refine J_aload_n 0 dX4_homeFor_31 rfl ?_
    refine J_getR lkF_X4_24 rfl dX4_homeFor_32 ?_
    refine J_iload_n 3 dX4_homeFor_35 rfl ?_
    refine J_iload_n 2 dX4_homeFor_36 rfl ?_
    refine JM_V2 lkM_X4_76 rcv_3 dX4_homeFor_37 (by decide) (Nat.le_of_ble_eq_true rfl) ?_
    refine kX5_hides ?_
    refine J_if_eq 47 dX4_homeFor_40 (by decide) (fun h40 => ?_) (fun h40 => ?_)
    · skip
      rw [hds_TE hT.1] at h40
      rw [if_pos h40] at hQ
      refine J_aload_n 0 dX4_homeFor_47 rfl ?_
      refine J_getR lkF_X4_24 rfl dX4_homeFor_48 ?_
      refine J_iload_n 1 dX4_homeFor_51 rfl ?_
      refine J_iload_n 2 dX4_homeFor_52 rfl ?_
      refine JM_V2 lkM_X4_42 rcv_3 dX4_homeFor_53 (by decide) (Nat.le_of_ble_eq_true rfl) ?_
      refine kX5_nearest ?_
      refine JM_iret rfl dX4_homeFor_56 ?_
      first | exact hQ | (rw [nrS_TE hT.1]; exact hQ) | (rw [nrS_TE hT.1, pr_TE hT.1]; exact hQ)
    · skip
      rw [hds_TE hT.1] at h40
      rw [if_neg h40] at hQ
      refine J_iload_n 3 dX4_homeFor_43 rfl ?_
      refine J_goto 56 dX4_homeFor_44 (by decide) ?_
      refine JM_iret rfl dX4_homeFor_56 ?_
      first | exact hQ | (rw [nrS_TE hT.1]; exact hQ) | (rw [nrS_TE hT.1, pr_TE hT.1]; exact hQ)
  · skip
    rw [if_pos (by omega)] at hQ
    refine J_aload_n 0 dX4_homeFor_11 rfl ?_
    refine J_getR lkF_X4_24 rfl dX4_homeFor_12 ?_
    refine J_aload_n 0 dX4_homeFor_15 rfl ?_
    refine J_getR lkF_X4_24 rfl dX4_homeFor_16 ?_
    refine J_iload_n 3 dX4_homeFor_19 rfl ?_
    refine JM_V1 lkM_X4_72 rcv_3 dX4_homeFor_20 (by decide) (Nat.le_of_ble_eq_true rfl) ?_
    refine kX5_parentOf ?_
    refine J_iload_n 2 dX4_homeFor_23 rfl ?_
    refine J_bipush 20 dX4_homeFor_24 ⟨by decide, by decide⟩ (by decide) ?_
    refine J_isub dX4_homeFor_26 ⟨by omega, by omega⟩ ?_
    refine JM_V2 lkM_X4_42 rcv_3 dX4_homeFor_27 (by decide) (Nat.le_of_ble_eq_true rfl) ?_
    refine kX5_nearest ?_
    refine JM_iret rfl dX4_homeFor_30 ?_
    first | exact hQ | (rw [nrS_TE hT.1]; exact hQ) | (rw [nrS_TE hT.1, pr_TE hT.1]; exact hQ)

set_option maxRecDepth 100000 in
set_option maxHeartbeats 4000000 in
theorem kX4_use {X : Cx} {d : Nat} {ω : Om} {Q : Option MV → Om → Prop} {f : Int} {τ : Om} {ev : List Int} {b h p : Int} {r : List (Int × Int × Int)} {dp : Int} (hT : TR τ ω (ev, (b, h, p) :: r, dp)) (hl : r.length < 40) (he : ev.length < 60) (hf : 0 ≤ f ∧ f < 100) (hv : -1 ≤ hb τ (nrS τ h f) f ∧ hb τ (nrS τ h f) f < 100) (hQ : ∀ ω', TR τ ω' (useT τ (ev, (b, h, p) :: r, dp) h f) → Fr [4, 19, 20, 21, 22] ω ω' → Q none ω') : Mc X mX4_use (d + 1) [vR 4, vI f] ω Q := by
  refine Mc_of [some (vR 4), some (vI f), none] (by decide +kernel) rfl (Nat.le_of_ble_eq_true rfl) ?_
  refine J_aload_n 0 dX4_use_0 rfl ?_
  refine J_getR lkF_X4_24 rfl dX4_use_1 ?_
  refine J_aload_n 0 dX4_use_4 rfl ?_
  refine J_getR lkF_X4_24 rfl dX4_use_5 ?_
  refine J_aload_n 0 dX4_use_8 rfl ?_
  refine JM_V0 lkM_X4_69 rcv_4 dX4_use_9 (by decide) (Nat.le_of_ble_eq_true rfl) ?_
  refine kX4_openHome hT hl ?_
  refine J_iload_n 1 dX4_use_12 rfl ?_
  refine JM_V2 lkM_X4_42 rcv_3 dX4_use_13 (by decide) (Nat.le_of_ble_eq_true rfl) ?_
  refine kX5_nearest ?_
  refine J_iload_n 1 dX4_use_16 rfl ?_
  refine JM_V2 lkM_X4_80 rcv_3 dX4_use_17 (by decide) (Nat.le_of_ble_eq_true rfl) ?_
  refine kX5_heldBy ?_
  rw [hb_TE hT.1, nrS_TE hT.1]
  unfold useT at hQ
  generalize hb τ (nrS τ h f) f = sl at hv hQ ⊢
  refine J_istore_2 dX4_use_20 (by decide) rfl ?_
  refine J_aload_n 0 dX4_use_21 rfl ?_
  refine J_iload_n 2 dX4_use_22 rfl ?_
  refine J_iconst (-1) dX4_use_23 ⟨by decide, by decide⟩ ?_
  refine J_icmp_ne 31 dX4_use_24 (by decide) (fun h24 => ?_) (fun h24 => ?_)
  · skip
    refine J_iconst 2 dX4_use_31 ⟨by decide, by decide⟩ ?_
    refine J_iload_n 2 dX4_use_32 rfl ?_
    refine J_iconst (-1) dX4_use_33 ⟨by decide, by decide⟩ ?_
    refine J_icmp_ne 41 dX4_use_34 (by decide) (fun h34 => ?_) (fun h34 => ?_)
    · skip
      refine J_iload_n 2 dX4_use_41 rfl ?_
      refine JM_V2 lkM_X4_83 rcv_4 dX4_use_42 (by decide) (Nat.le_of_ble_eq_true rfl) ?_
      first | (refine kX4_note hT he ⟨by omega, by omega⟩ ⟨by omega, by omega⟩ (fun ω1 q1 q2 => ?_); (first | rw [if_pos (by omega)] at hQ | rw [if_neg (by omega)] at hQ))
      refine JM_vret rfl dX4_use_45 ?_
      first | exact hQ _ q1 q2 | (exfalso; omega)
    · skip
      refine J_iload_n 1 dX4_use_37 rfl ?_
      refine J_goto 42 dX4_use_38 (by decide) ?_
      refine JM_V2 lkM_X4_83 rcv_4 dX4_use_42 (by decide) (Nat.le_of_ble_eq_true rfl) ?_
      first | (refine kX4_note hT he ⟨by omega, by omega⟩ ⟨by omega, by omega⟩ (fun ω1 q1 q2 => ?_); (first | rw [if_pos (by omega)] at hQ | rw [if_neg (by omega)] at hQ))
      refine JM_vret rfl dX4_use_45 ?_
      first | exact hQ _ q1 q2 | (exfalso; omega)
  · skip
    refine J_iconst 3 dX4_use_27 ⟨by decide, by decide⟩ ?_
    refine J_goto 32 dX4_use_28 (by decide) ?_
    refine J_iload_n 2 dX4_use_32 rfl ?_
    refine J_iconst (-1) dX4_use_33 ⟨by decide, by decide⟩ ?_
    refine J_icmp_ne 41 dX4_use_34 (by decide) (fun h34 => ?_) (fun h34 => ?_)
    · skip
      refine J_iload_n 2 dX4_use_41 rfl ?_
      refine JM_V2 lkM_X4_83 rcv_4 dX4_use_42 (by decide) (Nat.le_of_ble_eq_true rfl) ?_
      first | (refine kX4_note hT he ⟨by omega, by omega⟩ ⟨by omega, by omega⟩ (fun ω1 q1 q2 => ?_); (first | rw [if_pos (by omega)] at hQ | rw [if_neg (by omega)] at hQ))
      refine JM_vret rfl dX4_use_45 ?_
      first | exact hQ _ q1 q2 | (exfalso; omega)
    · skip
      refine J_iload_n 1 dX4_use_37 rfl ?_
      refine J_goto 42 dX4_use_38 (by decide) ?_
      refine JM_V2 lkM_X4_83 rcv_4 dX4_use_42 (by decide) (Nat.le_of_ble_eq_true rfl) ?_
      first | (refine kX4_note hT he ⟨by omega, by omega⟩ ⟨by omega, by omega⟩ (fun ω1 q1 q2 => ?_); (first | rw [if_pos (by omega)] at hQ | rw [if_neg (by omega)] at hQ))
      refine JM_vret rfl dX4_use_45 ?_
      first | exact hQ _ q1 q2 | (exfalso; omega)

theorem hb_R {τ : Om} (hW : WfT τ) (t : Int) {m : Int} (hm : m < 6) : -1 ≤ hb τ t m ∧ hb τ t m < 40 := by
  unfold hb
  split
  · rename_i h
    have := hW.2.2.2.1 t m h.1 h.2.1 h.2.2.2.1 hm
    have := hW.2.1
    omega
  · omega
theorem hb_RF {τ : Om} (hW : WfT τ) (t : Int) {m : Int} (hm : 6 ≤ m) : -1 ≤ hb τ t m ∧ hb τ t m < 96 := by
  unfold hb
  split
  · rename_i h
    have := hW.2.2.2.2.1 t m h.1 h.2.1 hm h.2.2.2.2
    omega
  · omega
theorem itA_R {τ : Om} (hW : WfT τ) (b p : Int) (h : ¬ itA τ b p = -1) : ((0 ≤ itA τ b p ∧ itA τ b p < 12) ∨ (20 ≤ itA τ b p ∧ itA τ b p < 26)) ∧ p < 6 := by
  unfold itA at h ⊢
  split
  · rename_i g
    exact ⟨hW.2.2.2.2.2.2.2.2.1 b p g.1 g.2.1 g.2.2.2.1 g.2.2.2.2.1, g.2.2.2.2.2⟩
  · rename_i g; rw [if_neg g] at h; exact absurd rfl h
theorem TW_len {s : TS} (h : TW s) : s.2.1.length ≤ 40 := by
  have := pigeon 40 (s.2.1.map (·.1)) h.2.1 (fun x hx => by
    obtain ⟨y, h1, h2⟩ := List.mem_map.mp hx
    have := h.1 y h1
    subst h2; omega)
  simpa using this
theorem TW_new {s : TS} {b : Int} (h : TW s) (hb : 0 ≤ b ∧ b < 40) (hn : b ∉ s.2.1.map (·.1)) : s.2.1.length < 40 := by
  have := pigeon 40 (b :: s.2.1.map (·.1)) (List.nodup_cons.mpr ⟨hn, h.2.1⟩) (fun x hx => by
    rcases List.mem_cons.mp hx with rfl | hx
    · omega
    · obtain ⟨y, h1, h2⟩ := List.mem_map.mp hx
      have := h.1 y h1
      subst h2; omega)
  simp at this
  omega
theorem TW_meet {τ : Om} {s : TS} {h m : Int} (hs : TW s) (hl : s.1.length < 60) (hb' : -1 ≤ hb τ h m ∧ hb τ h m < 40) : TW (meetT τ s h m) := by
  unfold meetT
  split
  · exact ⟨hs.1, hs.2.1, hs.2.2.1, Nat.le_trans hs.2.2.2.1 (by simp), by simp; omega⟩
  · split
    · exact ⟨hs.1, hs.2.1, hs.2.2.1, Nat.le_trans hs.2.2.2.1 (by simp), by simp; omega⟩
    · rename_i h1 h2
      have hn : hb τ h m ∉ s.2.1.map (·.1) := fun q => h2 (any_has.mpr q)
      have h3 := hs.2.2.1
      have h4 := hs.2.2.2.1
      refine ⟨fun x hx => ?_, ?_, ?_, ?_, ?_⟩
      · rcases List.mem_cons.mp hx with rfl | hx
        · simp only; omega
        · exact hs.1 x hx
      · simp only [List.map_cons]; exact List.nodup_cons.mpr ⟨hn, hs.2.1⟩
      · simp only; split <;> omega
      · simp; omega
      · simp; omega
theorem TW_use {τ : Om} {s : TS} {h m : Int} (hs : TW s) (hl : s.1.length < 60) : TW (useT τ s h m) := by
  unfold useT
  exact ⟨hs.1, hs.2.1, hs.2.2.1, Nat.le_trans hs.2.2.2.1 (by simp), by simp; omega⟩
theorem TW_pop {ev : List Int} {x : Int × Int × Int} {r : List (Int × Int × Int)} {dp : Int} (h : TW (ev, x :: r, dp)) : TW (ev, r, dp) ∧ x.1 ∉ r.map (·.1) := by
  have h2 : (x.1 :: r.map (·.1)).Nodup := h.2.1
  refine ⟨⟨fun y hy => h.1 y (List.mem_cons_of_mem _ hy), (List.nodup_cons.mp h2).2, h.2.2.1, ?_, h.2.2.2.2⟩, (List.nodup_cons.mp h2).1⟩
  have := h.2.2.2.1
  simp at this ⊢
  omega
theorem TW_bump {ev : List Int} {b h p : Int} {r : List (Int × Int × Int)} {dp : Int} (hs : TW (ev, (b, h, p) :: r, dp)) (hp : p < 6) : TW (ev, (b, h, p + 1) :: r, dp) := by
  refine ⟨fun y hy => ?_, hs.2.1, hs.2.2.1, hs.2.2.2.1, hs.2.2.2.2⟩
  rcases List.mem_cons.mp hy with rfl | hy
  · have := hs.1 (b, h, p) List.mem_cons_self
    simp only at this ⊢; omega
  · exact hs.1 y (List.mem_cons_of_mem _ hy)
theorem TW_step {τ : Om} {ty : Int} {s : TS} (hW : WfT τ) (hs : TW s) (hl : s.1.length < 60) : TW (stepT τ ty s) := by
  obtain ⟨ev, stk, dp⟩ := s
  cases stk with
  | nil => exact hs
  | cons x r =>
    obtain ⟨b, h, p⟩ := x
    simp only [stepT]
    split
    · exact (TW_pop hs).1
    · rename_i h1
      obtain ⟨g1, g2⟩ := itA_R hW b p h1
      split
      · exact TW_use (TW_bump hs g2) hl
      · rename_i h2
        exact TW_meet (TW_bump hs g2) hl (hb_R hW _ (by omega))
set_option maxRecDepth 100000 in
set_option maxHeartbeats 4000000 in
theorem kX4_enter {X : Cx} {d : Nat} {ω : Om} {Q : Option MV → Om → Prop} {b h : Int} {τ : Om} {s : TS} (hT : TR τ ω s) (hl : s.2.1.length < 40) (hb : 0 ≤ b ∧ b < 40) (hQ : ∀ ω', TR τ ω' (s.1, (b, h, 0) :: s.2.1, if s.2.2 < (s.2.1.length : Int) + 1 then (s.2.1.length : Int) + 1 else s.2.2) → Fr [4, 19, 20, 21, 22] ω ω' → Q none ω') : Mc X mX4_enter d [vR 4, vI b, vI h] ω Q := by
  have hop : ω 4 6 = s.2.1.length := hT.2.2.2.1
  have hdp : ω 4 8 = s.2.2 := hT.2.2.2.2.2.2.2.1
  refine Mc_of [some (vR 4), some (vI b), some (vI h)] (by decide +kernel) rfl (Nat.le_of_ble_eq_true rfl) ?_
  refine J_aload_n 0 dX4_enter_0 rfl ?_
  refine J_getI 6 lkF_X4_28 rfl rfl rfl dX4_enter_1 ?_
  refine J_if_lt 16 dX4_enter_4 (by decide) (fun h4 => ?_) (fun h4 => ?_)
  · skip
    exfalso; omega
  · skip
    refine J_aload_n 0 dX4_enter_7 rfl ?_
    refine J_getI 6 lkF_X4_28 rfl rfl rfl dX4_enter_8 ?_
    refine J_bipush 40 dX4_enter_11 ⟨by decide, by decide⟩ (by decide) ?_
    refine J_icmp_lt 17 dX4_enter_13 (by decide) (fun h13 => ?_) (fun h13 => ?_)
    · skip
      refine J_aload_n 0 dX4_enter_17 rfl ?_
      refine J_getR lkF_X4_15 rfl dX4_enter_18 ?_
      refine J_aload_n 0 dX4_enter_21 rfl ?_
      refine J_getI 6 lkF_X4_28 rfl rfl rfl dX4_enter_22 ?_
      refine J_iload_n 1 dX4_enter_25 rfl ?_
      refine J_iastore _ rfl (by omega) dX4_enter_26 ?_
      refine J_aload_n 0 dX4_enter_27 rfl ?_
      refine J_getR lkF_X4_18 rfl dX4_enter_28 ?_
      refine J_aload_n 0 dX4_enter_31 rfl ?_
      refine J_getI 6 lkF_X4_28 rfl rfl rfl dX4_enter_32 ?_
      try simp (config := {decide := true}) only [up_s, up_k, up_i]
      refine J_iload_n 2 dX4_enter_35 rfl ?_
      refine J_iastore _ rfl (by omega) dX4_enter_36 ?_
      refine J_aload_n 0 dX4_enter_37 rfl ?_
      refine J_getR lkF_X4_21 rfl dX4_enter_38 ?_
      refine J_aload_n 0 dX4_enter_41 rfl ?_
      refine J_getI 6 lkF_X4_28 rfl rfl rfl dX4_enter_42 ?_
      try simp (config := {decide := true}) only [up_s, up_k, up_i]
      refine J_iconst 0 dX4_enter_45 ⟨by decide, by decide⟩ ?_
      refine J_iastore _ rfl (by omega) dX4_enter_46 ?_
      refine J_aload_n 0 dX4_enter_47 rfl ?_
      first | refine J_dupR dX4_enter_48 ?_ | refine J_dupI dX4_enter_48 ?_
      refine J_getL 5 lkF_X4_32 rfl rfl dX4_enter_49 ?_
      try simp (config := {decide := true}) only [up_s, up_k, up_i]
      refine J_lconst1 dX4_enter_52 ?_
      refine J_iload_n 1 dX4_enter_53 rfl ?_
      refine J_lshl dX4_enter_54 ?_
      refine J_lor dX4_enter_55 ?_
      refine J_putL 5 lkF_X4_32 rfl fp_4_5 rfl rfl dX4_enter_56 ?_
      refine J_aload_n 0 dX4_enter_59 rfl ?_
      first | refine J_dupR dX4_enter_60 ?_ | refine J_dupI dX4_enter_60 ?_
      refine J_getI 6 lkF_X4_28 rfl rfl rfl dX4_enter_61 ?_
      try simp (config := {decide := true}) only [up_s, up_k, up_i]
      refine J_iconst 1 dX4_enter_64 ⟨by decide, by decide⟩ ?_
      refine J_iadd dX4_enter_65 ⟨by omega, by omega⟩ ?_
      refine J_putI 6 lkF_X4_28 rfl fp_4_6 rfl dX4_enter_66 ?_
      refine J_aload_n 0 dX4_enter_69 rfl ?_
      refine J_getI 6 lkF_X4_28 rfl rfl rfl dX4_enter_70 ?_
      try simp (config := {decide := true}) only [up_s, up_k, up_i]
      refine J_aload_n 0 dX4_enter_73 rfl ?_
      refine J_getI 8 lkF_X4_39 rfl rfl rfl dX4_enter_74 ?_
      try simp (config := {decide := true}) only [up_s, up_k, up_i]
      refine J_icmp_le 88 dX4_enter_77 (by decide) (fun h77 => ?_) (fun h77 => ?_)
      · skip
        refine JM_vret rfl dX4_enter_88 ?_
        first | (rw [if_pos (by omega)] at hQ; exact hQ _ (by have := (TR_enter (h := h) hT hb rfl ((s.2.1.length : Int) + 1)).2; rw [hop] at this ⊢; exact this) ((Fr.up (Fr.up (Fr.up (Fr.up (Fr.up (Fr.up Fr.rf (by decide)) (by decide)) (by decide)) (by decide)) (by decide)) (by decide)))) | (rw [if_neg (by omega)] at hQ; exact hQ _ ((TR_enter (h := h) hT hb rfl s.2.2).1 rfl) ((Fr.up (Fr.up (Fr.up (Fr.up (Fr.up Fr.rf (by decide)) (by decide)) (by decide)) (by decide)) (by decide))))
      · skip
        refine J_aload_n 0 dX4_enter_80 rfl ?_
        refine J_aload_n 0 dX4_enter_81 rfl ?_
        refine J_getI 6 lkF_X4_28 rfl rfl rfl dX4_enter_82 ?_
        try simp (config := {decide := true}) only [up_s, up_k, up_i]
        refine J_putI 8 lkF_X4_39 rfl fp_4_8 rfl dX4_enter_85 ?_
        refine JM_vret rfl dX4_enter_88 ?_
        first | (rw [if_pos (by omega)] at hQ; exact hQ _ (by have := (TR_enter (h := h) hT hb rfl ((s.2.1.length : Int) + 1)).2; rw [hop] at this ⊢; exact this) ((Fr.up (Fr.up (Fr.up (Fr.up (Fr.up (Fr.up Fr.rf (by decide)) (by decide)) (by decide)) (by decide)) (by decide)) (by decide)))) | (rw [if_neg (by omega)] at hQ; exact hQ _ ((TR_enter (h := h) hT hb rfl s.2.2).1 rfl) ((Fr.up (Fr.up (Fr.up (Fr.up (Fr.up Fr.rf (by decide)) (by decide)) (by decide)) (by decide)) (by decide))))
    · skip
      exfalso; omega

set_option maxRecDepth 100000 in
set_option maxHeartbeats 4000000 in
theorem kX4_leave {X : Cx} {d : Nat} {ω : Om} {Q : Option MV → Om → Prop} {τ : Om} {ev : List Int} {b h p : Int} {r : List (Int × Int × Int)} {dp : Int} (hT : TR τ ω (ev, (b, h, p) :: r, dp)) (hl : r.length < 40) (hb : 0 ≤ b ∧ b < 40) (hn : b ∉ r.map (·.1)) (hQ : ∀ ω', TR τ ω' (ev, r, dp) → Fr [4, 19, 20, 21, 22] ω ω' → Q none ω') : Mc X mX4_leave d [vR 4] ω Q := by
  have hop : ω 4 6 = r.length + 1 := by have := hT.2.2.2.1; simpa using this
  have hb1 : ω 20 (ω 4 6 - 1) = b := by have := hT.2.2.2.2.1.1; rw [hop]; simpa using this
  refine Mc_of [some (vR 4)] (by decide +kernel) rfl (Nat.le_of_ble_eq_true rfl) ?_
  refine J_aload_n 0 dX4_leave_0 rfl ?_
  refine J_getI 6 lkF_X4_28 rfl rfl rfl dX4_leave_1 ?_
  refine J_if_le 50 dX4_leave_4 (by decide) (fun h4 => ?_) (fun h4 => ?_)
  · skip
    exfalso; omega
  · skip
    refine J_aload_n 0 dX4_leave_7 rfl ?_
    refine J_getI 6 lkF_X4_28 rfl rfl rfl dX4_leave_8 ?_
    refine J_bipush 40 dX4_leave_11 ⟨by decide, by decide⟩ (by decide) ?_
    refine J_icmp_gt 50 dX4_leave_13 (by decide) (fun h13 => ?_) (fun h13 => ?_)
    · skip
      exfalso; omega
    · skip
      refine J_aload_n 0 dX4_leave_16 rfl ?_
      first | refine J_dupR dX4_leave_17 ?_ | refine J_dupI dX4_leave_17 ?_
      refine J_getI 6 lkF_X4_28 rfl rfl rfl dX4_leave_18 ?_
      refine J_iconst 1 dX4_leave_21 ⟨by decide, by decide⟩ ?_
      refine J_isub dX4_leave_22 ⟨by omega, by omega⟩ ?_
      refine J_putI 6 lkF_X4_28 rfl fp_4_6 rfl dX4_leave_23 ?_
      refine J_aload_n 0 dX4_leave_26 rfl ?_
      first | refine J_dupR dX4_leave_27 ?_ | refine J_dupI dX4_leave_27 ?_
      refine J_getL 5 lkF_X4_32 rfl rfl dX4_leave_28 ?_
      try simp (config := {decide := true}) only [up_s, up_k, up_i]
      refine J_lconst1 dX4_leave_31 ?_
      refine J_aload_n 0 dX4_leave_32 rfl ?_
      refine J_getR lkF_X4_15 rfl dX4_leave_33 ?_
      refine J_aload_n 0 dX4_leave_36 rfl ?_
      refine J_getI 6 lkF_X4_28 rfl rfl rfl dX4_leave_37 ?_
      try simp (config := {decide := true}) only [up_s, up_k, up_i]
      refine J_iaload _ rfl rfl (by omega) dX4_leave_40 ?_
      try simp (config := {decide := true}) only [up_s, up_k, up_i]
      rw [hb1]
      refine J_lshl dX4_leave_41 ?_
      refine J_ldc2z (v := (-1)) (-1) (gm 592 (by decide +kernel) rfl) (by decide) dX4_leave_42 ?_
      refine J_lxor dX4_leave_45 ?_
      refine J_land dX4_leave_46 ?_
      refine J_putL 5 lkF_X4_32 rfl fp_4_5 rfl rfl dX4_leave_47 ?_
      refine JM_vret rfl dX4_leave_50 ?_
      exact hQ _ (TR_leave hT hb hn) ((Fr.up (Fr.up Fr.rf (by decide)) (by decide)))

set_option maxRecDepth 100000 in
set_option maxHeartbeats 4000000 in
theorem kX4_meet {X : Cx} {d : Nat} {ω : Om} {Q : Option MV → Om → Prop} {h m : Int} {τ : Om} {s : TS} (hT : TR τ ω s) (hS : TW s) (hl : s.1.length < 60) (hm : 0 ≤ m ∧ m < 100) (hB : -1 ≤ hb τ h m ∧ hb τ h m < 40) (hQ : ∀ ω', TR τ ω' (meetT τ s h m) → Fr [4, 19, 20, 21, 22] ω ω' → Q none ω') : Mc X mX4_meet (d + 1) [vR 4, vI h, vI m] ω Q := by
  refine Mc_of [some (vR 4), some (vI h), some (vI m), none] (by decide +kernel) rfl (Nat.le_of_ble_eq_true rfl) ?_
  refine J_aload_n 0 dX4_meet_0 rfl ?_
  refine J_getR lkF_X4_24 rfl dX4_meet_1 ?_
  refine J_iload_n 1 dX4_meet_4 rfl ?_
  refine J_iload_n 2 dX4_meet_5 rfl ?_
  refine JM_V2 lkM_X4_80 rcv_3 dX4_meet_6 (by decide) (Nat.le_of_ble_eq_true rfl) ?_
  refine kX5_heldBy ?_
  rw [hb_TE hT.1]
  unfold meetT at hQ
  generalize hb τ h m = b at hB hQ ⊢
  refine J_istore_3 dX4_meet_9 (by decide) rfl ?_
  refine J_iload_n 3 dX4_meet_10 rfl ?_
  refine J_iconst (-1) dX4_meet_11 ⟨by decide, by decide⟩ ?_
  refine J_icmp_ne 24 dX4_meet_12 (by decide) (fun h12 => ?_) (fun h12 => ?_)
  · skip
    rw [if_neg h12] at hQ
    have hbn : b = ((b.toNat : Nat) : Int) := by omega
    have hbit := hT.2.2.2.2.2.2.2.2 b.toNat (by omega)
    have hbit0 := bit_0 (ω 4 5) (b := b.toNat) (by omega)
    rw [← hbn] at hbit hbit0
    refine J_aload_n 0 dX4_meet_24 rfl ?_
    refine J_getL 5 lkF_X4_32 rfl rfl dX4_meet_25 ?_
    refine J_iload_n 3 dX4_meet_28 rfl ?_
    refine J_lshr dX4_meet_29 ?_
    refine J_lconst1 dX4_meet_30 ?_
    refine J_land dX4_meet_31 ?_
    refine J_lconst0 dX4_meet_32 ?_
    refine J_lcmp dX4_meet_33 ?_
    refine J_if_eq 46 dX4_meet_34 (by decide) (fun h34 => ?_) (fun h34 => ?_)
    · skip
      rw [lCmp0, hbit0, hbit] at h34
      rw [if_neg (by rw [h34]; decide)] at hQ
      have hn : b ∉ s.2.1.map (·.1) := fun q => by rw [any_has.mpr q] at h34; cases h34
      refine J_aload_n 0 dX4_meet_46 rfl ?_
      refine J_iconst 0 dX4_meet_47 ⟨by decide, by decide⟩ ?_
      refine J_iload_n 3 dX4_meet_48 rfl ?_
      refine JM_V2 lkM_X4_83 rcv_4 dX4_meet_49 (by decide) (Nat.le_of_ble_eq_true rfl) ?_
      refine kX4_note hT hl ⟨by omega, by omega⟩ ⟨by omega, by omega⟩ (fun ω1 q1 q2 => ?_)
      refine J_aload_n 0 dX4_meet_52 rfl ?_
      refine J_iload_n 3 dX4_meet_53 rfl ?_
      refine J_iload_n 1 dX4_meet_54 rfl ?_
      refine JM_V2 lkM_X4_86 rcv_4 dX4_meet_55 (by decide) (Nat.le_of_ble_eq_true rfl) ?_
      refine kX4_enter q1 (show s.2.1.length < 40 from TW_new hS (by omega) hn) (by omega) (fun ω2 q3 q4 => ?_)
      refine JM_vret rfl dX4_meet_58 ?_
      first | exact hQ _ q1 q2 | exact hQ _ q3 (q2.tr q4)
    · skip
      rw [lCmp0, hbit0, hbit, Bool.not_eq_false] at h34
      rw [if_pos h34] at hQ
      refine J_aload_n 0 dX4_meet_37 rfl ?_
      refine J_iconst 1 dX4_meet_38 ⟨by decide, by decide⟩ ?_
      refine J_iload_n 3 dX4_meet_39 rfl ?_
      refine JM_V2 lkM_X4_83 rcv_4 dX4_meet_40 (by decide) (Nat.le_of_ble_eq_true rfl) ?_
      refine kX4_note hT hl ⟨by omega, by omega⟩ ⟨by omega, by omega⟩ (fun ω1 q1 q2 => ?_)
      refine J_goto 58 dX4_meet_43 (by decide) ?_
      refine JM_vret rfl dX4_meet_58 ?_
      first | exact hQ _ q1 q2 | exact hQ _ q3 (q2.tr q4)
  · skip
    rw [if_pos h12] at hQ
    refine J_aload_n 0 dX4_meet_15 rfl ?_
    refine J_iconst 3 dX4_meet_16 ⟨by decide, by decide⟩ ?_
    refine J_iload_n 2 dX4_meet_17 rfl ?_
    refine JM_V2 lkM_X4_83 rcv_4 dX4_meet_18 (by decide) (Nat.le_of_ble_eq_true rfl) ?_
    refine kX4_note hT hl ⟨by omega, by omega⟩ ⟨by omega, by omega⟩ (fun ω1 q1 q2 => ?_)
    refine J_goto 58 dX4_meet_21 (by decide) ?_
    refine JM_vret rfl dX4_meet_58 ?_
    first | exact hQ _ q1 q2 | exact hQ _ q3 (q2.tr q4)

/-- what the tracer's cells hold behind a run -/
def RunP (τ ω : Om) (o : Option TS) : Prop := match o with
  | none => TE τ ω ∧ ω 4 7 = -1 ∧ ω 4 8 = -1
  | some s => TR τ ω s ∧ TW s
theorem TR_init {τ ω : Om} (h : TE τ ω) : TR τ (up (up (up (up (up ω 4 6 0) 4 5 0) 4 7 (-1)) 4 8 (-1)) 4 7 0) ([], [], -1) := by
  refine ⟨h.fr (K := [4]) (Fr.up (Fr.up (Fr.up (Fr.up (Fr.up Fr.rf (by decide)) (by decide)) (by decide)) (by decide)) (by decide)) rfl, ?_, trivial, ?_, trivial, trivial, trivial, ?_, ?_⟩
  · rw [up_s]; rfl
  · rw [up_i (by decide), up_i (by decide), up_i (by decide), up_i (by decide), up_s]; rfl
  · rw [up_i (by decide), up_s]
  · intro c hc
    rw [up_i (by decide), up_i (by decide), up_i (by decide), up_s, bit_zero]; rfl
theorem TW_init : TW ([], [], -1) := ⟨fun _ h => absurd h List.not_mem_nil, List.nodup_nil, ⟨by decide, by decide⟩, Nat.le_refl _, by decide⟩
set_option maxRecDepth 100000 in
set_option maxHeartbeats 4000000 in
theorem l_run {X : Cx} {d : Nat} {Q : Option MV → Om → Prop} {τ ω0 : Om} {ty m h : Int} (hW : WfT τ) : ∀ (f : Nat) (ω : Om) (s : TS) (it : Option MV), f ≤ 120 → TR τ ω s → TW s → Fr [4, 19, 20, 21, 22] ω0 ω → (∀ ω', TR τ ω' (runT τ ty f s) → TW (runT τ ty f s) → Fr [4, 19, 20, 21, 22] ω0 ω' → Q none ω') → JM X mX4_run (d + 2) Q 50 [some (vR 4), some (vI ty), some (vI m), some (vI h), some (vI (120 - f)), it] [] ω := by
  intro f
  induction f with
  | zero =>
    intro ω s it hf hT hS hF hQ
    refine J_iload 4 dX4_run_50 rfl ?_
    refine J_bipush 120 dX4_run_52 ⟨by decide, by decide⟩ (by decide) ?_
    refine J_icmp_ge 137 dX4_run_54 (by decide) (fun h54 => ?_) (fun h54 => ?_)
    · skip
      refine JM_vret rfl dX4_run_137 ?_
      exact hQ _ hT hS hF
    · skip
      exfalso; omega
  | succ f ih =>
    intro ω s it hf hT hS hF hQ
    have hop : ω 4 6 = s.2.1.length := hT.2.2.2.1
    have hsz : ω 4 7 = s.1.length := hT.2.1
    obtain ⟨ev, stk, dp⟩ := s
    simp only at hop hsz
    unfold runT at hQ
    refine J_iload 4 dX4_run_50 rfl ?_
    refine J_bipush 120 dX4_run_52 ⟨by decide, by decide⟩ (by decide) ?_
    refine J_icmp_ge 137 dX4_run_54 (by decide) (fun h54 => ?_) (fun h54 => ?_)
    · skip
      exfalso; omega
    · skip
      refine J_aload_n 0 dX4_run_57 rfl ?_
      refine J_getI 6 lkF_X4_28 rfl rfl rfl dX4_run_58 ?_
      refine J_if_le 137 dX4_run_61 (by decide) (fun h61 => ?_) (fun h61 => ?_)
      · skip
        have e0 : stk = [] := List.eq_nil_of_length_eq_zero (by omega)
        subst e0
        simp only [List.isEmpty_nil, true_or, if_true] at hQ
        refine JM_vret rfl dX4_run_137 ?_
        exact hQ _ hT hS hF
      · skip
        cases stk with
        | nil => exfalso; simp at hop; omega
        | cons x r =>
        obtain ⟨b, h1, p⟩ := x
        refine J_aload_n 0 dX4_run_64 rfl ?_
        refine J_getI 7 lkF_X4_36 rfl rfl rfl dX4_run_65 ?_
        refine J_bipush 60 dX4_run_68 ⟨by decide, by decide⟩ (by decide) ?_
        refine J_icmp_ge 137 dX4_run_70 (by decide) (fun h70 => ?_) (fun h70 => ?_)
        · skip
          rw [if_pos (Or.inr (by simp only; omega))] at hQ
          refine JM_vret rfl dX4_run_137 ?_
          exact hQ _ hT hS hF
        · skip
          have hl : ev.length < 60 := by omega
          rw [if_neg (by simp only [List.isEmpty_cons, Bool.false_eq_true, false_or]; omega)] at hQ
          have hr40 := TW_len hS
          simp only [List.length_cons] at hr40
          have htop := hS.1 (b, h1, p) List.mem_cons_self
          simp only at htop
          have hstep := TW_step (ty := ty) hW hS hl
          simp only [stepT] at hQ hstep
          refine J_aload_n 0 dX4_run_73 rfl ?_
          refine JM_V0 lkM_X4_52 rcv_4 dX4_run_74 (by decide) (Nat.le_of_ble_eq_true rfl) ?_
          refine kX4_nextItem hT (by omega) (by omega) (fun ω1 q1 q2 => ?_)
          refine J_istore_5 dX4_run_77 (by decide) rfl ?_
          refine J_iload 5 dX4_run_79 rfl ?_
          refine J_iconst (-1) dX4_run_81 ⟨by decide, by decide⟩ ?_
          refine J_icmp_ne 92 dX4_run_82 (by decide) (fun h82 => ?_) (fun h82 => ?_)
          · skip
            rw [if_neg h82] at hQ hstep
            obtain ⟨g1, g2⟩ := itA_R hW b p h82
            have hS1 := TW_bump hS g2
            refine J_iload 5 dX4_run_92 rfl ?_
            refine J_bipush 6 dX4_run_94 ⟨by decide, by decide⟩ (by decide) ?_
            refine J_icmp_lt 115 dX4_run_96 (by decide) (fun h96 => ?_) (fun h96 => ?_)
            · skip
              rw [if_neg (by omega)] at hQ hstep
              refine J_aload_n 0 dX4_run_115 rfl ?_
              refine J_aload_n 0 dX4_run_116 rfl ?_
              refine J_iload_n 1 dX4_run_117 rfl ?_
              refine J_iload 5 dX4_run_118 rfl ?_
              refine JM_V2 lkM_X4_63 rcv_4 dX4_run_120 (by decide) (Nat.le_of_ble_eq_true rfl) ?_
              refine kX4_homeFor q1 (by omega) (by omega) ?_
              refine J_iload 5 dX4_run_123 rfl ?_
              refine J_bipush 20 dX4_run_125 ⟨by decide, by decide⟩ (by decide) ?_
              refine J_irem dX4_run_127 (by omega) (by omega) ?_
              refine JM_V2 lkM_X4_48 rcv_4 dX4_run_128 (by decide) (Nat.le_of_ble_eq_true rfl) ?_
              refine kX4_meet q1 hS1 hl (by omega) (hb_R hW _ (by omega)) (fun ω2 q3 q4 => ?_)
              refine J_iinc_4 dX4_run_131 (by decide) ⟨by omega, by omega⟩ rfl ?_
              refine J_goto 50 dX4_run_134 (by decide) ?_
              have e : (120 - ((f + 1 : Nat) : Int)) + 1 = 120 - (f : Int) := by omega
              rw [e]
              exact ih _ _ _ (by omega) q3 hstep (hF.tr (q2.tr q4)) hQ
            · skip
              refine J_iload 5 dX4_run_99 rfl ?_
              refine J_bipush 12 dX4_run_101 ⟨by decide, by decide⟩ (by decide) ?_
              refine J_icmp_ge 115 dX4_run_103 (by decide) (fun h103 => ?_) (fun h103 => ?_)
              · skip
                rw [if_neg (by omega)] at hQ hstep
                refine J_aload_n 0 dX4_run_115 rfl ?_
                refine J_aload_n 0 dX4_run_116 rfl ?_
                refine J_iload_n 1 dX4_run_117 rfl ?_
                refine J_iload 5 dX4_run_118 rfl ?_
                refine JM_V2 lkM_X4_63 rcv_4 dX4_run_120 (by decide) (Nat.le_of_ble_eq_true rfl) ?_
                refine kX4_homeFor q1 (by omega) (by omega) ?_
                refine J_iload 5 dX4_run_123 rfl ?_
                refine J_bipush 20 dX4_run_125 ⟨by decide, by decide⟩ (by decide) ?_
                refine J_irem dX4_run_127 (by omega) (by omega) ?_
                refine JM_V2 lkM_X4_48 rcv_4 dX4_run_128 (by decide) (Nat.le_of_ble_eq_true rfl) ?_
                refine kX4_meet q1 hS1 hl (by omega) (hb_R hW _ (by omega)) (fun ω2 q3 q4 => ?_)
                refine J_iinc_4 dX4_run_131 (by decide) ⟨by omega, by omega⟩ rfl ?_
                refine J_goto 50 dX4_run_134 (by decide) ?_
                have e : (120 - ((f + 1 : Nat) : Int)) + 1 = 120 - (f : Int) := by omega
                rw [e]
                exact ih _ _ _ (by omega) q3 hstep (hF.tr (q2.tr q4)) hQ
              · skip
                rw [if_pos (by omega)] at hQ hstep
                refine J_aload_n 0 dX4_run_106 rfl ?_
                refine J_iload 5 dX4_run_107 rfl ?_
                refine JM_V1 lkM_X4_59 rcv_4 dX4_run_109 (by decide) (Nat.le_of_ble_eq_true rfl) ?_
                refine kX4_use q1 (by omega) hl (by omega) (by have := hb_RF hW (nrS τ h1 (itA τ b p)) (m := itA τ b p) (by omega); omega) (fun ω2 q3 q4 => ?_)
                refine J_goto 131 dX4_run_112 (by decide) ?_
                refine J_iinc_4 dX4_run_131 (by decide) ⟨by omega, by omega⟩ rfl ?_
                refine J_goto 50 dX4_run_134 (by decide) ?_
                have e : (120 - ((f + 1 : Nat) : Int)) + 1 = 120 - (f : Int) := by omega
                rw [e]
                exact ih _ _ _ (by omega) q3 hstep (hF.tr (q2.tr q4)) hQ
          · skip
            rw [if_pos h82] at hQ hstep
            refine J_aload_n 0 dX4_run_85 rfl ?_
            refine JM_V0 lkM_X4_56 rcv_4 dX4_run_86 (by decide) (Nat.le_of_ble_eq_true rfl) ?_
            refine kX4_leave q1 (by omega) (by omega) (TW_pop hS).2 (fun ω2 q3 q4 => ?_)
            refine J_goto 131 dX4_run_89 (by decide) ?_
            refine J_iinc_4 dX4_run_131 (by decide) ⟨by omega, by omega⟩ rfl ?_
            refine J_goto 50 dX4_run_134 (by decide) ?_
            have e : (120 - ((f + 1 : Nat) : Int)) + 1 = 120 - (f : Int) := by omega
            rw [e]
            exact ih _ _ _ (by omega) q3 hstep (hF.tr (q2.tr q4)) hQ

set_option maxRecDepth 100000 in
set_option maxHeartbeats 4000000 in
theorem kX4_run {X : Cx} {d : Nat} {ω : Om} {Q : Option MV → Om → Prop} {ty m : Int} {τ : Om} (hW : WfT τ) (hE : TE τ ω) (hm : 0 ≤ m ∧ m < 6) (hQ : ∀ ω', RunP τ ω' (trT τ ty m) → Fr [4, 19, 20, 21, 22] ω ω' → Q none ω') : Mc X mX4_run (d + 2) [vR 4, vI ty, vI m] ω Q := by
  refine Mc_of [some (vR 4), some (vI ty), some (vI m), none, none, none] (by decide +kernel) rfl (Nat.le_of_ble_eq_true rfl) ?_
  refine J_aload_n 0 dX4_run_0 rfl ?_
  refine J_iconst 0 dX4_run_1 ⟨by decide, by decide⟩ ?_
  refine J_putI 6 lkF_X4_28 rfl fp_4_6 rfl dX4_run_2 ?_
  refine J_aload_n 0 dX4_run_5 rfl ?_
  refine J_lconst0 dX4_run_6 ?_
  refine J_putL 5 lkF_X4_32 rfl fp_4_5 rfl rfl dX4_run_7 ?_
  refine J_aload_n 0 dX4_run_10 rfl ?_
  refine J_iconst (-1) dX4_run_11 ⟨by decide, by decide⟩ ?_
  refine J_putI 7 lkF_X4_36 rfl fp_4_7 rfl dX4_run_12 ?_
  refine J_aload_n 0 dX4_run_15 rfl ?_
  refine J_iconst (-1) dX4_run_16 ⟨by decide, by decide⟩ ?_
  refine J_putI 8 lkF_X4_39 rfl fp_4_8 rfl dX4_run_17 ?_
  refine J_aload_n 0 dX4_run_20 rfl ?_
  refine J_getR lkF_X4_24 rfl dX4_run_21 ?_
  refine J_iload_n 1 dX4_run_24 rfl ?_
  refine J_iload_n 2 dX4_run_25 rfl ?_
  refine JM_V2 lkM_X4_42 rcv_3 dX4_run_26 (by decide) (Nat.le_of_ble_eq_true rfl) ?_
  refine kX5_nearest ?_
  rw [nrS_TE (hE.fr (K := [4]) ((Fr.up (Fr.up (Fr.up (Fr.up Fr.rf (by decide)) (by decide)) (by decide)) (by decide))) rfl)]
  unfold trT at hQ
  refine J_istore_3 dX4_run_29 (by decide) rfl ?_
  refine J_iload_n 3 dX4_run_30 rfl ?_
  refine J_iconst (-1) dX4_run_31 ⟨by decide, by decide⟩ ?_
  refine J_icmp_ne 36 dX4_run_32 (by decide) (fun h32 => ?_) (fun h32 => ?_)
  · skip
    rw [if_neg h32] at hQ
    refine J_aload_n 0 dX4_run_36 rfl ?_
    refine J_iconst 0 dX4_run_37 ⟨by decide, by decide⟩ ?_
    refine J_putI 7 lkF_X4_36 rfl fp_4_7 rfl dX4_run_38 ?_
    refine J_aload_n 0 dX4_run_41 rfl ?_
    refine J_iload_n 3 dX4_run_42 rfl ?_
    refine J_iload_n 2 dX4_run_43 rfl ?_
    refine JM_V2 lkM_X4_48 rcv_4 dX4_run_44 (by decide) (Nat.le_of_ble_eq_true rfl) ?_
    refine kX4_meet (TR_init hE) TW_init (by decide) (by omega) (hb_R hW _ (by omega)) (fun ω1 q1 q2 => ?_)
    refine J_iconst 0 dX4_run_47 ⟨by decide, by decide⟩ ?_
    refine J_istore_4 dX4_run_48 (by decide) rfl ?_
    exact l_run hW 120 ω1 _ none (by omega) q1 (TW_meet TW_init (by decide) (hb_R hW _ (by omega))) (Fr.tr ((Fr.up (Fr.up (Fr.up (Fr.up (Fr.up Fr.rf (by decide)) (by decide)) (by decide)) (by decide)) (by decide))) q2) (fun ω2 a1 a2 a3 => hQ ω2 ⟨a1, a2⟩ a3)
  · skip
    rw [if_pos h32] at hQ
    refine JM_vret rfl dX4_run_35 ?_
    exact hQ _ ⟨hE.fr (K := [4]) ((Fr.up (Fr.up (Fr.up (Fr.up Fr.rf (by decide)) (by decide)) (by decide)) (by decide))) rfl, by rw [up_i (by decide), up_s], by rw [up_s]⟩ ((Fr.up (Fr.up (Fr.up (Fr.up Fr.rf (by decide)) (by decide)) (by decide)) (by decide)))
