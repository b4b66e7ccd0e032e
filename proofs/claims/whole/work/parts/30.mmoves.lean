/-! the model's moves -/
theorem vwu (ω : Om) (j x c z : Int) : vw 1 (up (up ω 33 (96 * 1 + j) x) 34 (8 * 1 + c) z) = up (up (vw 1 ω) 14 j x) 15 c z := by
  funext k i
  by_cases h14 : k = 14
  · subst h14
    by_cases e : i = j
    · subst e; rw [vw14, up_k (by decide), up_s, up_k (by decide), up_s]
    · rw [vw14, up_k (by decide), up_i (by omega), up_k (by decide), up_i e]; rfl
  · by_cases h15 : k = 15
    · subst h15
      by_cases e : i = c
      · subst e; rw [vw15, up_s, up_s]
      · rw [vw15, up_i (by omega), up_k (by decide), up_i e, up_k (by decide)]; rfl
    · rw [up_k h15, up_k h14]
      unfold vw
      simp [h14, h15, up]
/-- a try has been laid on the other side -/
def TyI (ω ω' : Om) : Prop := Fr [33, 34] ω ω' ∧ (∀ i, i < 96 → ω' 33 i = ω 33 i) ∧ (∀ i, i < 8 → ω' 34 i = ω 34 i)
theorem TyI.rf (ω : Om) : TyI ω ω := ⟨Fr.rf, fun _ _ => rfl, fun _ _ => rfl⟩
theorem TyI.tr {a b c : Om} (h : TyI a b) (g : TyI b c) : TyI a c := ⟨h.1.tr g.1, fun i q => (g.2.1 i q).trans (h.2.1 i q), fun i q => (g.2.2 i q).trans (h.2.2 i q)⟩
theorem TyI.u {a b : Om} (h : TyI a b) {j x c z : Int} (hj : 0 ≤ j) (hc : 0 ≤ c) : TyI a (up (up b 33 (96 * 1 + j) x) 34 (8 * 1 + c) z) :=
  ⟨(h.1.up (by decide)).up (by decide), fun i q => by rw [up_k (by decide), up_i (by omega)]; exact h.2.1 i q, fun i q => by rw [up_i (by omega), up_k (by decide)]; exact h.2.2 i q⟩
def Tr0 (ω ω' : Om) : Prop := TyI ω ω' ∧ (∀ i, 0 ≤ i → i < 96 → ω' 33 (96 + i) = ω 33 i) ∧ (∀ i, 0 ≤ i → i < 8 → ω' 34 (8 + i) = ω 34 i)
set_option maxRecDepth 100000 in
set_option maxHeartbeats 4000000 in
theorem l_ly2 {X : Cx} {d : Nat} {Q : Option MV → Om → Prop} {ω0 ω1 : Om} (h0 : TyI ω0 ω1) (h1 : ∀ i, 0 ≤ i → i < 96 → ω1 33 (96 + i) = ω0 33 i) : ∀ (n k : Nat) (ω : Om), k + n = 8 → Fr [34] ω1 ω → (∀ i : Int, 0 ≤ i → i < k → ω 34 (8 + i) = ω0 34 i) → (∀ i, i < 8 → ω 34 i = ω0 34 i) → (∀ ω', Tr0 ω0 ω' → Q none ω') → JM X mX7_layTried d Q 31 [some (vR 29), some (vI k)] [] ω := by
  intro n
  induction n with
  | zero =>
    intro k ω hk hF ha hb hQ
    refine J_iload_n 1 dX7_layTried_31 rfl ?_
    refine J_bipush 8 dX7_layTried_32 ⟨by decide, by decide⟩ (by decide) ?_
    refine J_icmp_ge 58 dX7_layTried_34 (by decide) (fun h34 => ?_) (fun h34 => ?_)
    · skip
      refine JM_vret rfl dX7_layTried_58 ?_
      have e33 : ω 33 = ω1 33 := hF 33 (by decide)
      exact hQ ω ⟨⟨h0.1.tr (hF.mono (by decide)), fun i q => by rw [e33]; exact h0.2.1 i q, hb⟩, fun i q r => by rw [e33]; exact h1 i q r, fun i q r => ha i q (by omega)⟩
    · skip
      exfalso; omega
  | succ n ih =>
    intro k ω hk hF ha hb hQ
    refine J_iload_n 1 dX7_layTried_31 rfl ?_
    refine J_bipush 8 dX7_layTried_32 ⟨by decide, by decide⟩ (by decide) ?_
    refine J_icmp_ge 58 dX7_layTried_34 (by decide) (fun h34 => ?_) (fun h34 => ?_)
    · skip
      exfalso; omega
    · skip
      refine J_aload_n 0 dX7_layTried_37 rfl ?_
      refine J_getR lkF_X7_23 rfl dX7_layTried_38 ?_
      refine J_bipush 8 dX7_layTried_41 ⟨by decide, by decide⟩ (by decide) ?_
      refine J_iload_n 1 dX7_layTried_43 rfl ?_
      refine J_iadd dX7_layTried_44 ⟨by omega, by omega⟩ ?_
      refine J_aload_n 0 dX7_layTried_45 rfl ?_
      refine J_getR lkF_X7_23 rfl dX7_layTried_46 ?_
      refine J_iload_n 1 dX7_layTried_49 rfl ?_
      refine J_iaload _ rfl rfl (by omega) dX7_layTried_50 ?_
      refine J_iastore _ rfl (by omega) dX7_layTried_51 ?_
      refine J_iinc_1 dX7_layTried_52 (by decide) ⟨by omega, by omega⟩ rfl ?_
      refine J_goto 31 dX7_layTried_55 (by decide) ?_
      refine ih (k + 1) _ (by omega) (hF.up (by decide)) (fun i i0 i1 => ?_) (fun i i1 => by rw [up_i (by omega)]; exact hb i i1) hQ
      by_cases e : i = (k : Int)
      · subst e; rw [up_s]; exact hb _ (by omega)
      · rw [up_i (by omega)]; exact ha i i0 (by omega)

set_option maxRecDepth 100000 in
set_option maxHeartbeats 4000000 in
theorem l_ly1 {X : Cx} {d : Nat} {Q : Option MV → Om → Prop} {ω0 : Om} : ∀ (n k : Nat) (ω : Om), k + n = 96 → Fr [33] ω0 ω → (∀ i : Int, 0 ≤ i → i < k → ω 33 (96 + i) = ω0 33 i) → (∀ i, i < 96 → ω 33 i = ω0 33 i) → (∀ ω', Tr0 ω0 ω' → Q none ω') → JM X mX7_layTried d Q 2 [some (vR 29), some (vI k)] [] ω := by
  intro n
  induction n with
  | zero =>
    intro k ω hk hF ha hb hQ
    refine J_iload_n 1 dX7_layTried_2 rfl ?_
    refine J_bipush 96 dX7_layTried_3 ⟨by decide, by decide⟩ (by decide) ?_
    refine J_icmp_ge 29 dX7_layTried_5 (by decide) (fun h5 => ?_) (fun h5 => ?_)
    · skip
      refine J_iconst 0 dX7_layTried_29 ⟨by decide, by decide⟩ ?_
      refine J_istore_1 dX7_layTried_30 (by decide) rfl ?_
      have e34 : ω 34 = ω0 34 := hF 34 (by decide)
      exact l_ly2 (ω0 := ω0) ⟨hF.mono (by decide), hb, fun i _ => by rw [e34]⟩ (fun i q r => ha i q (by omega)) 8 0 ω (by omega) Fr.rf (fun i q r => by omega) (fun i _ => by rw [e34]) hQ
    · skip
      exfalso; omega
  | succ n ih =>
    intro k ω hk hF ha hb hQ
    refine J_iload_n 1 dX7_layTried_2 rfl ?_
    refine J_bipush 96 dX7_layTried_3 ⟨by decide, by decide⟩ (by decide) ?_
    refine J_icmp_ge 29 dX7_layTried_5 (by decide) (fun h5 => ?_) (fun h5 => ?_)
    · skip
      exfalso; omega
    · skip
      refine J_aload_n 0 dX7_layTried_8 rfl ?_
      refine J_getR lkF_X7_20 rfl dX7_layTried_9 ?_
      refine J_bipush 96 dX7_layTried_12 ⟨by decide, by decide⟩ (by decide) ?_
      refine J_iload_n 1 dX7_layTried_14 rfl ?_
      refine J_iadd dX7_layTried_15 ⟨by omega, by omega⟩ ?_
      refine J_aload_n 0 dX7_layTried_16 rfl ?_
      refine J_getR lkF_X7_20 rfl dX7_layTried_17 ?_
      refine J_iload_n 1 dX7_layTried_20 rfl ?_
      refine J_iaload _ rfl rfl (by omega) dX7_layTried_21 ?_
      refine J_iastore _ rfl (by omega) dX7_layTried_22 ?_
      refine J_iinc_1 dX7_layTried_23 (by decide) ⟨by omega, by omega⟩ rfl ?_
      refine J_goto 2 dX7_layTried_26 (by decide) ?_
      refine ih (k + 1) _ (by omega) (hF.up (by decide)) (fun i i0 i1 => ?_) (fun i i1 => by rw [up_i (by omega)]; exact hb i i1) hQ
      by_cases e : i = (k : Int)
      · subst e; rw [up_s]; exact hb _ (by omega)
      · rw [up_i (by omega)]; exact ha i i0 (by omega)

set_option maxRecDepth 100000 in
set_option maxHeartbeats 4000000 in
theorem kX7_layTried {X : Cx} {d : Nat} {ω : Om} {Q : Option MV → Om → Prop} (hQ : ∀ ω', Tr0 ω ω' → Q none ω') : Mc X mX7_layTried d [vR 29] ω Q := by
  refine Mc_of [some (vR 29), none] (by decide +kernel) rfl (Nat.le_of_ble_eq_true rfl) ?_
  refine J_iconst 0 dX7_layTried_0 ⟨by decide, by decide⟩ ?_
  refine J_istore_1 dX7_layTried_1 (by decide) rfl ?_
  exact l_ly1 96 0 ω (by omega) Fr.rf (fun i q r => by omega) (fun i _ => rfl) hQ

theorem zset_or {x m : Int} (hx : 0 ≤ x ∧ x < 64) (hm : 0 ≤ m ∧ m < 6) : zOr (zAnd x (zXor (zShl 1 m) (-1))) (zShl 1 m) = zset x m 1 := by
  have := (zset_tab ⟨x.toNat, by omega⟩ ⟨m.toNat, by omega⟩).2.2.2.2
  simp only [show ((x.toNat : Nat) : Int) = x from by omega, show ((m.toNat : Nat) : Int) = m from by omega] at this
  have q := this (by omega)
  unfold zset at q ⊢
  rw [if_pos rfl] at q
  exact q
set_option maxRecDepth 100000 in
set_option maxHeartbeats 4000000 in
theorem kX7_lay {X : Cx} {d : Nat} {ω : Om} {Q : Option MV → Om → Prop} {t m v h : Int} (ht : 0 ≤ t ∧ t < 8) (hm : 0 ≤ m ∧ m < 12) (hx : 0 ≤ ω 34 (8 * 1 + t) ∧ ω 34 (8 * 1 + t) < 64) (hh : h = 0 ∨ (h = 1 ∧ m < 6 ∧ ¬ v = -1)) (hQ : Q none (up (up ω 33 (96 * 1 + (t * 12 + m)) v) 34 (8 * 1 + t) (zset (ω 34 (8 * 1 + t)) m h))) : Mc X mX7_lay d [vR 29, vI 1, vI t, vI m, vI v, vI h] ω Q := by
  refine Mc_of [some (vR 29), some (vI 1), some (vI t), some (vI m), some (vI v), some (vI h), none] (by decide +kernel) rfl (Nat.le_of_ble_eq_true rfl) ?_
  refine J_aload_n 0 dX7_lay_0 rfl ?_
  refine J_getR lkF_X7_20 rfl dX7_lay_1 ?_
  refine J_bipush 96 dX7_lay_4 ⟨by decide, by decide⟩ (by decide) ?_
  refine J_iload_n 1 dX7_lay_6 rfl ?_
  refine J_imul dX7_lay_7 ⟨by omega, by omega⟩ ?_
  refine J_bipush 12 dX7_lay_8 ⟨by decide, by decide⟩ (by decide) ?_
  refine J_iload_n 2 dX7_lay_10 rfl ?_
  refine J_imul dX7_lay_11 ⟨by omega, by omega⟩ ?_
  refine J_iadd dX7_lay_12 ⟨by omega, by omega⟩ ?_
  refine J_iload_n 3 dX7_lay_13 rfl ?_
  refine J_iadd dX7_lay_14 ⟨by omega, by omega⟩ ?_
  refine J_iload 4 dX7_lay_15 rfl ?_
  refine J_iastore _ rfl (by omega) dX7_lay_17 ?_
  rw [show (96 : Int) * 1 + 12 * t + m = 96 * 1 + (t * 12 + m) from by omega]
  refine J_aload_n 0 dX7_lay_18 rfl ?_
  refine J_getR lkF_X7_23 rfl dX7_lay_19 ?_
  refine J_bipush 8 dX7_lay_22 ⟨by decide, by decide⟩ (by decide) ?_
  refine J_iload_n 1 dX7_lay_24 rfl ?_
  refine J_imul dX7_lay_25 ⟨by omega, by omega⟩ ?_
  refine J_iload_n 2 dX7_lay_26 rfl ?_
  refine J_iadd dX7_lay_27 ⟨by omega, by omega⟩ ?_
  refine J_iaload _ rfl rfl (by omega) dX7_lay_28 ?_
  try simp (config := {decide := true}) only [up_s, up_k, up_i]
  refine J_iconst 1 dX7_lay_29 ⟨by decide, by decide⟩ ?_
  refine J_iload_n 3 dX7_lay_30 rfl ?_
  refine J_ishl dX7_lay_31 ?_
  refine J_iconst (-1) dX7_lay_32 ⟨by decide, by decide⟩ ?_
  refine J_ixor dX7_lay_33 ?_
  refine J_iand dX7_lay_34 ?_
  refine J_istore_6 dX7_lay_35 (by decide) rfl ?_
  refine J_aload_n 0 dX7_lay_37 rfl ?_
  refine J_getR lkF_X7_23 rfl dX7_lay_38 ?_
  refine J_bipush 8 dX7_lay_41 ⟨by decide, by decide⟩ (by decide) ?_
  refine J_iload_n 1 dX7_lay_43 rfl ?_
  refine J_imul dX7_lay_44 ⟨by omega, by omega⟩ ?_
  refine J_iload_n 2 dX7_lay_45 rfl ?_
  refine J_iadd dX7_lay_46 ⟨by omega, by omega⟩ ?_
  refine J_iload 4 dX7_lay_47 rfl ?_
  refine J_iconst (-1) dX7_lay_49 ⟨by decide, by decide⟩ ?_
  refine J_icmp_eq 67 dX7_lay_50 (by decide) (fun h50 => ?_) (fun h50 => ?_)
  · skip
    refine J_iload 6 dX7_lay_67 rfl ?_
    refine J_iastore _ rfl (by omega) dX7_lay_69 ?_
    refine JM_vret rfl dX7_lay_70 ?_
    first | (obtain rfl : h = 1 := (by omega); rw [zset_or hx (by omega)]; exact hQ) | (obtain rfl : h = 0 := (by omega); unfold zset at hQ; rw [if_pos rfl] at hQ; exact hQ)
  · skip
    refine J_iload 5 dX7_lay_53 rfl ?_
    refine J_if_eq 67 dX7_lay_55 (by decide) (fun h55 => ?_) (fun h55 => ?_)
    · skip
      refine J_iload 6 dX7_lay_67 rfl ?_
      refine J_iastore _ rfl (by omega) dX7_lay_69 ?_
      refine JM_vret rfl dX7_lay_70 ?_
      first | (obtain rfl : h = 1 := (by omega); rw [zset_or hx (by omega)]; exact hQ) | (obtain rfl : h = 0 := (by omega); unfold zset at hQ; rw [if_pos rfl] at hQ; exact hQ)
    · skip
      refine J_iload 6 dX7_lay_58 rfl ?_
      refine J_iconst 1 dX7_lay_60 ⟨by decide, by decide⟩ ?_
      refine J_iload_n 3 dX7_lay_61 rfl ?_
      refine J_ishl dX7_lay_62 ?_
      refine J_ior dX7_lay_63 ?_
      refine J_goto 69 dX7_lay_64 (by decide) ?_
      refine J_iastore _ rfl (by omega) dX7_lay_69 ?_
      refine JM_vret rfl dX7_lay_70 ?_
      first | (obtain rfl : h = 1 := (by omega); rw [zset_or hx (by omega)]; exact hQ) | (obtain rfl : h = 0 := (by omega); unfold zset at hQ; rw [if_pos rfl] at hQ; exact hQ)

/-- what the model reads of its first side is what the other one had behind layTried -/
theorem rd_try {ω1 ω : Om} (hW : WfT (vw 1 ω1)) (h14 : ∀ i, 0 ≤ i → i < 96 → ω1 33 (96 + i) = ω1 33 i) (h15 : ∀ i, 0 ≤ i → i < 8 → ω1 34 (8 + i) = ω1 34 i) (hI : TyI ω1 ω) {c m : Int} (hc : 0 ≤ c ∧ c < ω1 29 2) (hm : 0 ≤ m ∧ m < 12) :
    ω 31 c = pr (vw 1 ω1) c ∧ ω 33 (12 * c + m) = hb (vw 1 ω1) c m ∧ zb (ω 34 c) m = hds (vw 1 ω1) c m := by
  have n8 := n8_vw hW
  have hc' : 0 ≤ c ∧ c < vw 1 ω1 3 7 := hc
  refine ⟨?_, ?_, ?_⟩
  · rw [pr_in hW hc', vw12, hI.1 31 (by decide)]
  · rw [hb_in hW hc' hm, vw14, hI.2.1 _ (by omega), ← h14 _ (by omega) (by omega), show (96 : Int) * 1 + (c * 12 + m) = 96 + (12 * c + m) from by omega]
  · rw [hds_zb hW hc', vw15, hI.2.2 _ (by omega), ← h15 _ (by omega) (by omega), show (8 : Int) * 1 + c = 8 + c from by omega]
theorem PP_lay {ω1 ω : Om} {m c x y : Int} {S S' : Int → Bool} {v b : Int → Int} (h : PP (vw 1 ω1) (vw 1 ω) m S v b) (hm : 0 ≤ m ∧ m < 12) (hc : 0 ≤ c ∧ c < 8) (hn : S c = false) (hx : x = v c) (hy : y = b c) (hS : ∀ j, 0 ≤ j → j < 8 → (S' j = true ↔ (S j = true ∨ j = c))) : PP (vw 1 ω1) (vw 1 (up (up ω 33 (96 * 1 + (c * 12 + m)) x) 34 (8 * 1 + c) (zset (ω 34 (8 * 1 + c)) m y))) m S' v b := by
  rw [vwu]
  exact PP_put h hm hc hn hx hy hS
theorem PP_15 {ω1 ω : Om} {m c : Int} {S : Int → Bool} {v b : Int → Int} (hW : WfT (vw 1 ω1)) (h : PP (vw 1 ω1) (vw 1 ω) m S v b) (hc : 0 ≤ c ∧ c < ω1 29 2) (hn : S c = false) : 0 ≤ ω 34 (8 * 1 + c) ∧ ω 34 (8 * 1 + c) < 64 := by
  have n8 := n8_vw hW
  have := h.2.2 c hc.1 (by omega)
  rw [hn, if_neg (by decide), vw15] at this
  rw [this]
  exact hW.2.2.2.2.2.1 c hc.1 hc.2
set_option maxRecDepth 100000 in
set_option maxHeartbeats 4000000 in
theorem l_tyU {X : Cx} {d : Nat} {Q : Option MV → Om → Prop} {ω1 : Om} {t p m u v h : Int} (hW : WfT (vw 1 ω1)) (h14 : ∀ i, 0 ≤ i → i < 96 → ω1 33 (96 + i) = ω1 33 i) (h15 : ∀ i, 0 ≤ i → i < 8 → ω1 34 (8 + i) = ω1 34 i) (hm : 0 ≤ m ∧ m < 12) (ht : 0 ≤ t ∧ t < ω1 29 2) (hu : ¬ u = 0) (hp : 0 ≤ p ∧ p < ω1 29 2) (hpp : ¬ pr (vw 1 ω1) p = p) (hh : h = 0 ∨ (h = 1 ∧ m < 6 ∧ ¬ v = -1)) : ∀ (n c : Nat) (ω : Om) (x : Option MV), c + n = (ω1 29 2).toNat → PP (vw 1 ω1) (vw 1 ω) m (fun j => decide (j < c ∧ (pr (vw 1 ω1) j = p ∧ hb (vw 1 ω1) j m = v ∧ hds (vw 1 ω1) j m = h))) (fun j => if j = p then v else -1) (fun j => if j = p then h else 0) → TyI ω1 ω → (∀ ω', PP (vw 1 ω1) (vw 1 ω') m (fun j => decide ((j < ω1 29 2 ∧ (pr (vw 1 ω1) j = p ∧ hb (vw 1 ω1) j m = v ∧ hds (vw 1 ω1) j m = h)) ∨ j = p)) (fun j => if j = p then v else -1) (fun j => if j = p then h else 0) → TyI ω1 ω' → Q none ω') → JM X mX7_tryMove (d + 1) Q 40 [some (vR 29), some (vI t), some (vI m), some (vI u), some (vI v), some (vI h), some (vI p), some (vI c), x] [] ω := by
  have n8 := n8_vw hW
  intro n
  induction n with
  | zero =>
    intro c ω x hc hS hI hQ
    have e2 : ω 29 2 = ω1 29 2 := by rw [hI.1 29 (by decide)]
    refine J_iload 7 dX7_tryMove_40 rfl ?_
    refine J_aload_n 0 dX7_tryMove_42 rfl ?_
    refine J_getI 2 lkF_X7_112 rfl rfl rfl dX7_tryMove_43 ?_
    refine J_icmp_ge 169 dX7_tryMove_46 (by decide) (fun h46 => ?_) (fun h46 => ?_)
    · skip
      refine J_iload_n 3 dX7_tryMove_169 rfl ?_
      refine J_if_eq 188 dX7_tryMove_170 (by decide) (fun h170 => ?_) (fun h170 => ?_)
      · skip
        exfalso; omega
      · skip
        refine J_aload_n 0 dX7_tryMove_173 rfl ?_
        refine J_iconst 1 dX7_tryMove_174 ⟨by decide, by decide⟩ ?_
        refine J_iload 6 dX7_tryMove_175 rfl ?_
        refine J_iload_n 2 dX7_tryMove_177 rfl ?_
        refine J_iload 4 dX7_tryMove_178 rfl ?_
        refine J_iload 5 dX7_tryMove_180 rfl ?_
        refine JM_V5 lkM_X7_220 rcv_29 dX7_tryMove_182 (by decide) (Nat.le_of_ble_eq_true rfl) ?_
        have hn0 : (fun j : Int => decide (j < c ∧ (pr (vw 1 ω1) j = p ∧ hb (vw 1 ω1) j m = v ∧ hds (vw 1 ω1) j m = h))) p = false := by simp only [decide_eq_false_iff_not]; exact fun q => hpp q.2.1
        refine kX7_lay (by omega) hm (PP_15 hW hS (by omega) hn0) hh ?_
        refine J_goto 197 dX7_tryMove_185 (by decide) ?_
        refine JM_vret rfl dX7_tryMove_197 ?_
        refine hQ _ (PP_lay hS hm (by omega) hn0 (by rw [if_pos rfl]) (by rw [if_pos rfl]) (fun j j0 j1 => ?_)) (hI.u (by omega) (by omega))
        simp only [decide_eq_true_eq]
        have : (j < (c : Int)) ↔ j < ω1 29 2 := by omega
        rw [this]
    · skip
      exfalso; omega
  | succ n ih =>
    intro c ω x hc hS hI hQ
    have e2 : ω 29 2 = ω1 29 2 := by rw [hI.1 29 (by decide)]
    obtain ⟨rp, rm, rz⟩ := rd_try hW h14 h15 hI (c := (c : Int)) (m := m) (by omega) hm
    have hSc : (fun j : Int => decide (j < c ∧ (pr (vw 1 ω1) j = p ∧ hb (vw 1 ω1) j m = v ∧ hds (vw 1 ω1) j m = h))) (c : Int) = false := by simp only [decide_eq_false_iff_not]; omega
    refine J_iload 7 dX7_tryMove_40 rfl ?_
    refine J_aload_n 0 dX7_tryMove_42 rfl ?_
    refine J_getI 2 lkF_X7_112 rfl rfl rfl dX7_tryMove_43 ?_
    refine J_icmp_ge 169 dX7_tryMove_46 (by decide) (fun h46 => ?_) (fun h46 => ?_)
    · skip
      exfalso; omega
    · skip
      refine J_iload_n 3 dX7_tryMove_49 rfl ?_
      refine J_if_eq 69 dX7_tryMove_50 (by decide) (fun h50 => ?_) (fun h50 => ?_)
      · skip
        exfalso; omega
      · skip
        refine J_aload_n 0 dX7_tryMove_53 rfl ?_
        refine J_getR lkF_X7_13 rfl dX7_tryMove_54 ?_
        refine J_iload 7 dX7_tryMove_57 rfl ?_
        refine J_iaload _ rfl rfl (by omega) dX7_tryMove_59 ?_
        refine J_iload 6 dX7_tryMove_60 rfl ?_
        refine J_icmp_ne 69 dX7_tryMove_62 (by decide) (fun h62 => ?_) (fun h62 => ?_)
        · skip
          have hno : ¬ (pr (vw 1 ω1) (c : Int) = p ∧ hb (vw 1 ω1) (c : Int) m = v ∧ hds (vw 1 ω1) (c : Int) m = h) := fun q => h62 (by rw [rp]; exact q.1)
          refine J_iconst 0 dX7_tryMove_69 ⟨by decide, by decide⟩ ?_
          refine J_istore_8 dX7_tryMove_70 (by decide) rfl ?_
          refine J_iload 8 dX7_tryMove_72 rfl ?_
          refine J_if_eq 120 dX7_tryMove_74 (by decide) (fun h74 => ?_) (fun h74 => ?_)
          · skip
            refine J_iload_n 3 dX7_tryMove_120 rfl ?_
            refine J_if_ne 163 dX7_tryMove_121 (by decide) (fun h121 => ?_) (fun h121 => ?_)
            · skip
              refine J_iinc_7 dX7_tryMove_163 (by decide) ⟨by omega, by omega⟩ rfl ?_
              refine J_goto 40 dX7_tryMove_166 (by decide) ?_
              first
                | (refine ih (c + 1) _ _ (by omega) (PP_lay hS hm (by omega) hSc (by rw [if_neg hcp]) (by rw [if_neg hcp]) (fun j j0 j1 => ?_)) (hI.u (by omega) (by omega)) hQ
                   simp only [decide_eq_true_eq]
                   constructor
                   · intro q
                     by_cases e : j = (c : Int)
                     · exact Or.inr e
                     · exact Or.inl ⟨by omega, q.2⟩
                   · intro q
                     rcases q with q | q
                     · exact ⟨by omega, q.2⟩
                     · rw [q]; exact ⟨by omega, hyes⟩)
                | (refine ih (c + 1) _ _ (by omega) (PP_cg hS (fun j j0 j1 => ?_)) hI hQ
                   have : (j < ((c + 1 : Nat) : Int) ∧ (pr (vw 1 ω1) j = p ∧ hb (vw 1 ω1) j m = v ∧ hds (vw 1 ω1) j m = h)) ↔ (j < (c : Int) ∧ (pr (vw 1 ω1) j = p ∧ hb (vw 1 ω1) j m = v ∧ hds (vw 1 ω1) j m = h)) := by
                     constructor
                     · intro q
                       by_cases e : j = (c : Int)
                       · rw [e] at q
                         exact absurd q.2 hno
                       · exact ⟨by omega, q.2⟩
                     · intro q; exact ⟨by omega, q.2⟩
                   exact decide_eq_decide.2 this)
            · skip
              exfalso; omega
          · skip
            exfalso; omega
        · skip
          refine J_iconst 1 dX7_tryMove_65 ⟨by decide, by decide⟩ ?_
          refine J_goto 70 dX7_tryMove_66 (by decide) ?_
          refine J_istore_8 dX7_tryMove_70 (by decide) rfl ?_
          refine J_iload 8 dX7_tryMove_72 rfl ?_
          refine J_if_eq 120 dX7_tryMove_74 (by decide) (fun h74 => ?_) (fun h74 => ?_)
          · skip
            exfalso; omega
          · skip
            refine J_aload_n 0 dX7_tryMove_77 rfl ?_
            refine J_getR lkF_X7_20 rfl dX7_tryMove_78 ?_
            refine J_bipush 12 dX7_tryMove_81 ⟨by decide, by decide⟩ (by decide) ?_
            refine J_iload 7 dX7_tryMove_83 rfl ?_
            refine J_imul dX7_tryMove_85 ⟨by omega, by omega⟩ ?_
            refine J_iload_n 2 dX7_tryMove_86 rfl ?_
            refine J_iadd dX7_tryMove_87 ⟨by omega, by omega⟩ ?_
            refine J_iaload _ rfl rfl (by omega) dX7_tryMove_88 ?_
            refine J_iload 4 dX7_tryMove_89 rfl ?_
            refine J_icmp_ne 120 dX7_tryMove_91 (by decide) (fun h91 => ?_) (fun h91 => ?_)
            · skip
              have hno : ¬ (pr (vw 1 ω1) (c : Int) = p ∧ hb (vw 1 ω1) (c : Int) m = v ∧ hds (vw 1 ω1) (c : Int) m = h) := fun q => h91 (by rw [rm]; exact q.2.1)
              refine J_iload_n 3 dX7_tryMove_120 rfl ?_
              refine J_if_ne 163 dX7_tryMove_121 (by decide) (fun h121 => ?_) (fun h121 => ?_)
              · skip
                refine J_iinc_7 dX7_tryMove_163 (by decide) ⟨by omega, by omega⟩ rfl ?_
                refine J_goto 40 dX7_tryMove_166 (by decide) ?_
                first
                  | (refine ih (c + 1) _ _ (by omega) (PP_lay hS hm (by omega) hSc (by rw [if_neg hcp]) (by rw [if_neg hcp]) (fun j j0 j1 => ?_)) (hI.u (by omega) (by omega)) hQ
                     simp only [decide_eq_true_eq]
                     constructor
                     · intro q
                       by_cases e : j = (c : Int)
                       · exact Or.inr e
                       · exact Or.inl ⟨by omega, q.2⟩
                     · intro q
                       rcases q with q | q
                       · exact ⟨by omega, q.2⟩
                       · rw [q]; exact ⟨by omega, hyes⟩)
                  | (refine ih (c + 1) _ _ (by omega) (PP_cg hS (fun j j0 j1 => ?_)) hI hQ
                     have : (j < ((c + 1 : Nat) : Int) ∧ (pr (vw 1 ω1) j = p ∧ hb (vw 1 ω1) j m = v ∧ hds (vw 1 ω1) j m = h)) ↔ (j < (c : Int) ∧ (pr (vw 1 ω1) j = p ∧ hb (vw 1 ω1) j m = v ∧ hds (vw 1 ω1) j m = h)) := by
                       constructor
                       · intro q
                         by_cases e : j = (c : Int)
                         · rw [e] at q
                           exact absurd q.2 hno
                         · exact ⟨by omega, q.2⟩
                       · intro q; exact ⟨by omega, q.2⟩
                     exact decide_eq_decide.2 this)
              · skip
                exfalso; omega
            · skip
              refine J_aload_n 0 dX7_tryMove_94 rfl ?_
              refine J_getR lkF_X7_23 rfl dX7_tryMove_95 ?_
              refine J_iload 7 dX7_tryMove_98 rfl ?_
              refine J_iaload _ rfl rfl (by omega) dX7_tryMove_100 ?_
              refine J_iload_n 2 dX7_tryMove_101 rfl ?_
              refine JM_S2 lkM_X7_92 dX7_tryMove_102 (by decide) (Nat.le_of_ble_eq_true rfl) ?_
              refine kX7_hasBit ?_
              refine J_iload 5 dX7_tryMove_105 rfl ?_
              refine J_icmp_ne 120 dX7_tryMove_107 (by decide) (fun h107 => ?_) (fun h107 => ?_)
              · skip
                have hno : ¬ (pr (vw 1 ω1) (c : Int) = p ∧ hb (vw 1 ω1) (c : Int) m = v ∧ hds (vw 1 ω1) (c : Int) m = h) := fun q => h107 (by rw [rz]; exact q.2.2)
                refine J_iload_n 3 dX7_tryMove_120 rfl ?_
                refine J_if_ne 163 dX7_tryMove_121 (by decide) (fun h121 => ?_) (fun h121 => ?_)
                · skip
                  refine J_iinc_7 dX7_tryMove_163 (by decide) ⟨by omega, by omega⟩ rfl ?_
                  refine J_goto 40 dX7_tryMove_166 (by decide) ?_
                  first
                    | (refine ih (c + 1) _ _ (by omega) (PP_lay hS hm (by omega) hSc (by rw [if_neg hcp]) (by rw [if_neg hcp]) (fun j j0 j1 => ?_)) (hI.u (by omega) (by omega)) hQ
                       simp only [decide_eq_true_eq]
                       constructor
                       · intro q
                         by_cases e : j = (c : Int)
                         · exact Or.inr e
                         · exact Or.inl ⟨by omega, q.2⟩
                       · intro q
                         rcases q with q | q
                         · exact ⟨by omega, q.2⟩
                         · rw [q]; exact ⟨by omega, hyes⟩)
                    | (refine ih (c + 1) _ _ (by omega) (PP_cg hS (fun j j0 j1 => ?_)) hI hQ
                       have : (j < ((c + 1 : Nat) : Int) ∧ (pr (vw 1 ω1) j = p ∧ hb (vw 1 ω1) j m = v ∧ hds (vw 1 ω1) j m = h)) ↔ (j < (c : Int) ∧ (pr (vw 1 ω1) j = p ∧ hb (vw 1 ω1) j m = v ∧ hds (vw 1 ω1) j m = h)) := by
                         constructor
                         · intro q
                           by_cases e : j = (c : Int)
                           · rw [e] at q
                             exact absurd q.2 hno
                           · exact ⟨by omega, q.2⟩
                         · intro q; exact ⟨by omega, q.2⟩
                       exact decide_eq_decide.2 this)
                · skip
                  exfalso; omega
              · skip
                have hyes : (pr (vw 1 ω1) (c : Int) = p ∧ hb (vw 1 ω1) (c : Int) m = v ∧ hds (vw 1 ω1) (c : Int) m = h) := ⟨by rw [← rp]; omega, by rw [← rm]; omega, by rw [← rz]; omega⟩
                have hcp : ¬ (c : Int) = p := fun e => hpp (by have := hyes.1; rw [e] at this; exact this)
                refine J_aload_n 0 dX7_tryMove_110 rfl ?_
                refine J_iconst 1 dX7_tryMove_111 ⟨by decide, by decide⟩ ?_
                refine J_iload 7 dX7_tryMove_112 rfl ?_
                refine J_iload_n 2 dX7_tryMove_114 rfl ?_
                refine J_iconst (-1) dX7_tryMove_115 ⟨by decide, by decide⟩ ?_
                refine J_iconst 0 dX7_tryMove_116 ⟨by decide, by decide⟩ ?_
                refine JM_V5 lkM_X7_220 rcv_29 dX7_tryMove_117 (by decide) (Nat.le_of_ble_eq_true rfl) ?_
                refine kX7_lay (by omega) hm (PP_15 hW hS (by omega) hSc) (Or.inl rfl) ?_
                refine J_iload_n 3 dX7_tryMove_120 rfl ?_
                refine J_if_ne 163 dX7_tryMove_121 (by decide) (fun h121 => ?_) (fun h121 => ?_)
                · skip
                  refine J_iinc_7 dX7_tryMove_163 (by decide) ⟨by omega, by omega⟩ rfl ?_
                  refine J_goto 40 dX7_tryMove_166 (by decide) ?_
                  first
                    | (refine ih (c + 1) _ _ (by omega) (PP_lay hS hm (by omega) hSc (by rw [if_neg hcp]) (by rw [if_neg hcp]) (fun j j0 j1 => ?_)) (hI.u (by omega) (by omega)) hQ
                       simp only [decide_eq_true_eq]
                       constructor
                       · intro q
                         by_cases e : j = (c : Int)
                         · exact Or.inr e
                         · exact Or.inl ⟨by omega, q.2⟩
                       · intro q
                         rcases q with q | q
                         · exact ⟨by omega, q.2⟩
                         · rw [q]; exact ⟨by omega, hyes⟩)
                    | (refine ih (c + 1) _ _ (by omega) (PP_cg hS (fun j j0 j1 => ?_)) hI hQ
                       have : (j < ((c + 1 : Nat) : Int) ∧ (pr (vw 1 ω1) j = p ∧ hb (vw 1 ω1) j m = v ∧ hds (vw 1 ω1) j m = h)) ↔ (j < (c : Int) ∧ (pr (vw 1 ω1) j = p ∧ hb (vw 1 ω1) j m = v ∧ hds (vw 1 ω1) j m = h)) := by
                         constructor
                         · intro q
                           by_cases e : j = (c : Int)
                           · rw [e] at q
                             exact absurd q.2 hno
                           · exact ⟨by omega, q.2⟩
                         · intro q; exact ⟨by omega, q.2⟩
                       exact decide_eq_decide.2 this)
                · skip
                  exfalso; omega

set_option maxRecDepth 100000 in
set_option maxHeartbeats 4000000 in
theorem l_tyD {X : Cx} {d : Nat} {Q : Option MV → Om → Prop} {ω1 : Om} {t p m u v h : Int} (hW : WfT (vw 1 ω1)) (h14 : ∀ i, 0 ≤ i → i < 96 → ω1 33 (96 + i) = ω1 33 i) (h15 : ∀ i, 0 ≤ i → i < 8 → ω1 34 (8 + i) = ω1 34 i) (hm : 0 ≤ m ∧ m < 12) (ht : 0 ≤ t ∧ t < ω1 29 2) (hu : u = 0) (hpp : ¬ pr (vw 1 ω1) t = t) (hh : h = 0 ∨ (h = 1 ∧ m < 6 ∧ ¬ v = -1)) : ∀ (n c : Nat) (ω : Om) (x : Option MV), c + n = (ω1 29 2).toNat → PP (vw 1 ω1) (vw 1 ω) m (fun j => decide (j < c ∧ (pr (vw 1 ω1) j = t ∧ hb (vw 1 ω1) j m = -1))) (fun j => if j = t then -1 else v) (fun j => if j = t then 0 else h) → TyI ω1 ω → (∀ ω', PP (vw 1 ω1) (vw 1 ω') m (fun j => decide ((j < ω1 29 2 ∧ (pr (vw 1 ω1) j = t ∧ hb (vw 1 ω1) j m = -1)) ∨ j = t)) (fun j => if j = t then -1 else v) (fun j => if j = t then 0 else h) → TyI ω1 ω' → Q none ω') → JM X mX7_tryMove (d + 1) Q 40 [some (vR 29), some (vI t), some (vI m), some (vI u), some (vI v), some (vI h), some (vI p), some (vI c), x] [] ω := by
  have n8 := n8_vw hW
  intro n
  induction n with
  | zero =>
    intro c ω x hc hS hI hQ
    have e2 : ω 29 2 = ω1 29 2 := by rw [hI.1 29 (by decide)]
    refine J_iload 7 dX7_tryMove_40 rfl ?_
    refine J_aload_n 0 dX7_tryMove_42 rfl ?_
    refine J_getI 2 lkF_X7_112 rfl rfl rfl dX7_tryMove_43 ?_
    refine J_icmp_ge 169 dX7_tryMove_46 (by decide) (fun h46 => ?_) (fun h46 => ?_)
    · skip
      refine J_iload_n 3 dX7_tryMove_169 rfl ?_
      refine J_if_eq 188 dX7_tryMove_170 (by decide) (fun h170 => ?_) (fun h170 => ?_)
      · skip
        refine J_aload_n 0 dX7_tryMove_188 rfl ?_
        refine J_iconst 1 dX7_tryMove_189 ⟨by decide, by decide⟩ ?_
        refine J_iload_n 1 dX7_tryMove_190 rfl ?_
        refine J_iload_n 2 dX7_tryMove_191 rfl ?_
        refine J_iconst (-1) dX7_tryMove_192 ⟨by decide, by decide⟩ ?_
        refine J_iconst 0 dX7_tryMove_193 ⟨by decide, by decide⟩ ?_
        refine JM_V5 lkM_X7_220 rcv_29 dX7_tryMove_194 (by decide) (Nat.le_of_ble_eq_true rfl) ?_
        have hn0 : (fun j : Int => decide (j < c ∧ (pr (vw 1 ω1) j = t ∧ hb (vw 1 ω1) j m = -1))) t = false := by simp only [decide_eq_false_iff_not]; exact fun q => hpp q.2.1
        refine kX7_lay (by omega) hm (PP_15 hW hS (by omega) hn0) (Or.inl rfl) ?_
        refine JM_vret rfl dX7_tryMove_197 ?_
        refine hQ _ (PP_lay hS hm (by omega) hn0 (by rw [if_pos rfl]) (by rw [if_pos rfl]) (fun j j0 j1 => ?_)) (hI.u (by omega) (by omega))
        simp only [decide_eq_true_eq]
        have : (j < (c : Int)) ↔ j < ω1 29 2 := by omega
        rw [this]
      · skip
        exfalso; omega
    · skip
      exfalso; omega
  | succ n ih =>
    intro c ω x hc hS hI hQ
    have e2 : ω 29 2 = ω1 29 2 := by rw [hI.1 29 (by decide)]
    obtain ⟨rp, rm, rz⟩ := rd_try hW h14 h15 hI (c := (c : Int)) (m := m) (by omega) hm
    have hSc : (fun j : Int => decide (j < c ∧ (pr (vw 1 ω1) j = t ∧ hb (vw 1 ω1) j m = -1))) (c : Int) = false := by simp only [decide_eq_false_iff_not]; omega
    refine J_iload 7 dX7_tryMove_40 rfl ?_
    refine J_aload_n 0 dX7_tryMove_42 rfl ?_
    refine J_getI 2 lkF_X7_112 rfl rfl rfl dX7_tryMove_43 ?_
    refine J_icmp_ge 169 dX7_tryMove_46 (by decide) (fun h46 => ?_) (fun h46 => ?_)
    · skip
      exfalso; omega
    · skip
      refine J_iload_n 3 dX7_tryMove_49 rfl ?_
      refine J_if_eq 69 dX7_tryMove_50 (by decide) (fun h50 => ?_) (fun h50 => ?_)
      · skip
        refine J_iconst 0 dX7_tryMove_69 ⟨by decide, by decide⟩ ?_
        refine J_istore_8 dX7_tryMove_70 (by decide) rfl ?_
        refine J_iload 8 dX7_tryMove_72 rfl ?_
        refine J_if_eq 120 dX7_tryMove_74 (by decide) (fun h74 => ?_) (fun h74 => ?_)
        · skip
          refine J_iload_n 3 dX7_tryMove_120 rfl ?_
          refine J_if_ne 163 dX7_tryMove_121 (by decide) (fun h121 => ?_) (fun h121 => ?_)
          · skip
            exfalso; omega
          · skip
            refine J_aload_n 0 dX7_tryMove_124 rfl ?_
            refine J_getR lkF_X7_13 rfl dX7_tryMove_125 ?_
            refine J_iload 7 dX7_tryMove_128 rfl ?_
            refine J_iaload _ rfl rfl (by omega) dX7_tryMove_130 ?_
            refine J_iload_n 1 dX7_tryMove_131 rfl ?_
            refine J_icmp_ne 163 dX7_tryMove_132 (by decide) (fun h132 => ?_) (fun h132 => ?_)
            · skip
              have hno : ¬ (pr (vw 1 ω1) (c : Int) = t ∧ hb (vw 1 ω1) (c : Int) m = -1) := fun q => h132 (by rw [rp]; exact q.1)
              refine J_iinc_7 dX7_tryMove_163 (by decide) ⟨by omega, by omega⟩ rfl ?_
              refine J_goto 40 dX7_tryMove_166 (by decide) ?_
              first
                | (refine ih (c + 1) _ _ (by omega) (PP_lay hS hm (by omega) hSc (by rw [if_neg hcp]) (by rw [if_neg hcp]) (fun j j0 j1 => ?_)) (hI.u (by omega) (by omega)) hQ
                   simp only [decide_eq_true_eq]
                   constructor
                   · intro q
                     by_cases e : j = (c : Int)
                     · exact Or.inr e
                     · exact Or.inl ⟨by omega, q.2⟩
                   · intro q
                     rcases q with q | q
                     · exact ⟨by omega, q.2⟩
                     · rw [q]; exact ⟨by omega, hyes⟩)
                | (refine ih (c + 1) _ _ (by omega) (PP_cg hS (fun j j0 j1 => ?_)) hI hQ
                   have : (j < ((c + 1 : Nat) : Int) ∧ (pr (vw 1 ω1) j = t ∧ hb (vw 1 ω1) j m = -1)) ↔ (j < (c : Int) ∧ (pr (vw 1 ω1) j = t ∧ hb (vw 1 ω1) j m = -1)) := by
                     constructor
                     · intro q
                       by_cases e : j = (c : Int)
                       · rw [e] at q
                         exact absurd q.2 hno
                       · exact ⟨by omega, q.2⟩
                     · intro q; exact ⟨by omega, q.2⟩
                   exact decide_eq_decide.2 this)
            · skip
              refine J_aload_n 0 dX7_tryMove_135 rfl ?_
              refine J_getR lkF_X7_20 rfl dX7_tryMove_136 ?_
              refine J_bipush 12 dX7_tryMove_139 ⟨by decide, by decide⟩ (by decide) ?_
              refine J_iload 7 dX7_tryMove_141 rfl ?_
              refine J_imul dX7_tryMove_143 ⟨by omega, by omega⟩ ?_
              refine J_iload_n 2 dX7_tryMove_144 rfl ?_
              refine J_iadd dX7_tryMove_145 ⟨by omega, by omega⟩ ?_
              refine J_iaload _ rfl rfl (by omega) dX7_tryMove_146 ?_
              refine J_iconst (-1) dX7_tryMove_147 ⟨by decide, by decide⟩ ?_
              refine J_icmp_ne 163 dX7_tryMove_148 (by decide) (fun h148 => ?_) (fun h148 => ?_)
              · skip
                have hno : ¬ (pr (vw 1 ω1) (c : Int) = t ∧ hb (vw 1 ω1) (c : Int) m = -1) := fun q => h148 (by rw [rm]; exact q.2)
                refine J_iinc_7 dX7_tryMove_163 (by decide) ⟨by omega, by omega⟩ rfl ?_
                refine J_goto 40 dX7_tryMove_166 (by decide) ?_
                first
                  | (refine ih (c + 1) _ _ (by omega) (PP_lay hS hm (by omega) hSc (by rw [if_neg hcp]) (by rw [if_neg hcp]) (fun j j0 j1 => ?_)) (hI.u (by omega) (by omega)) hQ
                     simp only [decide_eq_true_eq]
                     constructor
                     · intro q
                       by_cases e : j = (c : Int)
                       · exact Or.inr e
                       · exact Or.inl ⟨by omega, q.2⟩
                     · intro q
                       rcases q with q | q
                       · exact ⟨by omega, q.2⟩
                       · rw [q]; exact ⟨by omega, hyes⟩)
                  | (refine ih (c + 1) _ _ (by omega) (PP_cg hS (fun j j0 j1 => ?_)) hI hQ
                     have : (j < ((c + 1 : Nat) : Int) ∧ (pr (vw 1 ω1) j = t ∧ hb (vw 1 ω1) j m = -1)) ↔ (j < (c : Int) ∧ (pr (vw 1 ω1) j = t ∧ hb (vw 1 ω1) j m = -1)) := by
                       constructor
                       · intro q
                         by_cases e : j = (c : Int)
                         · rw [e] at q
                           exact absurd q.2 hno
                         · exact ⟨by omega, q.2⟩
                       · intro q; exact ⟨by omega, q.2⟩
                     exact decide_eq_decide.2 this)
              · skip
                have hyes : (pr (vw 1 ω1) (c : Int) = t ∧ hb (vw 1 ω1) (c : Int) m = -1) := ⟨by rw [← rp]; omega, by rw [← rm]; omega⟩
                have hcp : ¬ (c : Int) = t := fun e => hpp (by have := hyes.1; rw [e] at this; exact this)
                refine J_aload_n 0 dX7_tryMove_151 rfl ?_
                refine J_iconst 1 dX7_tryMove_152 ⟨by decide, by decide⟩ ?_
                refine J_iload 7 dX7_tryMove_153 rfl ?_
                refine J_iload_n 2 dX7_tryMove_155 rfl ?_
                refine J_iload 4 dX7_tryMove_156 rfl ?_
                refine J_iload 5 dX7_tryMove_158 rfl ?_
                refine JM_V5 lkM_X7_220 rcv_29 dX7_tryMove_160 (by decide) (Nat.le_of_ble_eq_true rfl) ?_
                refine kX7_lay (by omega) hm (PP_15 hW hS (by omega) hSc) hh ?_
                refine J_iinc_7 dX7_tryMove_163 (by decide) ⟨by omega, by omega⟩ rfl ?_
                refine J_goto 40 dX7_tryMove_166 (by decide) ?_
                first
                  | (refine ih (c + 1) _ _ (by omega) (PP_lay hS hm (by omega) hSc (by rw [if_neg hcp]) (by rw [if_neg hcp]) (fun j j0 j1 => ?_)) (hI.u (by omega) (by omega)) hQ
                     simp only [decide_eq_true_eq]
                     constructor
                     · intro q
                       by_cases e : j = (c : Int)
                       · exact Or.inr e
                       · exact Or.inl ⟨by omega, q.2⟩
                     · intro q
                       rcases q with q | q
                       · exact ⟨by omega, q.2⟩
                       · rw [q]; exact ⟨by omega, hyes⟩)
                  | (refine ih (c + 1) _ _ (by omega) (PP_cg hS (fun j j0 j1 => ?_)) hI hQ
                     have : (j < ((c + 1 : Nat) : Int) ∧ (pr (vw 1 ω1) j = t ∧ hb (vw 1 ω1) j m = -1)) ↔ (j < (c : Int) ∧ (pr (vw 1 ω1) j = t ∧ hb (vw 1 ω1) j m = -1)) := by
                       constructor
                       · intro q
                         by_cases e : j = (c : Int)
                         · rw [e] at q
                           exact absurd q.2 hno
                         · exact ⟨by omega, q.2⟩
                       · intro q; exact ⟨by omega, q.2⟩
                     exact decide_eq_decide.2 this)
        · skip
          exfalso; omega
      · skip
        exfalso; omega

theorem Tr0.q {ω ω1 : Om} (hn : 0 ≤ ω 29 2 ∧ ω 29 2 ≤ 8) (h : Tr0 ω ω1) : TQ (vw 0 ω) (vw 1 ω1) := by
  have f := h.1.1
  refine ⟨by rw [vw37, vw37, f 29 (by decide)], by rw [vw38, vw38, f 29 (by decide)], fun t t0 t1 => ⟨by rw [vw12, vw12, f 31 (by decide)], by rw [vw13, vw13, f 32 (by decide)], ?_⟩, fun t m t0 t1 m0 m1 => ?_, fun b _ _ => by rw [vw17, vw17, f 36 (by decide)], fun b k _ _ _ _ => by rw [vw18, vw18, f 37 (by decide)]⟩
  · rw [vw37] at t1
    rw [vw15, vw15, show (8 : Int) * 1 + t = 8 + t from by omega, h.2.2 t t0 (by omega), show (8 : Int) * 0 + t = t from by omega]
  · rw [vw37] at t1
    rw [vw14, vw14, show (96 : Int) * 1 + (t * 12 + m) = 96 + (t * 12 + m) from by omega, h.2.1 _ (by omega) (by omega), show (96 : Int) * 0 + (t * 12 + m) = t * 12 + m from by omega]
theorem mvT_u {τ ρ : Om} (h : TQ τ ρ) {t m u : Int} (hm : 0 ≤ m ∧ m < 12) {σ : Om} (g : TQ (mvT ρ t m u) σ) : TQ (mvT τ t m u) σ := (mvT_TQ h u hm).tr g
set_option maxRecDepth 100000 in
set_option maxHeartbeats 4000000 in
theorem kX7_tryMove {X : Cx} {d : Nat} {ω : Om} {Q : Option MV → Om → Prop} {t m u : Int} (hW : WfT (vw 0 ω)) (ht : 0 ≤ t ∧ t < ω 29 2) (hm : 0 ≤ m ∧ m < 12) (hv : ¬ hb (vw 0 ω) t m = -1) (hu : ¬ u = 0 → ¬ pr (vw 0 ω) t = -1) (hQ : ∀ ω', TQ (mvT (vw 0 ω) t m u) (vw 1 ω') → TyI ω ω' → Q none ω') : Mc X mX7_tryMove (d + 1) [vR 29, vI t, vI m, vI u] ω Q := by
  have n8 := n8_vw hW
  refine Mc_of [some (vR 29), some (vI t), some (vI m), some (vI u), none, none, none, none, none] (by decide +kernel) rfl (Nat.le_of_ble_eq_true rfl) ?_
  refine J_aload_n 0 dX7_tryMove_0 rfl ?_
  refine JM_V0 lkM_X7_217 rcv_29 dX7_tryMove_1 (by decide) (Nat.le_of_ble_eq_true rfl) ?_
  refine kX7_layTried (fun ω1 h1 => ?_)
  have hTQ := h1.q n8
  have hW1 := WfT_TQ hTQ hW
  have e2 : ω1 29 2 = ω 29 2 := by rw [h1.1.1 29 (by decide)]
  have h14 : ∀ i, 0 ≤ i → i < 96 → ω1 33 (96 + i) = ω1 33 i := fun i q r => by rw [h1.2.1 i q r, h1.1.2.1 i r]
  have h15 : ∀ i, 0 ≤ i → i < 8 → ω1 34 (8 + i) = ω1 34 i := fun i q r => by rw [h1.2.2 i q r, h1.1.2.2 i r]
  obtain ⟨rp, rm, rz⟩ := rd_try hW1 h14 h15 (TyI.rf ω1) (c := t) (m := m) (by omega) hm
  have hhd : hds (vw 1 ω1) t m = 0 ∨ (hds (vw 1 ω1) t m = 1 ∧ m < 6 ∧ ¬ hb (vw 1 ω1) t m = -1) := by
    rcases hds01 (vw 1 ω1) t m with q | q
    · exact Or.inl q
    · exact Or.inr ⟨q, (hds_lo hW1 hm q).1, by rw [hb_TQ hTQ]; exact hv⟩
  rw [← pr_TQ hTQ t] at hu
  refine J_aload_n 0 dX7_tryMove_4 rfl ?_
  refine J_getR lkF_X7_20 rfl dX7_tryMove_5 ?_
  refine J_bipush 12 dX7_tryMove_8 ⟨by decide, by decide⟩ (by decide) ?_
  refine J_iload_n 1 dX7_tryMove_10 rfl ?_
  refine J_imul dX7_tryMove_11 ⟨by omega, by omega⟩ ?_
  refine J_iload_n 2 dX7_tryMove_12 rfl ?_
  refine J_iadd dX7_tryMove_13 ⟨by omega, by omega⟩ ?_
  refine J_iaload _ rfl rfl (by omega) dX7_tryMove_14 ?_
  rw [rm]
  refine J_istore_4 dX7_tryMove_15 (by decide) rfl ?_
  refine J_aload_n 0 dX7_tryMove_17 rfl ?_
  refine J_getR lkF_X7_23 rfl dX7_tryMove_18 ?_
  refine J_iload_n 1 dX7_tryMove_21 rfl ?_
  refine J_iaload _ rfl rfl (by omega) dX7_tryMove_22 ?_
  refine J_iload_n 2 dX7_tryMove_23 rfl ?_
  refine JM_S2 lkM_X7_92 dX7_tryMove_24 (by decide) (Nat.le_of_ble_eq_true rfl) ?_
  refine kX7_hasBit ?_
  rw [rz]
  refine J_istore_5 dX7_tryMove_27 (by decide) rfl ?_
  refine J_aload_n 0 dX7_tryMove_29 rfl ?_
  refine J_getR lkF_X7_13 rfl dX7_tryMove_30 ?_
  refine J_iload_n 1 dX7_tryMove_33 rfl ?_
  refine J_iaload _ rfl rfl (by omega) dX7_tryMove_34 ?_
  rw [rp]
  refine J_istore_6 dX7_tryMove_35 (by decide) rfl ?_
  refine J_iconst 0 dX7_tryMove_37 ⟨by decide, by decide⟩ ?_
  refine J_istore_7 dX7_tryMove_38 (by decide) rfl ?_
  by_cases hu0 : u = 0
  · refine l_tyD hW1 h14 h15 hm (by omega) hu0 (pr_ne hW1 t ht.1) hhd (ω1 29 2).toNat 0 ω1 none (by omega) (PP_0 _ m _ _ (fun j j0 j1 => by simp only [decide_eq_false_iff_not]; omega)) (TyI.rf ω1) (fun ω2 hP2 hI2 => ?_)
    refine hQ ω2 (mvT_u hTQ hm (mv_PP hW1 hm hP2 (fun c c0 c1 => by
        unfold mvH; rw [if_pos rfl, if_pos hu0]
        simp only [decide_eq_true_eq]
        by_cases e1 : c = t
        · rw [if_pos e1, if_pos (Or.inr e1), if_pos e1]
        · rw [if_neg e1]
          by_cases e2 : pr (vw 1 ω1) c = t ∧ hb (vw 1 ω1) c m = -1
          · rw [if_pos e2, if_pos (Or.inl ⟨c1, e2⟩), if_neg e1]
          · rw [if_neg e2, if_neg (fun q => q.elim (fun w => e2 w.2) e1)]) (fun c c0 c1 => by
        unfold mvB; rw [if_pos hu0]
        simp only [decide_eq_true_eq]
        by_cases e1 : c = t
        · rw [if_pos e1, if_pos (Or.inr e1), if_pos e1]
        · rw [if_neg e1]
          by_cases e2 : pr (vw 1 ω1) c = t ∧ hb (vw 1 ω1) c m = -1
          · rw [if_pos e2, if_pos (Or.inl ⟨c1, e2⟩), if_neg e1]
          · rw [if_neg e2, if_neg (fun q => q.elim (fun w => e2 w.2) e1)]))) (h1.1.tr hI2)
  · have hpr := hu hu0
    refine l_tyU hW1 h14 h15 hm (by omega) hu0 (by rw [← vw37 1 ω1]; have := pr_rg hW1 t; have hq := this.2.2 ht.1; rw [vw37]; omega) (pr_ne hW1 _ (by have := pr_rg hW1 t; omega)) hhd (ω1 29 2).toNat 0 ω1 none (by omega) (PP_0 _ m _ _ (fun j j0 j1 => by simp only [decide_eq_false_iff_not]; omega)) (TyI.rf ω1) (fun ω2 hP2 hI2 => ?_)
    refine hQ ω2 (mvT_u hTQ hm (mv_PP hW1 hm hP2 (fun c c0 c1 => by
        unfold mvH; rw [if_pos rfl, if_neg hu0]
        simp only [decide_eq_true_eq]
        by_cases e1 : c = pr (vw 1 ω1) t
        · rw [if_pos e1, if_pos (Or.inr e1), if_pos e1]
        · rw [if_neg e1]
          by_cases e2 : pr (vw 1 ω1) c = pr (vw 1 ω1) t ∧ hb (vw 1 ω1) c m = hb (vw 1 ω1) t m ∧ hds (vw 1 ω1) c m = hds (vw 1 ω1) t m
          · rw [if_pos e2, if_pos (Or.inl ⟨c1, e2⟩), if_neg e1]
          · rw [if_neg e2, if_neg (fun q => q.elim (fun w => e2 w.2) e1)]) (fun c c0 c1 => by
        unfold mvB; rw [if_neg hu0]
        simp only [decide_eq_true_eq]
        by_cases e1 : c = pr (vw 1 ω1) t
        · rw [if_pos e1, if_pos (Or.inr e1), if_pos e1]
        · rw [if_neg e1]
          by_cases e2 : pr (vw 1 ω1) c = pr (vw 1 ω1) t ∧ hb (vw 1 ω1) c m = hb (vw 1 ω1) t m ∧ hds (vw 1 ω1) c m = hds (vw 1 ω1) t m
          · rw [if_pos e2, if_pos (Or.inl ⟨c1, e2⟩), if_neg e1]
          · rw [if_neg e2, if_neg (fun q => q.elim (fun w => e2 w.2) e1)]))) (h1.1.tr hI2)

def cntB (p : Int → Bool) : Nat → Int
  | 0 => 0
  | k + 1 => cntB p k + if p k = true then 1 else 0
theorem cntB_R (p : Int → Bool) : ∀ k : Nat, 0 ≤ cntB p k ∧ cntB p k ≤ k := by
  intro k
  induction k with
  | zero => exact ⟨Int.le_refl _, Int.le_refl _⟩
  | succ k ih => rw [cntB]; split <;> omega
theorem cntB_any (p : Int → Bool) : ∀ k : Nat, cntB p k = 0 ↔ anyB p k = false := by
  intro k
  induction k with
  | zero => simp [cntB, anyB]
  | succ k ih =>
    have := cntB_R p k
    rw [cntB, anyB]
    cases h : p k
    · simp only [Bool.false_eq_true, if_false, Bool.or_false, Int.add_zero]; exact ih
    · simp only [if_true, Bool.or_true, Bool.true_eq_false, iff_false]; omega
/-- what the first side reads -/
theorem rd_0 {ω : Om} (hW : WfT (vw 0 ω)) {c m : Int} (hc : 0 ≤ c ∧ c < ω 29 2) (hm : 0 ≤ m ∧ m < 12) : ω 31 c = pr (vw 0 ω) c ∧ ω 33 (12 * c + m) = hb (vw 0 ω) c m ∧ zb (ω 34 c) m = hds (vw 0 ω) c m := by
  have hc' : 0 ≤ c ∧ c < vw 0 ω 3 7 := hc
  refine ⟨?_, ?_, ?_⟩
  · rw [pr_in hW hc', vw12]
  · rw [hb_in hW hc' hm, vw14, show (96 : Int) * 0 + (c * 12 + m) = 12 * c + m from by omega]
  · rw [hds_zb hW hc', vw15, show (8 : Int) * 0 + c = c from by omega]
set_option maxRecDepth 100000 in
set_option maxHeartbeats 4000000 in
theorem l_msb {X : Cx} {d : Nat} {Q : Option MV → Om → Prop} {ω : Om} {t m : Int} (hW : WfT (vw 0 ω)) (hm : 0 ≤ m ∧ m < 12) : ∀ (n k : Nat), k + n = (ω 29 2).toNat → Q (some (vI (cntB (fun c => decide (pr (vw 0 ω) c = t ∧ hb (vw 0 ω) c m = -1)) (ω 29 2).toNat))) ω → JM X mX7_missesBelow d Q 5 [some (vR 29), some (vI t), some (vI m), some (vI (cntB (fun c => decide (pr (vw 0 ω) c = t ∧ hb (vw 0 ω) c m = -1)) k)), some (vI k)] [] ω := by
  have n8 := n8_vw hW
  intro n
  induction n with
  | zero =>
    intro k hk hQ
    refine J_iload 4 dX7_missesBelow_5 rfl ?_
    refine J_aload_n 0 dX7_missesBelow_7 rfl ?_
    refine J_getI 2 lkF_X7_112 rfl rfl rfl dX7_missesBelow_8 ?_
    refine J_icmp_ge 55 dX7_missesBelow_11 (by decide) (fun h11 => ?_) (fun h11 => ?_)
    · skip
      refine J_iload_n 3 dX7_missesBelow_55 rfl ?_
      refine JM_iret rfl dX7_missesBelow_56 ?_
      rw [show k = (ω 29 2).toNat from by omega]; exact hQ
    · skip
      exfalso; omega
  | succ n ih =>
    intro k hk hQ
    obtain ⟨rp, rm, rz⟩ := rd_0 hW (c := (k : Int)) (m := m) (by omega) hm
    have hcr := cntB_R (fun c => decide (pr (vw 0 ω) c = t ∧ hb (vw 0 ω) c m = -1)) k
    refine J_iload 4 dX7_missesBelow_5 rfl ?_
    refine J_aload_n 0 dX7_missesBelow_7 rfl ?_
    refine J_getI 2 lkF_X7_112 rfl rfl rfl dX7_missesBelow_8 ?_
    refine J_icmp_ge 55 dX7_missesBelow_11 (by decide) (fun h11 => ?_) (fun h11 => ?_)
    · skip
      exfalso; omega
    · skip
      refine J_iload_n 3 dX7_missesBelow_14 rfl ?_
      refine J_aload_n 0 dX7_missesBelow_15 rfl ?_
      refine J_getR lkF_X7_13 rfl dX7_missesBelow_16 ?_
      refine J_iload 4 dX7_missesBelow_19 rfl ?_
      refine J_iaload _ rfl rfl (by omega) dX7_missesBelow_21 ?_
      refine J_iload_n 1 dX7_missesBelow_22 rfl ?_
      refine J_icmp_ne 46 dX7_missesBelow_23 (by decide) (fun h23 => ?_) (fun h23 => ?_)
      · skip
        refine J_iconst 0 dX7_missesBelow_46 ⟨by decide, by decide⟩ ?_
        refine J_iadd dX7_missesBelow_47 ⟨by omega, by omega⟩ ?_
        refine J_istore_3 dX7_missesBelow_48 (by decide) rfl ?_
        refine J_iinc_4 dX7_missesBelow_49 (by decide) ⟨by omega, by omega⟩ rfl ?_
        refine J_goto 5 dX7_missesBelow_52 (by decide) ?_
        have e := ih (k + 1) (by omega) hQ
        rw [cntB] at e
        first | (rw [if_pos (by simp only [decide_eq_true_eq]; omega)] at e; exact e) | (rw [if_neg (by simp only [decide_eq_true_eq]; omega)] at e; exact e)
      · skip
        refine J_aload_n 0 dX7_missesBelow_26 rfl ?_
        refine J_getR lkF_X7_20 rfl dX7_missesBelow_27 ?_
        refine J_bipush 12 dX7_missesBelow_30 ⟨by decide, by decide⟩ (by decide) ?_
        refine J_iload 4 dX7_missesBelow_32 rfl ?_
        refine J_imul dX7_missesBelow_34 ⟨by omega, by omega⟩ ?_
        refine J_iload_n 2 dX7_missesBelow_35 rfl ?_
        refine J_iadd dX7_missesBelow_36 ⟨by omega, by omega⟩ ?_
        refine J_iaload _ rfl rfl (by omega) dX7_missesBelow_37 ?_
        refine J_iconst (-1) dX7_missesBelow_38 ⟨by decide, by decide⟩ ?_
        refine J_icmp_ne 46 dX7_missesBelow_39 (by decide) (fun h39 => ?_) (fun h39 => ?_)
        · skip
          refine J_iconst 0 dX7_missesBelow_46 ⟨by decide, by decide⟩ ?_
          refine J_iadd dX7_missesBelow_47 ⟨by omega, by omega⟩ ?_
          refine J_istore_3 dX7_missesBelow_48 (by decide) rfl ?_
          refine J_iinc_4 dX7_missesBelow_49 (by decide) ⟨by omega, by omega⟩ rfl ?_
          refine J_goto 5 dX7_missesBelow_52 (by decide) ?_
          have e := ih (k + 1) (by omega) hQ
          rw [cntB] at e
          first | (rw [if_pos (by simp only [decide_eq_true_eq]; omega)] at e; exact e) | (rw [if_neg (by simp only [decide_eq_true_eq]; omega)] at e; exact e)
        · skip
          refine J_iconst 1 dX7_missesBelow_42 ⟨by decide, by decide⟩ ?_
          refine J_goto 47 dX7_missesBelow_43 (by decide) ?_
          refine J_iadd dX7_missesBelow_47 ⟨by omega, by omega⟩ ?_
          refine J_istore_3 dX7_missesBelow_48 (by decide) rfl ?_
          refine J_iinc_4 dX7_missesBelow_49 (by decide) ⟨by omega, by omega⟩ rfl ?_
          refine J_goto 5 dX7_missesBelow_52 (by decide) ?_
          have e := ih (k + 1) (by omega) hQ
          rw [cntB] at e
          first | (rw [if_pos (by simp only [decide_eq_true_eq]; omega)] at e; exact e) | (rw [if_neg (by simp only [decide_eq_true_eq]; omega)] at e; exact e)

set_option maxRecDepth 100000 in
set_option maxHeartbeats 4000000 in
theorem kX7_missesBelow {X : Cx} {d : Nat} {ω : Om} {Q : Option MV → Om → Prop} {t m : Int} (hW : WfT (vw 0 ω)) (hm : 0 ≤ m ∧ m < 12) (hQ : Q (some (vI (cntB (fun c => decide (pr (vw 0 ω) c = t ∧ hb (vw 0 ω) c m = -1)) (ω 29 2).toNat))) ω) : Mc X mX7_missesBelow d [vR 29, vI t, vI m] ω Q := by
  have n8 := n8_vw hW
  refine Mc_of [some (vR 29), some (vI t), some (vI m), none, none] (by decide +kernel) rfl (Nat.le_of_ble_eq_true rfl) ?_
  refine J_iconst 0 dX7_missesBelow_0 ⟨by decide, by decide⟩ ?_
  refine J_istore_3 dX7_missesBelow_1 (by decide) rfl ?_
  refine J_iconst 0 dX7_missesBelow_2 ⟨by decide, by decide⟩ ?_
  refine J_istore_4 dX7_missesBelow_3 (by decide) rfl ?_
  exact l_msb hW hm (ω 29 2).toNat 0 (by omega) hQ

set_option maxRecDepth 100000 in
set_option maxHeartbeats 4000000 in
theorem kX7_plainWhy {X : Cx} {d : Nat} {ω : Om} {Q : Option MV → Om → Prop} {t m u : Int} (hM : MW ω) (ht : 0 ≤ t ∧ t < ω 29 2) (hm : 0 ≤ m ∧ m < 12) (hQ : Q (some (vI (plainT (vw 0 ω) t m u))) ω) : Mc X mX7_plainWhy (d + 1) [vR 29, vI t, vI m, vI u] ω Q := by
  have n8 := n8_vw hM.1
  obtain ⟨rp, rm, rz⟩ := rd_0 hM.1 (c := t) (m := m) ht hm
  have prr := pr_rg hM.1 t
  have prt := prr.2.2 ht.1
  have prm : ¬ pr (vw 0 ω) t = -1 → ω 33 (12 * pr (vw 0 ω) t + m) = hb (vw 0 ω) (pr (vw 0 ω) t) m := fun q => (rd_0 hM.1 (c := pr (vw 0 ω) t) (m := m) (by omega) hm).2.1
  unfold plainT at hQ
  rw [vw37] at hQ
  have hb8 := bitsF_any (p := fun c => decide (pr (vw 0 ω) c = t)) (n := (ω 29 2).toNat) (by omega)
  have hcb := cntB_any (fun c => decide (pr (vw 0 ω) c = t ∧ hb (vw 0 ω) c m = -1)) (ω 29 2).toNat
  refine Mc_of [some (vR 29), some (vI t), some (vI m), some (vI u), none] (by decide +kernel) rfl (Nat.le_of_ble_eq_true rfl) ?_
  refine J_aload_n 0 dX7_plainWhy_0 rfl ?_
  refine J_getR lkF_X7_20 rfl dX7_plainWhy_1 ?_
  refine J_bipush 12 dX7_plainWhy_4 ⟨by decide, by decide⟩ (by decide) ?_
  refine J_iload_n 1 dX7_plainWhy_6 rfl ?_
  refine J_imul dX7_plainWhy_7 ⟨by omega, by omega⟩ ?_
  refine J_iload_n 2 dX7_plainWhy_8 rfl ?_
  refine J_iadd dX7_plainWhy_9 ⟨by omega, by omega⟩ ?_
  refine J_iaload _ rfl rfl (by omega) dX7_plainWhy_10 ?_
  rw [rm]
  refine J_iconst (-1) dX7_plainWhy_11 ⟨by decide, by decide⟩ ?_
  refine J_icmp_ne 17 dX7_plainWhy_12 (by decide) (fun h12 => ?_) (fun h12 => ?_)
  · skip
    refine J_iload_n 3 dX7_plainWhy_17 rfl ?_
    refine J_if_eq 61 dX7_plainWhy_18 (by decide) (fun h18 => ?_) (fun h18 => ?_)
    · skip
      refine J_aload_n 0 dX7_plainWhy_61 rfl ?_
      refine J_iload_n 1 dX7_plainWhy_62 rfl ?_
      refine JM_V1 lkM_X7_167 rcv_29 dX7_plainWhy_63 (by decide) (Nat.le_of_ble_eq_true rfl) ?_
      refine kX7_below hM ?_
      generalize bitsF (fun c => decide (pr (vw 0 ω) c = t)) (ω 29 2).toNat = bb at hb8 ⊢
      generalize anyB (fun c => decide (pr (vw 0 ω) c = t)) (ω 29 2).toNat = aa at hb8 hQ
      refine J_if_ne 73 dX7_plainWhy_66 (by decide) (fun h66 => ?_) (fun h66 => ?_)
      · skip
        refine J_aload_n 0 dX7_plainWhy_73 rfl ?_
        refine J_iload_n 1 dX7_plainWhy_74 rfl ?_
        refine J_iload_n 2 dX7_plainWhy_75 rfl ?_
        refine JM_V2 lkM_X7_224 rcv_29 dX7_plainWhy_76 (by decide) (Nat.le_of_ble_eq_true rfl) ?_
        refine kX7_missesBelow hM.1 hm ?_
        generalize cntB (fun c => decide (pr (vw 0 ω) c = t ∧ hb (vw 0 ω) c m = -1)) (ω 29 2).toNat = cc at hcb ⊢
        generalize anyB (fun c => decide (pr (vw 0 ω) c = t ∧ hb (vw 0 ω) c m = -1)) (ω 29 2).toNat = a2 at hcb hQ
        refine J_if_ne 86 dX7_plainWhy_79 (by decide) (fun h79 => ?_) (fun h79 => ?_)
        · skip
          refine J_iconst 0 dX7_plainWhy_86 ⟨by decide, by decide⟩ ?_
          refine JM_iret rfl dX7_plainWhy_87 ?_
          rw [if_neg (by omega), if_pos (by omega)] at hQ
          first | (rw [if_pos (hb8.1 (by omega))] at hQ; exact hQ) | (rw [if_neg (fun q => h66 (hb8.2 q)), if_pos (hcb.1 (by omega))] at hQ; exact hQ) | (rw [if_neg (fun q => h66 (hb8.2 q)), if_neg (fun q => h79 (hcb.2 q))] at hQ; exact hQ)
        · skip
          refine J_iconst 3 dX7_plainWhy_82 ⟨by decide, by decide⟩ ?_
          refine J_goto 87 dX7_plainWhy_83 (by decide) ?_
          refine JM_iret rfl dX7_plainWhy_87 ?_
          rw [if_neg (by omega), if_pos (by omega)] at hQ
          first | (rw [if_pos (hb8.1 (by omega))] at hQ; exact hQ) | (rw [if_neg (fun q => h66 (hb8.2 q)), if_pos (hcb.1 (by omega))] at hQ; exact hQ) | (rw [if_neg (fun q => h66 (hb8.2 q)), if_neg (fun q => h79 (hcb.2 q))] at hQ; exact hQ)
      · skip
        refine J_iconst 2 dX7_plainWhy_69 ⟨by decide, by decide⟩ ?_
        refine J_goto 87 dX7_plainWhy_70 (by decide) ?_
        refine JM_iret rfl dX7_plainWhy_87 ?_
        rw [if_neg (by omega), if_pos (by omega)] at hQ
        first | (rw [if_pos (hb8.1 (by omega))] at hQ; exact hQ) | (rw [if_neg (fun q => h66 (hb8.2 q)), if_pos (hcb.1 (by omega))] at hQ; exact hQ) | (rw [if_neg (fun q => h66 (hb8.2 q)), if_neg (fun q => h79 (hcb.2 q))] at hQ; exact hQ)
    · skip
      refine J_aload_n 0 dX7_plainWhy_21 rfl ?_
      refine J_getR lkF_X7_13 rfl dX7_plainWhy_22 ?_
      refine J_iload_n 1 dX7_plainWhy_25 rfl ?_
      refine J_iaload _ rfl rfl (by omega) dX7_plainWhy_26 ?_
      rw [rp]
      refine J_istore_4 dX7_plainWhy_27 (by decide) rfl ?_
      refine J_iload 4 dX7_plainWhy_29 rfl ?_
      refine J_iconst (-1) dX7_plainWhy_31 ⟨by decide, by decide⟩ ?_
      refine J_icmp_ne 39 dX7_plainWhy_32 (by decide) (fun h32 => ?_) (fun h32 => ?_)
      · skip
        refine J_aload_n 0 dX7_plainWhy_39 rfl ?_
        refine J_getR lkF_X7_20 rfl dX7_plainWhy_40 ?_
        refine J_bipush 12 dX7_plainWhy_43 ⟨by decide, by decide⟩ (by decide) ?_
        refine J_iload 4 dX7_plainWhy_45 rfl ?_
        refine J_imul dX7_plainWhy_47 ⟨by omega, by omega⟩ ?_
        refine J_iload_n 2 dX7_plainWhy_48 rfl ?_
        refine J_iadd dX7_plainWhy_49 ⟨by omega, by omega⟩ ?_
        refine J_iaload _ rfl rfl (by omega) dX7_plainWhy_50 ?_
        rw [prm (by omega)]
        refine J_iconst (-1) dX7_plainWhy_51 ⟨by decide, by decide⟩ ?_
        refine J_icmp_eq 59 dX7_plainWhy_52 (by decide) (fun h52 => ?_) (fun h52 => ?_)
        · skip
          refine J_iconst 0 dX7_plainWhy_59 ⟨by decide, by decide⟩ ?_
          refine JM_iret rfl dX7_plainWhy_60 ?_
          rw [if_neg (by omega), if_neg (by omega)] at hQ
          first | (rw [if_pos (by omega)] at hQ; exact hQ) | (rw [if_neg (by omega), if_pos (by omega)] at hQ; exact hQ) | (rw [if_neg (by omega), if_neg (by omega)] at hQ; exact hQ)
        · skip
          refine J_iconst 3 dX7_plainWhy_55 ⟨by decide, by decide⟩ ?_
          refine J_goto 60 dX7_plainWhy_56 (by decide) ?_
          refine JM_iret rfl dX7_plainWhy_60 ?_
          rw [if_neg (by omega), if_neg (by omega)] at hQ
          first | (rw [if_pos (by omega)] at hQ; exact hQ) | (rw [if_neg (by omega), if_pos (by omega)] at hQ; exact hQ) | (rw [if_neg (by omega), if_neg (by omega)] at hQ; exact hQ)
      · skip
        refine J_iconst 2 dX7_plainWhy_35 ⟨by decide, by decide⟩ ?_
        refine J_goto 60 dX7_plainWhy_36 (by decide) ?_
        refine JM_iret rfl dX7_plainWhy_60 ?_
        rw [if_neg (by omega), if_neg (by omega)] at hQ
        first | (rw [if_pos (by omega)] at hQ; exact hQ) | (rw [if_neg (by omega), if_pos (by omega)] at hQ; exact hQ) | (rw [if_neg (by omega), if_neg (by omega)] at hQ; exact hQ)
  · skip
    refine J_iconst 1 dX7_plainWhy_15 ⟨by decide, by decide⟩ ?_
    refine JM_iret rfl dX7_plainWhy_16 ?_
    rw [if_pos (by omega)] at hQ; exact hQ

/-- what a look at the traces of both sides may change -/
def OF (ω ω' : Om) : Prop := Fr [29, 44, 45, 46, 47, 48, 49, 50] ω ω' ∧ ∀ i, i ≠ 7 → i ≠ 28 → i ≠ 31 → i ≠ 32 → i ≠ 36 → ω' 29 i = ω 29 i
theorem OF.rf (ω : Om) : OF ω ω := ⟨Fr.rf, fun _ _ _ _ _ _ => rfl⟩
theorem OF.tr {a b c : Om} (h : OF a b) (g : OF b c) : OF a c := ⟨h.1.tr g.1, fun i x y z w v => (g.2 i x y z w v).trans (h.2 i x y z w v)⟩
theorem TF.o {a b : Om} (h : TF a b) : OF a b := ⟨h.1.mono (by decide), fun i _ x y z _ => h.2 i x y z⟩
theorem OF.u9 {a b : Om} (h : OF a b) {i z : Int} (hi : i = 7 ∨ i = 36) : OF a (up b 29 i z) := ⟨h.1.up (by decide), fun j x y w v u => by rw [up_i (by omega)]; exact h.2 j x y w v u⟩
theorem OF.uk {a b : Om} (h : OF a b) {k : Nat} {i z : Int} (hk : k ∈ [49, 50]) : OF a (up b k i z) := by
  refine ⟨h.1.up (by revert hk; simp; omega), fun j x y w v u => ?_⟩
  have : (29 : Nat) ≠ k := fun e => by subst e; revert hk; decide
  rw [up_k this]
  exact h.2 j x y w v u
theorem OF.v {a b : Om} (h : OF a b) (s : Int) : vw s b = vw s a := vw_eq (h.2 2 (by decide) (by decide) (by decide) (by decide) (by decide)) (h.2 8 (by decide) (by decide) (by decide) (by decide) (by decide)) (h.1 31 (by decide)) (h.1 32 (by decide)) (h.1 33 (by decide)) (h.1 34 (by decide)) (h.1 36 (by decide)) (h.1 37 (by decide))
/-- the trace that was laid aside -/
def WereT (ω : Om) (l : List Int) : Prop := ω 29 36 = l.length ∧ Arr (ω 49) (l.map (· % 4)) ∧ Arr (ω 50) (l.map (· / 4))
theorem Arr2 {a b : Int → Int} : ∀ {l : List Int}, Arr a (l.map (· % 4)) → Arr b (l.map (· / 4)) → Arr (fun i => 4 * b i + a i) l := by
  intro l
  induction l with
  | nil => intro _ _; trivial
  | cons x l ih =>
    intro h g
    simp only [List.map_cons, Arr, List.length_map] at h g
    refine ⟨?_, ih h.2 g.2⟩
    simp only
    rw [h.1, g.1]
    omega
theorem ev_eq {ω : Om} {s : TS} {l : List Int} (hT : MT ω s) (hW : WereT ω l) : (∀ i : Nat, i < s.1.length → ω 44 i = ω 49 i ∧ ω 45 i = ω 50 i) → s.1.length = l.length → s.1 = l := by
  intro h e
  exact (Arr_ext (Arr2 hT.2.1 hT.2.2.1) (Arr2 hW.2.1 hW.2.2) e).1 (fun i hi => by rw [(h i hi).1, (h i hi).2])
theorem ev_ne {ω : Om} {s : TS} {l : List Int} (hT : MT ω s) (hW : WereT ω l) {i : Int} (hi : 0 ≤ i ∧ i < s.1.length) (h : ¬ (ω 44 i = ω 49 i ∧ ω 45 i = ω 50 i)) : ¬ s.1 = l := by
  intro e
  refine h ?_
  have := MT_at hT hi
  rw [this.1, this.2, Arr_map hW.2.1 (by rw [← e]; exact hi), Arr_map hW.2.2 (by rw [← e]; exact hi), e]
  exact ⟨rfl, rfl⟩
set_option maxRecDepth 100000 in
set_option maxHeartbeats 4000000 in
theorem l_io1 {X : Cx} {d : Nat} {Q : Option MV → Om → Prop} {ω1 : Om} {t m : Int} {s : TS} (hT : MT ω1 s) (hl : s.1.length ≤ 60) : ∀ (n k : Nat) (ω : Om), k + n = s.1.length → Fr [49, 50] ω1 ω → (∀ i : Nat, i < k → ω 49 i = ω1 44 i ∧ ω 50 i = ω1 45 i) → (∀ (ω' : Om) (z : Int), Fr [49, 50] ω1 ω' → (∀ i : Nat, i < s.1.length → ω' 49 i = ω1 44 i ∧ ω' 50 i = ω1 45 i) → JM X mX7_isOther (d + 5) Q 64 [some (vR 29), some (vI t), some (vI m), some (vI z), none] [] ω') → JM X mX7_isOther (d + 5) Q 26 [some (vR 29), some (vI t), some (vI m), some (vI k), none] [] ω := by
  have l0 := hT.1
  intro n
  induction n with
  | zero =>
    intro k ω hk hF ha hQ
    have e28 : ω 29 28 = ω1 29 28 := by rw [hF 29 (by decide)]
    refine J_iload_n 3 dX7_isOther_26 rfl ?_
    refine J_aload_n 0 dX7_isOther_27 rfl ?_
    refine J_getI 28 lkF_X7_185 rfl rfl rfl dX7_isOther_28 ?_
    refine J_icmp_ge 64 dX7_isOther_31 (by decide) (fun h31 => ?_) (fun h31 => ?_)
    · skip
      exact hQ ω k hF (fun i hi => ha i (by omega))
    · skip
      exfalso; omega
  | succ n ih =>
    intro k ω hk hF ha hQ
    have e28 : ω 29 28 = ω1 29 28 := by rw [hF 29 (by decide)]
    refine J_iload_n 3 dX7_isOther_26 rfl ?_
    refine J_aload_n 0 dX7_isOther_27 rfl ?_
    refine J_getI 28 lkF_X7_185 rfl rfl rfl dX7_isOther_28 ?_
    refine J_icmp_ge 64 dX7_isOther_31 (by decide) (fun h31 => ?_) (fun h31 => ?_)
    · skip
      exfalso; omega
    · skip
      refine J_aload_n 0 dX7_isOther_34 rfl ?_
      refine J_getR lkF_X7_68 rfl dX7_isOther_35 ?_
      refine J_iload_n 3 dX7_isOther_38 rfl ?_
      refine J_aload_n 0 dX7_isOther_39 rfl ?_
      refine J_getR lkF_X7_53 rfl dX7_isOther_40 ?_
      refine J_iload_n 3 dX7_isOther_43 rfl ?_
      refine J_iaload _ rfl rfl (by omega) dX7_isOther_44 ?_
      refine J_iastore _ rfl (by omega) dX7_isOther_45 ?_
      refine J_aload_n 0 dX7_isOther_46 rfl ?_
      refine J_getR lkF_X7_71 rfl dX7_isOther_47 ?_
      refine J_iload_n 3 dX7_isOther_50 rfl ?_
      refine J_aload_n 0 dX7_isOther_51 rfl ?_
      refine J_getR lkF_X7_56 rfl dX7_isOther_52 ?_
      refine J_iload_n 3 dX7_isOther_55 rfl ?_
      refine J_iaload _ rfl rfl (by omega) dX7_isOther_56 ?_
      try simp (config := {decide := true}) only [up_s, up_k, up_i]
      refine J_iastore _ rfl (by omega) dX7_isOther_57 ?_
      refine J_iinc_3 dX7_isOther_58 (by decide) ⟨by omega, by omega⟩ rfl ?_
      refine J_goto 26 dX7_isOther_61 (by decide) ?_
      refine ih (k + 1) _ (by omega) ((hF.up (by decide)).up (by decide)) (fun i hi => ?_) hQ
      by_cases e : i = k
      · subst e; rw [up_k (by decide), up_s, up_s, hF 44 (by decide), hF 45 (by decide)]; exact ⟨rfl, rfl⟩
      · rw [up_k (by decide), up_i (by omega), up_i (by omega), up_k (by decide)]; exact ha i (by omega)

set_option maxRecDepth 100000 in
set_option maxHeartbeats 4000000 in
theorem l_io0 {X : Cx} {d : Nat} {Q : Option MV → Om → Prop} {ω : Om} {t m k : Int} (hk : 0 ≤ k ∧ k ≤ 60) : Q (some (vI 1)) (up ω 29 7 0) → JM X mX7_isOther (d + 5) Q 98 [some (vR 29), some (vI t), some (vI m), some (vI 1), some (vI k)] [] ω := by
  intro hQ
  refine J_iload 4 dX7_isOther_98 rfl ?_
  refine J_aload_n 0 dX7_isOther_100 rfl ?_
  refine J_getI 28 lkF_X7_185 rfl rfl rfl dX7_isOther_101 ?_
  refine J_icmp_ge 157 dX7_isOther_104 (by decide) (fun h104 => ?_) (fun h104 => ?_)
  · skip
    refine J_aload_n 0 dX7_isOther_157 rfl ?_
    refine J_iconst 0 dX7_isOther_158 ⟨by decide, by decide⟩ ?_
    refine J_putI 7 lkF_X7_140 rfl fp_7_7 rfl dX7_isOther_159 ?_
    refine J_iload_n 3 dX7_isOther_162 rfl ?_
    refine JM_zret rfl (by omega) dX7_isOther_163 ?_
    exact hQ
  · skip
    refine J_iload_n 3 dX7_isOther_107 rfl ?_
    refine J_if_ne 157 dX7_isOther_108 (by decide) (fun h108 => ?_) (fun h108 => ?_)
    · skip
      refine J_aload_n 0 dX7_isOther_157 rfl ?_
      refine J_iconst 0 dX7_isOther_158 ⟨by decide, by decide⟩ ?_
      refine J_putI 7 lkF_X7_140 rfl fp_7_7 rfl dX7_isOther_159 ?_
      refine J_iload_n 3 dX7_isOther_162 rfl ?_
      refine JM_zret rfl (by omega) dX7_isOther_163 ?_
      exact hQ
    · skip
      exfalso; omega

set_option maxRecDepth 100000 in
set_option maxHeartbeats 4000000 in
theorem l_io2 {X : Cx} {d : Nat} {Q : Option MV → Om → Prop} {ω : Om} {t m : Int} {s : TS} {l : List Int} (hT : MT ω s) (hW : WereT ω l) (hl : s.1.length ≤ 60) (hll : s.1.length = l.length) : ∀ (n k : Nat), k + n = s.1.length → (∀ i : Nat, i < k → ω 44 i = ω 49 i ∧ ω 45 i = ω 50 i) → Q (some (vI (if s.1 = l then 0 else 1))) (up ω 29 7 0) → JM X mX7_isOther (d + 5) Q 98 [some (vR 29), some (vI t), some (vI m), some (vI 0), some (vI k)] [] ω := by
  have l0 := hT.1
  intro n
  induction n with
  | zero =>
    intro k hk ha hQ
    refine J_iload 4 dX7_isOther_98 rfl ?_
    refine J_aload_n 0 dX7_isOther_100 rfl ?_
    refine J_getI 28 lkF_X7_185 rfl rfl rfl dX7_isOther_101 ?_
    refine J_icmp_ge 157 dX7_isOther_104 (by decide) (fun h104 => ?_) (fun h104 => ?_)
    · skip
      refine J_aload_n 0 dX7_isOther_157 rfl ?_
      refine J_iconst 0 dX7_isOther_158 ⟨by decide, by decide⟩ ?_
      refine J_putI 7 lkF_X7_140 rfl fp_7_7 rfl dX7_isOther_159 ?_
      refine J_iload_n 3 dX7_isOther_162 rfl ?_
      refine JM_zret rfl (by omega) dX7_isOther_163 ?_
      rw [if_pos (ev_eq hT hW (fun i hi => ha i (by omega)) hll)] at hQ; exact hQ
    · skip
      exfalso; omega
  | succ n ih =>
    intro k hk ha hQ
    refine J_iload 4 dX7_isOther_98 rfl ?_
    refine J_aload_n 0 dX7_isOther_100 rfl ?_
    refine J_getI 28 lkF_X7_185 rfl rfl rfl dX7_isOther_101 ?_
    refine J_icmp_ge 157 dX7_isOther_104 (by decide) (fun h104 => ?_) (fun h104 => ?_)
    · skip
      exfalso; omega
    · skip
      refine J_iload_n 3 dX7_isOther_107 rfl ?_
      refine J_if_ne 157 dX7_isOther_108 (by decide) (fun h108 => ?_) (fun h108 => ?_)
      · skip
        exfalso; omega
      · skip
        refine J_aload_n 0 dX7_isOther_111 rfl ?_
        refine J_getR lkF_X7_53 rfl dX7_isOther_112 ?_
        refine J_iload 4 dX7_isOther_115 rfl ?_
        refine J_iaload _ rfl rfl (by omega) dX7_isOther_117 ?_
        refine J_aload_n 0 dX7_isOther_118 rfl ?_
        refine J_getR lkF_X7_68 rfl dX7_isOther_119 ?_
        refine J_iload 4 dX7_isOther_122 rfl ?_
        refine J_iaload _ rfl rfl (by omega) dX7_isOther_124 ?_
        refine J_icmp_ne 145 dX7_isOther_125 (by decide) (fun h125 => ?_) (fun h125 => ?_)
        · skip
          have hne : ¬ s.1 = l := ev_ne hT hW (i := (k : Int)) (by omega) (fun q => h125 q.1)
          refine J_iconst 1 dX7_isOther_145 ⟨by decide, by decide⟩ ?_
          refine J_goto 150 dX7_isOther_146 (by decide) ?_
          refine J_istore_3 dX7_isOther_150 (by decide) rfl ?_
          refine J_iinc_4 dX7_isOther_151 (by decide) ⟨by omega, by omega⟩ rfl ?_
          refine J_goto 98 dX7_isOther_154 (by decide) ?_
          first | (refine l_io0 (by omega) ?_; rw [if_neg hne] at hQ; exact hQ) | (refine ih (k + 1) (by omega) (fun i hi => ?_) hQ; by_cases e : i = k; (subst e; exact ⟨by omega, h142⟩); exact ha i (by omega))
        · skip
          refine J_aload_n 0 dX7_isOther_128 rfl ?_
          refine J_getR lkF_X7_56 rfl dX7_isOther_129 ?_
          refine J_iload 4 dX7_isOther_132 rfl ?_
          refine J_iaload _ rfl rfl (by omega) dX7_isOther_134 ?_
          refine J_aload_n 0 dX7_isOther_135 rfl ?_
          refine J_getR lkF_X7_71 rfl dX7_isOther_136 ?_
          refine J_iload 4 dX7_isOther_139 rfl ?_
          refine J_iaload _ rfl rfl (by omega) dX7_isOther_141 ?_
          refine J_icmp_eq 149 dX7_isOther_142 (by decide) (fun h142 => ?_) (fun h142 => ?_)
          · skip
            refine J_iconst 0 dX7_isOther_149 ⟨by decide, by decide⟩ ?_
            refine J_istore_3 dX7_isOther_150 (by decide) rfl ?_
            refine J_iinc_4 dX7_isOther_151 (by decide) ⟨by omega, by omega⟩ rfl ?_
            refine J_goto 98 dX7_isOther_154 (by decide) ?_
            first | (refine l_io0 (by omega) ?_; rw [if_neg hne] at hQ; exact hQ) | (refine ih (k + 1) (by omega) (fun i hi => ?_) hQ; by_cases e : i = k; (subst e; exact ⟨by omega, h142⟩); exact ha i (by omega))
          · skip
            have hne : ¬ s.1 = l := ev_ne hT hW (i := (k : Int)) (by omega) (fun q => h142 q.2)
            refine J_iconst 1 dX7_isOther_145 ⟨by decide, by decide⟩ ?_
            refine J_goto 150 dX7_isOther_146 (by decide) ?_
            refine J_istore_3 dX7_isOther_150 (by decide) rfl ?_
            refine J_iinc_4 dX7_isOther_151 (by decide) ⟨by omega, by omega⟩ rfl ?_
            refine J_goto 98 dX7_isOther_154 (by decide) ?_
            first | (refine l_io0 (by omega) ?_; rw [if_neg hne] at hQ; exact hQ) | (refine ih (k + 1) (by omega) (fun i hi => ?_) hQ; by_cases e : i = k; (subst e; exact ⟨by omega, h142⟩); exact ha i (by omega))

theorem MT_u9 {ω : Om} {s : TS} (h : MT ω s) {i z : Int} (h1 : i ≠ 28) (h2 : i ≠ 31) (h3 : i ≠ 32) : MT (up ω 29 i z) s := by
  obtain ⟨a1, a2, a3, d, e, f, g, j⟩ := h
  refine ⟨by rw [up_i (by omega)]; exact a1, ?_, ?_, by rw [up_i (by omega)]; exact d, ?_, ?_, ?_, by rw [up_i (by omega)]; exact j⟩ <;> (rw [up_f (by decide)]; assumption)
theorem OF.f {a b : Om} (h : Fr [49, 50] a b) : OF a b := ⟨h.mono (by decide), fun i _ _ _ _ _ => by rw [h 29 (by decide)]⟩
theorem WereT_cp {ω1 ω2 ω3 : Om} {s : TS} (hT : MT ω1 s) (h36 : ω3 29 36 = ω1 29 28) (h49 : ω3 49 = ω2 49) (h50 : ω3 50 = ω2 50) (h : ∀ i : Nat, i < s.1.length → ω2 49 i = ω1 44 i ∧ ω2 50 i = ω1 45 i) : WereT ω3 s.1 := by
  refine ⟨by rw [h36]; exact hT.1, ?_, ?_⟩
  · rw [h49]; exact Arr_cg (fun i hi => (h i (by rw [List.length_map] at hi; exact hi)).1) hT.2.1
  · rw [h50]; exact Arr_cg (fun i hi => (h i (by rw [List.length_map] at hi; exact hi)).2) hT.2.2.1
def othN (τ σ : Om) (t m : Int) : Int := if ¬ trT τ t m = none ∧ ¬ evO (trT σ t m) = evO (trT τ t m) then 1 else 0
set_option maxRecDepth 100000 in
set_option maxHeartbeats 4000000 in
theorem kX7_isOther {X : Cx} {d : Nat} {ω : Om} {Q : Option MV → Om → Prop} {t m : Int} (hW0 : WfT (vw 0 ω)) (hW1 : WfT (vw 1 ω)) (ht : 0 ≤ t ∧ t < ω 29 2) (hm : 0 ≤ m ∧ m < 6) (hQ : ∀ ω', OF ω ω' → ω' 29 7 = 0 → Q (some (vI (othN (vw 0 ω) (vw 1 ω) t m))) ω') : Mc X mX7_isOther (d + 5) [vR 29, vI t, vI m] ω Q := by
  have n8 := n8_vw hW0
  have hO1 : OF ω (up ω 29 7 0) := (OF.rf ω).u9 (by omega)
  unfold othN at hQ
  refine Mc_of [some (vR 29), some (vI t), some (vI m), none, none] (by decide +kernel) rfl (Nat.le_of_ble_eq_true rfl) ?_
  refine J_aload_n 0 dX7_isOther_0 rfl ?_
  refine J_iconst 0 dX7_isOther_1 ⟨by decide, by decide⟩ ?_
  refine J_putI 7 lkF_X7_140 rfl fp_7_7 rfl dX7_isOther_2 ?_
  refine J_aload_n 0 dX7_isOther_5 rfl ?_
  refine J_iload_n 1 dX7_isOther_6 rfl ?_
  refine J_iload_n 2 dX7_isOther_7 rfl ?_
  refine JM_V2 lkM_X7_211 rcv_29 dX7_isOther_8 (by decide) (Nat.le_of_ble_eq_true rfl) ?_
  refine kX7_layTrace (s := 0) up_s (by decide) (by rw [hO1.v]; exact hW0) (by rw [up_i (by decide)]; exact ht) hm (fun r1 ω1 m1 f1 => ?_)
  rw [hO1.v] at m1
  have hO2 : OF ω ω1 := hO1.tr f1.o
  have h71 : ω1 29 7 = 0 := by rw [f1.2 7 (by decide) (by decide) (by decide)]; exact up_s
  refine J_if_ne 16 dX7_isOther_11 (by decide) (fun h11 => ?_) (fun h11 => ?_)
  · skip
    obtain ⟨s, hto, hTs, hws⟩ : ∃ s, trT (vw 0 ω) t m = some s ∧ MT ω1 s ∧ TW s := by
      rcases RunM_ev m1 with ⟨q, _⟩ | ⟨_, q⟩
      · exact absurd q h11
      · exact q
    have hl60 := hws.2.2.2.2
    have hl1 := hTs.1
    rw [hto] at hQ
    refine J_aload_n 0 dX7_isOther_16 rfl ?_
    refine J_aload_n 0 dX7_isOther_17 rfl ?_
    refine J_getI 28 lkF_X7_185 rfl rfl rfl dX7_isOther_18 ?_
    try simp (config := {decide := true}) only [up_s, up_k, up_i]
    refine J_putI 36 lkF_X7_227 rfl fp_7_36 rfl dX7_isOther_21 ?_
    refine J_iconst 0 dX7_isOther_24 ⟨by decide, by decide⟩ ?_
    refine J_istore_3 dX7_isOther_25 (by decide) rfl ?_
    refine l_io1 (MT_u9 hTs (by decide) (by decide) (by decide)) hl60 s.1.length 0 _ (by omega) Fr.rf (fun i hi => by omega) (fun ω2 z hF hcp => ?_)
    have hO3 : OF ω ω2 := (hO2.u9 (by omega)).tr (OF.f hF)
    have hO4 : OF ω (up ω2 29 7 1) := hO3.u9 (by omega)
    refine J_aload_n 0 dX7_isOther_64 rfl ?_
    refine J_iconst 1 dX7_isOther_65 ⟨by decide, by decide⟩ ?_
    refine J_putI 7 lkF_X7_140 rfl fp_7_7 rfl dX7_isOther_66 ?_
    refine J_aload_n 0 dX7_isOther_69 rfl ?_
    refine J_iload_n 1 dX7_isOther_70 rfl ?_
    refine J_iload_n 2 dX7_isOther_71 rfl ?_
    refine JM_V2 lkM_X7_211 rcv_29 dX7_isOther_72 (by decide) (Nat.le_of_ble_eq_true rfl) ?_
    refine kX7_layTrace (s := 1) up_s (by decide) (by rw [hO4.v]; exact hW1) (by rw [hO4.2 2 (by decide) (by decide) (by decide) (by decide) (by decide)]; exact ht) hm (fun r3 ω3 m3 f3 => ?_)
    rw [hO4.v] at m3
    have hO5 : OF ω ω3 := hO4.tr f3.o
    have hWe : WereT ω3 s.1 := WereT_cp hTs (by rw [f3.2 36 (by decide) (by decide) (by decide), up_i (by decide), hF 29 (by decide), up_s]) (by rw [f3.1 49 (by decide), up_f (by decide)]) (by rw [f3.1 50 (by decide), up_f (by decide)]) (fun i hi => by have := hcp i hi; rw [up_k (by decide), up_k (by decide)] at this; exact this)
    have hw36 := hWe.1
    have e := hQ (up ω3 29 7 0) (hO5.u9 (by omega)) up_s
    refine J_if_eq 89 dX7_isOther_75 (by decide) (fun h75 => ?_) (fun h75 => ?_)
    · skip
      have hno : trT (vw 1 ω) t m = none := by
        rcases RunM_ev m3 with ⟨_, q, _⟩ | ⟨q, _⟩
        · exact q
        · omega
      rw [hno, if_pos ⟨by simp, by simp [evO]⟩] at e
      refine J_iconst 1 dX7_isOther_89 ⟨by decide, by decide⟩ ?_
      refine J_goto 94 dX7_isOther_90 (by decide) ?_
      refine J_istore_3 dX7_isOther_94 (by decide) rfl ?_
      refine J_iconst 0 dX7_isOther_95 ⟨by decide, by decide⟩ ?_
      refine J_istore_4 dX7_isOther_96 (by decide) rfl ?_
      first
        | exact l_io0 (by omega) e
        | (refine l_io2 hT3 hWe hl360 (by omega) s3.1.length 0 (by omega) (fun i hi => by omega) ?_
           by_cases q : s3.1 = s.1
           · rw [if_neg (by rw [show evO (some s3) = evO (some s) from by simp only [evO, Option.map_some, q]]; simp)] at e
             rw [if_pos q]; exact e
           · rw [if_pos ⟨by simp, by simp only [evO, Option.map_some]; intro w; exact q (Option.some.inj w)⟩] at e
             rw [if_neg q]; exact e)
    · skip
      obtain ⟨s3, hto3, hT3, hw3⟩ : ∃ s, trT (vw 1 ω) t m = some s ∧ MT ω3 s ∧ TW s := by
        rcases RunM_ev m3 with ⟨q, _⟩ | ⟨_, q⟩
        · exact absurd q h75
        · exact q
      have hl3 := hT3.1
      have hl360 := hw3.2.2.2.2
      rw [hto3] at e
      clear m3 hcp
      refine J_aload_n 0 dX7_isOther_78 rfl ?_
      refine J_getI 28 lkF_X7_185 rfl rfl rfl dX7_isOther_79 ?_
      try simp (config := {decide := true}) only [up_s, up_k, up_i]
      refine J_aload_n 0 dX7_isOther_82 rfl ?_
      refine J_getI 36 lkF_X7_227 rfl rfl rfl dX7_isOther_83 ?_
      try simp (config := {decide := true}) only [up_s, up_k, up_i]
      refine J_icmp_eq 93 dX7_isOther_86 (by decide) (fun h86 => ?_) (fun h86 => ?_)
      · skip
        refine J_iconst 0 dX7_isOther_93 ⟨by decide, by decide⟩ ?_
        refine J_istore_3 dX7_isOther_94 (by decide) rfl ?_
        refine J_iconst 0 dX7_isOther_95 ⟨by decide, by decide⟩ ?_
        refine J_istore_4 dX7_isOther_96 (by decide) rfl ?_
        first
          | exact l_io0 (by omega) e
          | (refine l_io2 hT3 hWe hl360 (by omega) s3.1.length 0 (by omega) (fun i hi => by omega) ?_
             by_cases q : s3.1 = s.1
             · rw [if_neg (by rw [show evO (some s3) = evO (some s) from by simp only [evO, Option.map_some, q]]; simp)] at e
               rw [if_pos q]; exact e
             · rw [if_pos ⟨by simp, by simp only [evO, Option.map_some]; intro w; exact q (Option.some.inj w)⟩] at e
               rw [if_neg q]; exact e)
      · skip
        rw [if_pos ⟨by simp, by simp only [evO, Option.map_some]; intro q; have := congrArg List.length (Option.some.inj q); omega⟩] at e
        refine J_iconst 1 dX7_isOther_89 ⟨by decide, by decide⟩ ?_
        refine J_goto 94 dX7_isOther_90 (by decide) ?_
        refine J_istore_3 dX7_isOther_94 (by decide) rfl ?_
        refine J_iconst 0 dX7_isOther_95 ⟨by decide, by decide⟩ ?_
        refine J_istore_4 dX7_isOther_96 (by decide) rfl ?_
        first
          | exact l_io0 (by omega) e
          | (refine l_io2 hT3 hWe hl360 (by omega) s3.1.length 0 (by omega) (fun i hi => by omega) ?_
             by_cases q : s3.1 = s.1
             · rw [if_neg (by rw [show evO (some s3) = evO (some s) from by simp only [evO, Option.map_some, q]]; simp)] at e
               rw [if_pos q]; exact e
             · rw [if_pos ⟨by simp, by simp only [evO, Option.map_some]; intro w; exact q (Option.some.inj w)⟩] at e
               rw [if_neg q]; exact e)
  · skip
    have hno : trT (vw 0 ω) t m = none := by
      rcases RunM_ev m1 with ⟨_, q, _⟩ | ⟨q, _⟩
      · exact q
      · omega
    refine J_iconst 0 dX7_isOther_14 ⟨by decide, by decide⟩ ?_
    refine JM_zret rfl (by omega) dX7_isOther_15 ?_
    have e := hQ ω1 hO2 h71
    rw [if_neg (fun q => q.1 hno)] at e
    exact e

set_option maxRecDepth 100000 in
set_option maxHeartbeats 4000000 in
theorem l_wtr1 {X : Cx} {d : Nat} {Q : Option MV → Om → Prop} {ω0 : Om} {t : Nat} (hW0 : WfT (vw 0 ω0)) (hW1 : WfT (vw 1 ω0)) (ht : (t : Int) < ω0 29 2) : ∀ (n m : Nat) (ω : Om), m + n = 6 → OF ω0 ω → ω 29 7 = 0 → (∀ ω', OF ω0 ω' → ω' 29 7 = 0 → Q (some (vI (firstC (vw 0 ω0) (vw 1 ω0) (6 * (ω0 29 2).toNat - (6 * t + m)) (6 * t + m)))) ω') → (∀ (ω' : Om) (x : Int), OF ω0 ω' → ω' 29 7 = 0 → firstC (vw 0 ω0) (vw 1 ω0) (6 * (ω0 29 2).toNat - (6 * t + m)) (6 * t + m) = firstC (vw 0 ω0) (vw 1 ω0) (6 * (ω0 29 2).toNat - 6 * (t + 1)) (6 * (t + 1)) → JM X mX7_whereTried (d + 6) Q 49 [some (vR 29), some (vI t), some (vI x)] [] ω') → JM X mX7_whereTried (d + 6) Q 12 [some (vR 29), some (vI t), some (vI m)] [] ω := by
  intro n
  have n8 := n8_vw hW0
  induction n with
  | zero =>
    intro m ω hm hF h7 hQ hK
    have e6 : m = 6 := by omega
    subst e6
    refine J_iload_n 2 dX7_whereTried_12 rfl ?_
    refine J_bipush 6 dX7_whereTried_13 ⟨by decide, by decide⟩ (by decide) ?_
    refine J_icmp_ge 49 dX7_whereTried_15 (by decide) (fun h15 => ?_) (fun h15 => ?_)
    · skip
      exact hK ω _ hF h7 (by rw [show 6 * (t + 1) = 6 * t + 6 from by omega])
    · skip
      exfalso; omega
  | succ n ih =>
    intro m ω hm hF h7 hQ hK
    have hk6 : (6 * t + m) / 6 = t := by omega
    have hm6 : (6 * t + m) % 6 = m := by omega
    have hsz : 6 * (ω0 29 2).toNat - (6 * t + m) = (6 * (ω0 29 2).toNat - (6 * t + (m + 1))) + 1 := by omega
    have e32 : ω 32 = ω0 32 := hF.1 32 (by decide)
    have hhol : hol (vw 0 ω0) t = if ω0 32 t = 0 then 0 else 1 := by
      unfold hol
      rw [vw37, vw13]
      by_cases q : ω0 32 t = 0
      · rw [if_pos q, if_neg (fun w => w.2.2.2 q)]
      · rw [if_neg q, if_pos ⟨by omega, by omega, by omega, q⟩]
    refine J_iload_n 2 dX7_whereTried_12 rfl ?_
    refine J_bipush 6 dX7_whereTried_13 ⟨by decide, by decide⟩ (by decide) ?_
    refine J_icmp_ge 49 dX7_whereTried_15 (by decide) (fun h15 => ?_) (fun h15 => ?_)
    · skip
      exfalso; omega
    · skip
      refine J_aload_n 0 dX7_whereTried_18 rfl ?_
      refine J_getR lkF_X7_16 rfl dX7_whereTried_19 ?_
      refine J_iload_n 1 dX7_whereTried_22 rfl ?_
      refine J_baload _ rfl rfl (by omega) dX7_whereTried_23 ?_
      rw [e32]
      refine J_if_ne 49 dX7_whereTried_24 (by decide) (fun h24 => ?_) (fun h24 => ?_)
      · skip
        have hsk := firstC_skip (τ := vw 0 ω0) (σ := vw 1 ω0) (6 - m) (6 * (ω0 29 2).toNat - 6 * (t + 1)) (6 * t + m) (fun j hj => chg_hol (by rw [show (6 * t + m + j) / 6 = t from by omega, hhol, if_neg h24]; decide))
        rw [show 6 * (ω0 29 2).toNat - 6 * (t + 1) + (6 - m) = 6 * (ω0 29 2).toNat - (6 * t + m) from by omega, show 6 * t + m + (6 - m) = 6 * (t + 1) from by omega] at hsk
        exact hK ω _ hF h7 hsk
      · skip
        rw [if_pos (by omega)] at hhol
        refine J_aload_n 0 dX7_whereTried_27 rfl ?_
        refine J_iload_n 1 dX7_whereTried_28 rfl ?_
        refine J_iload_n 2 dX7_whereTried_29 rfl ?_
        refine JM_V2 lkM_X7_230 rcv_29 dX7_whereTried_30 (by decide) (Nat.le_of_ble_eq_true rfl) ?_
        refine kX7_isOther (by rw [hF.v]; exact hW0) (by rw [hF.v]; exact hW1) (by rw [hF.2 2 (by decide) (by decide) (by decide) (by decide) (by decide)]; omega) (by omega) (fun ω1 f1 h71 => ?_)
        rw [hF.v, hF.v]
        unfold othN
        refine J_if_eq 43 dX7_whereTried_33 (by decide) (fun h33 => ?_) (fun h33 => ?_)
        · skip
          have hc : chg (vw 0 ω0) (vw 1 ω0) (6 * t + m) = false := by
            unfold chg
            rw [hk6, hm6]
            by_cases q : ¬ trT (vw 0 ω0) t m = none ∧ ¬ evO (trT (vw 1 ω0) t m) = evO (trT (vw 0 ω0) t m)
            · rw [if_pos q] at h33; exact absurd h33 (by decide)
            · by_cases q1 : trT (vw 0 ω0) t m = none
              · simp [q1]
              · have q2 : evO (trT (vw 1 ω0) t m) = evO (trT (vw 0 ω0) t m) := Classical.byContradiction (fun w => q ⟨q1, w⟩)
                simp [q2]
          refine J_iinc_2 dX7_whereTried_43 (by decide) ⟨by omega, by omega⟩ rfl ?_
          refine J_goto 12 dX7_whereTried_46 (by decide) ?_
          rw [hsz] at hQ hK
          simp only [firstC] at hQ hK
          rw [if_neg (by rw [hc]; decide)] at hQ hK
          exact ih (m + 1) ω1 (by omega) (hF.tr f1) h71 hQ hK
        · skip
          have hc : chg (vw 0 ω0) (vw 1 ω0) (6 * t + m) = true := by
            unfold chg
            rw [hk6, hm6]
            by_cases q : ¬ trT (vw 0 ω0) t m = none ∧ ¬ evO (trT (vw 1 ω0) t m) = evO (trT (vw 0 ω0) t m)
            · simp [q.1, q.2, hhol]
            · rw [if_neg q] at h33; exact absurd rfl h33
          rw [hsz] at hQ
          simp only [firstC] at hQ
          rw [if_pos hc] at hQ
          refine J_bipush 6 dX7_whereTried_36 ⟨by decide, by decide⟩ (by decide) ?_
          refine J_iload_n 1 dX7_whereTried_38 rfl ?_
          refine J_imul dX7_whereTried_39 ⟨by omega, by omega⟩ ?_
          refine J_iload_n 2 dX7_whereTried_40 rfl ?_
          refine J_iadd dX7_whereTried_41 ⟨by omega, by omega⟩ ?_
          refine JM_iret rfl dX7_whereTried_42 ?_
          have e := hQ ω1 (hF.tr f1) h71
          rw [show ((6 * t + m : Nat) : Int) = 6 * (t : Int) + m from by omega] at e
          exact e

set_option maxRecDepth 100000 in
set_option maxHeartbeats 4000000 in
theorem l_wtr2 {X : Cx} {d : Nat} {Q : Option MV → Om → Prop} {ω0 : Om} (hW0 : WfT (vw 0 ω0)) (hW1 : WfT (vw 1 ω0)) : ∀ (n t : Nat) (ω : Om) (x : Option MV), t + n = (ω0 29 2).toNat → OF ω0 ω → ω 29 7 = 0 → (∀ ω', OF ω0 ω' → ω' 29 7 = 0 → Q (some (vI (firstC (vw 0 ω0) (vw 1 ω0) (6 * (ω0 29 2).toNat - 6 * t) (6 * t)))) ω') → JM X mX7_whereTried (d + 6) Q 2 [some (vR 29), some (vI t), x] [] ω := by
  intro n
  have n8 := n8_vw hW0
  induction n with
  | zero =>
    intro t ω x ht hF hs7 hQ
    have e2 : ω 29 2 = ω0 29 2 := hF.2 2 (by decide) (by decide) (by decide) (by decide) (by decide)
    refine J_iload_n 1 dX7_whereTried_2 rfl ?_
    refine J_aload_n 0 dX7_whereTried_3 rfl ?_
    refine J_getI 2 lkF_X7_112 rfl rfl rfl dX7_whereTried_4 ?_
    refine J_icmp_ge 55 dX7_whereTried_7 (by decide) (fun h7 => ?_) (fun h7 => ?_)
    · skip
      refine J_iconst (-1) dX7_whereTried_55 ⟨by decide, by decide⟩ ?_
      refine JM_iret rfl dX7_whereTried_56 ?_
      have e := hQ ω hF hs7
      rw [show 6 * (ω0 29 2).toNat - 6 * t = 0 from by omega] at e
      exact e
    · skip
      exfalso; omega
  | succ n ih =>
    intro t ω x ht hF hs7 hQ
    have e2 : ω 29 2 = ω0 29 2 := hF.2 2 (by decide) (by decide) (by decide) (by decide) (by decide)
    refine J_iload_n 1 dX7_whereTried_2 rfl ?_
    refine J_aload_n 0 dX7_whereTried_3 rfl ?_
    refine J_getI 2 lkF_X7_112 rfl rfl rfl dX7_whereTried_4 ?_
    refine J_icmp_ge 55 dX7_whereTried_7 (by decide) (fun h7 => ?_) (fun h7 => ?_)
    · skip
      exfalso; omega
    · skip
      refine J_iconst 0 dX7_whereTried_10 ⟨by decide, by decide⟩ ?_
      refine J_istore_2 dX7_whereTried_11 (by decide) rfl ?_
      refine l_wtr1 hW0 hW1 (by omega) 6 0 ω (by omega) hF hs7 hQ (fun ω1 x1 f1 h71 hfc => ?_)
      simp only [Nat.add_zero] at hfc
      refine J_iinc_1 dX7_whereTried_49 (by decide) ⟨by omega, by omega⟩ rfl ?_
      refine J_goto 2 dX7_whereTried_52 (by decide) ?_
      exact ih (t + 1) ω1 _ (by omega) f1 h71 (fun ω2 f2 h72 => by rw [← hfc]; exact hQ ω2 f2 h72)

set_option maxRecDepth 100000 in
set_option maxHeartbeats 4000000 in
theorem kX7_whereTried {X : Cx} {d : Nat} {ω : Om} {Q : Option MV → Om → Prop} (hW0 : WfT (vw 0 ω)) (hW1 : WfT (vw 1 ω)) (h7 : ω 29 7 = 0) (hQ : ∀ ω', OF ω ω' → ω' 29 7 = 0 → Q (some (vI (firstC (vw 0 ω) (vw 1 ω) (6 * (ω 29 2).toNat) 0))) ω') : Mc X mX7_whereTried (d + 6) [vR 29] ω Q := by
  have n8 := n8_vw hW0
  refine Mc_of [some (vR 29), none, none] (by decide +kernel) rfl (Nat.le_of_ble_eq_true rfl) ?_
  refine J_iconst 0 dX7_whereTried_0 ⟨by decide, by decide⟩ ?_
  refine J_istore_1 dX7_whereTried_1 (by decide) rfl ?_
  exact l_wtr2 hW0 hW1 (ω 29 2).toNat 0 ω none (by omega) (OF.rf ω) h7 (fun ω1 f1 h71 => by simp only [Nat.mul_zero, Nat.sub_zero]; exact hQ ω1 f1 h71)

/-- what a try of a move may change -/
def MP0 (ω ω' : Om) : Prop := Fr [29, 33, 34, 44, 45, 46, 47, 48, 49, 50] ω ω' ∧ (∀ i, i ≠ 7 → i ≠ 28 → i ≠ 31 → i ≠ 32 → i ≠ 36 → ω' 29 i = ω 29 i) ∧ (ω 29 7 = 0 → ω' 29 7 = 0) ∧ (∀ i, i < 96 → ω' 33 i = ω 33 i) ∧ (∀ i, i < 8 → ω' 34 i = ω 34 i)
theorem MP0.rf (ω : Om) : MP0 ω ω := ⟨Fr.rf, fun _ _ _ _ _ _ => rfl, id, fun _ _ => rfl, fun _ _ => rfl⟩
theorem MP0.tr {a b c : Om} (h : MP0 a b) (g : MP0 b c) : MP0 a c := ⟨h.1.tr g.1, fun i x y z w v => (g.2.1 i x y z w v).trans (h.2.1 i x y z w v), fun q => g.2.2.1 (h.2.2.1 q), fun i q => (g.2.2.2.1 i q).trans (h.2.2.2.1 i q), fun i q => (g.2.2.2.2 i q).trans (h.2.2.2.2 i q)⟩
theorem TyI.p {a b : Om} (h : TyI a b) : MP0 a b := ⟨h.1.mono (by decide), fun i _ _ _ _ _ => by rw [h.1 29 (by decide)], fun q => by rw [h.1 29 (by decide)]; exact q, h.2.1, h.2.2⟩
theorem OF.p {a b : Om} (h : OF a b) (h7 : b 29 7 = 0) : MP0 a b := ⟨h.1.mono (by decide), h.2, fun _ => h7, fun i _ => by rw [h.1 33 (by decide)], fun i _ => by rw [h.1 34 (by decide)]⟩
theorem MP0.q {ω ω' : Om} (hn : ω 29 2 ≤ 8) (h : MP0 ω ω') : TQ (vw 0 ω) (vw 0 ω') := by
  obtain ⟨f, f9, _, f33, f34⟩ := h
  refine ⟨f9 2 (by decide) (by decide) (by decide) (by decide) (by decide), f9 8 (by decide) (by decide) (by decide) (by decide) (by decide), fun t t0 t1 => ⟨by rw [vw12, vw12, f 31 (by decide)], by rw [vw13, vw13, f 32 (by decide)], ?_⟩, fun t m t0 t1 m0 m1 => ?_, fun b _ _ => by rw [vw17, vw17, f 36 (by decide)], fun b k _ _ _ _ => by rw [vw18, vw18, f 37 (by decide)]⟩
  · rw [vw37] at t1
    rw [vw15, vw15]; exact f34 _ (by omega)
  · rw [vw37] at t1
    rw [vw14, vw14]; exact f33 _ (by omega)
theorem MP0.w {ω ω' : Om} (hM : MW ω) (h : MP0 ω ω') : MW ω' := ⟨WfT_TQ (h.q (n8_vw hM.1).2) hM.1, h.2.2.1 hM.2⟩
theorem plain_ok {τ : Om} {t m u : Int} (h : plainT τ t m u = 0) : ¬ hb τ t m = -1 ∧ (¬ u = 0 → ¬ pr τ t = -1) := by
  unfold plainT at h
  by_cases q : hb τ t m = -1
  · rw [if_pos q] at h; omega
  · rw [if_neg q] at h
    refine ⟨q, fun hu hp => ?_⟩
    rw [if_neg hu, if_pos hp] at h
    omega
set_option maxRecDepth 100000 in
set_option maxHeartbeats 4000000 in
theorem kX7_whereNow {X : Cx} {d : Nat} {ω : Om} {Q : Option MV → Om → Prop} {t m u : Int} (hM : MW ω) (ht : 0 ≤ t ∧ t < ω 29 2) (hm : 0 ≤ m ∧ m < 12) (hQ : ∀ ω', MP0 ω ω' → (plainT (vw 0 ω) t m u = 0 → TQ (mvT (vw 0 ω) t m u) (vw 1 ω')) → Q (some (vI (whereT (vw 0 ω) t m u))) ω') : Mc X mX7_whereNow (d + 7) [vR 29, vI t, vI m, vI u] ω Q := by
  have n8 := n8_vw hM.1
  refine Mc_of [some (vR 29), some (vI t), some (vI m), some (vI u)] (by decide +kernel) rfl (Nat.le_of_ble_eq_true rfl) ?_
  refine J_aload_n 0 dX7_whereNow_0 rfl ?_
  refine J_iload_n 1 dX7_whereNow_1 rfl ?_
  refine J_iload_n 2 dX7_whereNow_2 rfl ?_
  refine J_iload_n 3 dX7_whereNow_3 rfl ?_
  refine JM_V3 lkM_X7_233 rcv_29 dX7_whereNow_4 (by decide) (Nat.le_of_ble_eq_true rfl) ?_
  refine kX7_plainWhy hM ht hm ?_
  refine J_if_eq 12 dX7_whereNow_7 (by decide) (fun h7 => ?_) (fun h7 => ?_)
  · skip
    refine J_aload_n 0 dX7_whereNow_12 rfl ?_
    refine J_iload_n 1 dX7_whereNow_13 rfl ?_
    refine J_iload_n 2 dX7_whereNow_14 rfl ?_
    refine J_iload_n 3 dX7_whereNow_15 rfl ?_
    refine JM_V3 lkM_X7_237 rcv_29 dX7_whereNow_16 (by decide) (Nat.le_of_ble_eq_true rfl) ?_
    have hpl := plain_ok (show plainT (vw 0 ω) t m u = 0 from h7)
    refine kX7_tryMove hM.1 ht hm hpl.1 hpl.2 (fun ω1 q1 i1 => ?_)
    have hTQ0 := i1.p.q n8.2
    have hWm := mvT_wf hM.1 (t := t) (m := m) (u := u) ht hm hpl.1
    refine J_aload_n 0 dX7_whereNow_19 rfl ?_
    refine JM_V0 lkM_X7_241 rcv_29 dX7_whereNow_20 (by decide) (Nat.le_of_ble_eq_true rfl) ?_
    refine kX7_whereTried (WfT_TQ hTQ0 hM.1) (WfT_TQ q1 hWm) (i1.p.2.2.1 hM.2) (fun ω2 o2 h72 => ?_)
    refine JM_iret rfl dX7_whereNow_23 ?_
    have e := hQ ω2 (i1.p.tr (o2.p h72)) (fun _ => by rw [o2.v]; exact q1)
    unfold whereT at e
    rw [if_pos h7, vw37] at e
    rw [firstC_TQ hTQ0 q1, show ω1 29 2 = ω 29 2 from by rw [i1.1 29 (by decide)]]
    exact e
  · skip
    refine J_iconst (-1) dX7_whereNow_10 ⟨by decide, by decide⟩ ?_
    refine JM_iret rfl dX7_whereNow_11 ?_
    have e := hQ ω (MP0.rf ω) (fun q => absurd q h7)
    unfold whereT at e
    rw [if_neg h7] at e
    exact e

set_option maxRecDepth 100000 in
set_option maxHeartbeats 4000000 in
theorem kX7_whyNow {X : Cx} {d : Nat} {ω : Om} {Q : Option MV → Om → Prop} {t m u : Int} (hM : MW ω) (ht : 0 ≤ t ∧ t < ω 29 2) (hm : 0 ≤ m ∧ m < 12) (hQ : ∀ ω', MP0 ω ω' → (plainT (vw 0 ω) t m u = 0 → TQ (mvT (vw 0 ω) t m u) (vw 1 ω')) → Q (some (vI (whyT (vw 0 ω) t m u))) ω') : Mc X mX7_whyNow (d + 8) [vR 29, vI t, vI m, vI u] ω Q := by
  have n8 := n8_vw hM.1
  refine Mc_of [some (vR 29), some (vI t), some (vI m), some (vI u), none] (by decide +kernel) rfl (Nat.le_of_ble_eq_true rfl) ?_
  refine J_aload_n 0 dX7_whyNow_0 rfl ?_
  refine J_iload_n 1 dX7_whyNow_1 rfl ?_
  refine J_iload_n 2 dX7_whyNow_2 rfl ?_
  refine J_iload_n 3 dX7_whyNow_3 rfl ?_
  refine JM_V3 lkM_X7_233 rcv_29 dX7_whyNow_4 (by decide) (Nat.le_of_ble_eq_true rfl) ?_
  refine kX7_plainWhy hM ht hm ?_
  refine J_istore_4 dX7_whyNow_7 (by decide) rfl ?_
  refine J_iload 4 dX7_whyNow_9 rfl ?_
  refine J_if_eq 19 dX7_whyNow_11 (by decide) (fun h11 => ?_) (fun h11 => ?_)
  · skip
    refine J_aload_n 0 dX7_whyNow_19 rfl ?_
    refine J_iload_n 1 dX7_whyNow_20 rfl ?_
    refine J_iload_n 2 dX7_whyNow_21 rfl ?_
    refine J_iload_n 3 dX7_whyNow_22 rfl ?_
    refine JM_V3 lkM_X7_244 rcv_29 dX7_whyNow_23 (by decide) (Nat.le_of_ble_eq_true rfl) ?_
    refine kX7_whereNow hM ht hm (fun ω1 p1 q1 => ?_)
    refine J_iconst (-1) dX7_whyNow_26 ⟨by decide, by decide⟩ ?_
    refine J_icmp_ne 34 dX7_whyNow_27 (by decide) (fun h27 => ?_) (fun h27 => ?_)
    · skip
      refine J_iconst 4 dX7_whyNow_34 ⟨by decide, by decide⟩ ?_
      refine JM_iret rfl dX7_whyNow_35 ?_
      first
        | (have e := hQ ω (MP0.rf ω) (fun q => absurd q h11); unfold whyT at e; rw [if_neg h11] at e; exact e)
        | (have e := hQ ω1 p1 q1
           unfold whyT at e
           rw [if_pos h11] at e
           first
             | (rw [if_pos (by omega)] at e; exact e)
             | (rw [if_neg (by omega)] at e; exact e))
    · skip
      refine J_iconst 0 dX7_whyNow_30 ⟨by decide, by decide⟩ ?_
      refine J_goto 35 dX7_whyNow_31 (by decide) ?_
      refine JM_iret rfl dX7_whyNow_35 ?_
      first
        | (have e := hQ ω (MP0.rf ω) (fun q => absurd q h11); unfold whyT at e; rw [if_neg h11] at e; exact e)
        | (have e := hQ ω1 p1 q1
           unfold whyT at e
           rw [if_pos h11] at e
           first
             | (rw [if_pos (by omega)] at e; exact e)
             | (rw [if_neg (by omega)] at e; exact e))
  · skip
    refine J_iload 4 dX7_whyNow_14 rfl ?_
    refine J_goto 35 dX7_whyNow_16 (by decide) ?_
    refine JM_iret rfl dX7_whyNow_35 ?_
    first
      | (have e := hQ ω (MP0.rf ω) (fun q => absurd q h11); unfold whyT at e; rw [if_neg h11] at e; exact e)
      | (have e := hQ ω1 p1 q1
         unfold whyT at e
         rw [if_pos h11] at e
         first
           | (rw [if_pos (by omega)] at e; exact e)
           | (rw [if_neg (by omega)] at e; exact e))

set_option maxRecDepth 100000 in
set_option maxHeartbeats 4000000 in
theorem kX7_why {X : Cx} {d : Nat} {ω : Om} {Q : Option MV → Om → Prop} {t m u : Int} (hM : MW ω) (hQ : ∀ ω', MP0 ω ω' → Q (some (vI (aWhy (vw 0 ω) t m u))) ω') : Mc X mX7_why (d + 9) [vR 29, vI t, vI m, vI u] ω Q := by
  have n8 := n8_vw hM.1
  unfold aWhy at hQ
  rw [vw37] at hQ
  refine Mc_of [some (vR 29), some (vI t), some (vI m), some (vI u)] (by decide +kernel) rfl (Nat.le_of_ble_eq_true rfl) ?_
  refine J_aload_n 0 dX7_why_0 rfl ?_
  refine J_iload_n 1 dX7_why_1 rfl ?_
  refine J_iload_n 2 dX7_why_2 rfl ?_
  refine JM_V2 lkM_X7_173 rcv_29 dX7_why_3 (by decide) (Nat.le_of_ble_eq_true rfl) ?_
  refine kX7_isMember n8 ?_
  generalize hg : (if (0 ≤ t ∧ t < ω 29 2) ∧ 0 ≤ m ∧ m < 12 then (1 : Int) else 0) = g
  have hg2 : (g = 1 ∧ ((0 ≤ t ∧ t < ω 29 2) ∧ 0 ≤ m ∧ m < 12)) ∨ (g = 0 ∧ ¬ ((0 ≤ t ∧ t < ω 29 2) ∧ 0 ≤ m ∧ m < 12)) := by
    subst hg
    split
    · left; exact ⟨rfl, by omega⟩
    · right; exact ⟨rfl, by omega⟩
  refine J_if_eq 19 dX7_why_6 (by decide) (fun h6 => ?_) (fun h6 => ?_)
  · skip
    refine J_sipush (-1001) dX7_why_19 ⟨by decide, by decide⟩ (by decide) ?_
    refine JM_iret rfl dX7_why_22 ?_
    first | (have e := hQ ω (MP0.rf ω); rw [if_neg (by omega)] at e; exact e) | (have e := hQ ω1 p1; rw [if_pos (by omega)] at e; exact e)
  · skip
    refine J_aload_n 0 dX7_why_9 rfl ?_
    refine J_iload_n 1 dX7_why_10 rfl ?_
    refine J_iload_n 2 dX7_why_11 rfl ?_
    refine J_iload_n 3 dX7_why_12 rfl ?_
    refine JM_V3 lkM_X7_247 rcv_29 dX7_why_13 (by decide) (Nat.le_of_ble_eq_true rfl) ?_
    refine kX7_whyNow hM (by omega) (by omega) (fun ω1 p1 q1 => ?_)
    refine J_goto 22 dX7_why_16 (by decide) ?_
    refine JM_iret rfl dX7_why_22 ?_
    first | (have e := hQ ω (MP0.rf ω); rw [if_neg (by omega)] at e; exact e) | (have e := hQ ω1 p1; rw [if_pos (by omega)] at e; exact e)

set_option maxRecDepth 100000 in
set_option maxHeartbeats 4000000 in
theorem kX7_where {X : Cx} {d : Nat} {ω : Om} {Q : Option MV → Om → Prop} {t m u : Int} (hM : MW ω) (hQ : ∀ ω', MP0 ω ω' → Q (some (vI (aWhere (vw 0 ω) t m u))) ω') : Mc X mX7_where (d + 9) [vR 29, vI t, vI m, vI u] ω Q := by
  have n8 := n8_vw hM.1
  unfold aWhere at hQ
  rw [vw37] at hQ
  refine Mc_of [some (vR 29), some (vI t), some (vI m), some (vI u)] (by decide +kernel) rfl (Nat.le_of_ble_eq_true rfl) ?_
  refine J_aload_n 0 dX7_where_0 rfl ?_
  refine J_iload_n 1 dX7_where_1 rfl ?_
  refine J_iload_n 2 dX7_where_2 rfl ?_
  refine JM_V2 lkM_X7_173 rcv_29 dX7_where_3 (by decide) (Nat.le_of_ble_eq_true rfl) ?_
  refine kX7_isMember n8 ?_
  generalize hg : (if (0 ≤ t ∧ t < ω 29 2) ∧ 0 ≤ m ∧ m < 12 then (1 : Int) else 0) = g
  have hg2 : (g = 1 ∧ ((0 ≤ t ∧ t < ω 29 2) ∧ 0 ≤ m ∧ m < 12)) ∨ (g = 0 ∧ ¬ ((0 ≤ t ∧ t < ω 29 2) ∧ 0 ≤ m ∧ m < 12)) := by
    subst hg
    split
    · left; exact ⟨rfl, by omega⟩
    · right; exact ⟨rfl, by omega⟩
  refine J_if_eq 19 dX7_where_6 (by decide) (fun h6 => ?_) (fun h6 => ?_)
  · skip
    refine J_sipush (-1001) dX7_where_19 ⟨by decide, by decide⟩ (by decide) ?_
    refine JM_iret rfl dX7_where_22 ?_
    first | (have e := hQ ω (MP0.rf ω); rw [if_neg (by omega)] at e; exact e) | (have e := hQ ω1 p1; rw [if_pos (by omega)] at e; exact e)
  · skip
    refine J_aload_n 0 dX7_where_9 rfl ?_
    refine J_iload_n 1 dX7_where_10 rfl ?_
    refine J_iload_n 2 dX7_where_11 rfl ?_
    refine J_iload_n 3 dX7_where_12 rfl ?_
    refine JM_V3 lkM_X7_244 rcv_29 dX7_where_13 (by decide) (Nat.le_of_ble_eq_true rfl) ?_
    refine kX7_whereNow hM (by omega) (by omega) (fun ω1 p1 q1 => ?_)
    refine J_goto 22 dX7_where_16 (by decide) ?_
    refine JM_iret rfl dX7_where_22 ?_
    first | (have e := hQ ω (MP0.rf ω); rw [if_neg (by omega)] at e; exact e) | (have e := hQ ω1 p1; rw [if_pos (by omega)] at e; exact e)
