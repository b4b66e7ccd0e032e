/-! the class's own methods -/
/-- what always holds of the class's cells -/
def CS (ω : Om) : Prop := WfT ω ∧ SC ω ∧ MC ω ∧ GW ω
/-- a call that only looks -/
def CP (ω ω' : Om) : Prop := RefF ω ω' ∧ CS ω'
theorem CP.rf {ω : Om} (h : CS ω) : CP ω ω := ⟨RefF.rf ω, h⟩
theorem CP.tr {a b c : Om} (h : CP a b) (g : CP b c) : CP a c := ⟨h.1.tr g.1, g.2⟩
theorem MC_TQ {ω ω' : Om} (h : TQ ω ω') (h6 : ∀ i, 10 ≤ i → ω' 6 i = ω 6 i) (h3 : ω' 3 9 = ω 3 9) (hM : MC ω) : MC ω' := by
  refine ⟨by rw [h6 13 (by decide), h3]; exact hM.1, fun e => ?_⟩
  rw [h6 13 (by decide), h3] at e
  obtain ⟨a, b, c⟩ := hM.2 e
  have q := mvs_TQ h (12 * (ω 3 7).toNat)
  unfold MCv
  rw [h6 10 (by decide), h6 11 (by decide), h6 12 (by decide), h.1, q.1, q.2.1, q.2.2]
  exact ⟨a, b, c⟩
theorem RefF_fr {ω ω' : Om} (h : Fr [4, 5, 19, 20, 21, 22, 23, 24, 25] ω ω') (hf : ω' 5 7 = ω' 3 9) : RefF ω ω' :=
  ⟨h.mono (by decide), fun i _ => by rw [h 6 (by decide)], fun q _ => by rw [h 26 (by decide)], ⟨fun r _ => ⟨by rw [h 27 (by decide)], by rw [h 28 (by decide)]⟩, fun g t t0 t1 => by rw [h 15 (by decide)]; exact g t t0 t1, fun _ => hf⟩, (tree_fr h rfl).q⟩
theorem CP_sv {ω ω' : Om} (hC : CS ω) (s1 : SVv ω ω') (s3 : Fr [4, 5, 19, 20, 21, 22, 23, 24, 25] ω ω') (s4 : ω' 5 7 = ω 3 9) : CP ω ω' := by
  have e3 : ω' 3 = ω 3 := s3 3 (by decide)
  have hR := RefF_fr s3 (by rw [s4, e3])
  have hT := hR.2.2.2.2
  exact ⟨hR, WfT_TQ hT hC.1, ⟨by rw [s4, e3]; exact Int.le_refl _, fun _ => SVv_TQ hT s1⟩, MC_TQ hT (fun i _ => by rw [s3 6 (by decide)]) (by rw [e3]) hC.2.2.1, hR.2.2.2.1.2.1 hC.2.2.2⟩
theorem CP_rea {ω ω' : Om} (hC : CS ω) (h : ReaF ω ω') (hS : SC ω') : CP ω ω' :=
  ⟨h.r, WfT_TQ h.2.2.2.2 hC.1, hS, MC_TQ h.2.2.2.2 (fun i hi => h.2.1 i (by omega)) (by rw [h.1 3 (by decide)]) hC.2.2.1, h.2.2.2.1.2.1 hC.2.2.2⟩
theorem CP_ref {ω ω' : Om} (hC : CS ω) (h : RefF ω ω') (hS : SC ω') (h13 : ω' 6 13 = ω 3 9) (h10 : ω' 6 10 = upsT ω (12 * (ω 3 7).toNat)) (h11 : ω' 6 11 = downsT ω (12 * (ω 3 7).toNat)) (h12 : ω' 6 12 = stopT ω (12 * (ω 3 7).toNat)) : CP ω ω' := by
  have hT := h.2.2.2.2
  have e3 : ω' 3 = ω 3 := h.1 3 (by decide)
  have q := mvs_TQ hT (12 * (ω 3 7).toNat)
  refine ⟨h, WfT_TQ hT hC.1, hS, ⟨by rw [h13, e3]; exact Int.le_refl _, fun _ => ?_⟩, h.2.2.2.1.2.1 hC.2.2.2⟩
  unfold MCv
  rw [hT.1, q.1, q.2.1, q.2.2]
  exact ⟨h10, h11, h12⟩
/-! answers -/
def ansB (τ : Om) (t : Int) : Int := bitsF (fun m => decide (¬ nrS τ t m = -1)) 6
def aOf (τ : Om) (t w : Int) : Int := if 0 ≤ t ∧ t < τ 3 7 then
    (if w = 0 then pr τ t else if w = 1 then hol τ t else if w = 2 then bitsF (fun k => decide (¬ hb τ t (0 + k) = -1)) 6 else if w = 3 then τ 15 t else if w = 4 then bitsF (fun k => decide (¬ hb τ t (6 + k) = -1)) 6
     else if w = 5 then ansB τ t else if w = 6 then bitsF (fun c => decide (pr τ c = t)) (τ 3 7).toNat else -1002) else -1001
def aHas (τ : Om) (t m : Int) : Int := if (0 ≤ t ∧ t < τ 3 7) ∧ 0 ≤ m ∧ m < 12 then hb τ t m else -1001
def ansN (τ : Om) (t m w : Int) : Int := if nrS τ t m = -1 then -1 else if w = 0 then hb τ (nrS τ t m) m else nrS τ t m
def aAns (τ : Om) (t m w : Int) : Int := if (0 ≤ t ∧ t < τ 3 7) ∧ 0 ≤ m ∧ m < 6 then (if 0 ≤ w ∧ w ≤ 1 then ansN τ t m w else -1002) else -1001
def bdN (τ : Om) (b w : Int) : Int := if w = 0 then τ 17 b else itA τ b (w - 10)
def aBody (τ : Om) (b w : Int) : Int := if 0 ≤ b ∧ b < τ 3 8 then (if w = 0 ∨ (10 ≤ w ∧ w < 16) then bdN τ b w else -1002) else -1001
def trN (o : Option TS) (w : Int) : Int := match o with
  | none => -1
  | some s => if w = 0 then (s.1.length : Int) else s.2.2
def aTr (τ : Om) (t m w : Int) : Int := if (0 ≤ t ∧ t < τ 3 7) ∧ 0 ≤ m ∧ m < 6 then (if 0 ≤ w ∧ w ≤ 1 then trN (trT τ t m) w else -1002) else -1001
/-- event i of a list that has the last one first -/
def evN (l : List Int) (i : Int) : Int := l.getD (l.length - 1 - i.toNat) 0
def aEv (τ : Om) (t m i w : Int) : Int := if (0 ≤ t ∧ t < τ 3 7) ∧ 0 ≤ m ∧ m < 6 then (if 0 ≤ i ∧ i < trN (trT τ t m) 0 then (if w = 0 then evN (evs τ t m) i % 4 else if w = 1 then evN (evs τ t m) i / 4 else -1002) else -1001) else -1001
def aWhy (τ : Om) (t m u : Int) : Int := if (0 ≤ t ∧ t < τ 3 7) ∧ 0 ≤ m ∧ m < 12 then whyT τ t m u else -1001
def aWhere (τ : Om) (t m u : Int) : Int := if (0 ≤ t ∧ t < τ 3 7) ∧ 0 ≤ m ∧ m < 12 then whereT τ t m u else -1001
def mvN (τ : Om) (w : Int) : Int := if w = 0 then upsT τ (12 * (τ 3 7).toNat) else if w = 1 then downsT τ (12 * (τ 3 7).toNat) else stopT τ (12 * (τ 3 7).toNat)
def aMoves (τ : Om) (w : Int) : Int := if 0 ≤ w ∧ w ≤ 2 then mvN τ w else -1002
def lackT (τ : Om) (ms t : Int) : Int := zAnd ms (zXor (ansB τ t) (-1))
def misT (τ : Om) (ms : Int) : Nat → Int × Int
  | 0 => (-1, 7)
  | k + 1 => if 0 < pc6 (lackT τ ms k) ∧ pc6 (lackT τ ms k) < (misT τ ms k).2 then ((k : Int), pc6 (lackT τ ms k)) else misT τ ms k
def fitN (τ : Om) (ms w : Int) : Int := if w = 0 then ms else if w = 1 then bitsF (fun t => decide (lackT τ ms t = 0)) (τ 3 7).toNat else (misT τ ms (τ 3 7).toNat).1
def comT (τ : Om) (ts : Int) : Nat → Int
  | 0 => 63
  | k + 1 => if zb ts k = 0 then comT τ ts k else zAnd (comT τ ts k) (ansB τ k)
def aCom (τ : Om) (ts : Int) : Int := if 1 ≤ ts ∧ ts < zShl 1 (τ 3 7) then comT τ ts (τ 3 7).toNat else -1002
def ddN (τ : Om) (b : Int) : Int := if reachT τ b (6 * (τ 3 7).toNat) = true then 0 else 1
def aDead (τ : Om) (b : Int) : Int := if 0 ≤ b ∧ b < τ 3 8 then ddN τ b else -1001
theorem Arr_N {f : Int → Int} {l : List Int} {i : Int} (h : Arr f l) (hi : 0 ≤ i ∧ i < l.length) : f i = evN l i := by
  have := Arr_at h (i := i.toNat) (by omega)
  rw [show ((i.toNat : Nat) : Int) = i from by omega] at this
  rw [this]
  unfold evN
  rw [List.getD_eq_getElem?_getD, List.getElem?_eq_getElem (by omega)]
  rfl
theorem zAnd_le {x y : Int} (h0 : 0 ≤ x) (hx : x ≤ 2147483647) : 0 ≤ zAnd x y ∧ zAnd x y ≤ x := by
  have e1 : (Int32.ofInt x).toInt = x := i32_of ⟨by omega, hx⟩
  have e2 : (Int32.ofInt x).toBitVec.toNat = x.toNat := by
    have hn : 0 ≤ Int32.ofInt x := by rw [Int32.le_iff_toInt_le, e1]; exact h0
    rw [Int32.toNat_toBitVec_of_le hn, ← Int32.toNat_toInt, e1]
  have hle : (Int32.ofInt x &&& Int32.ofInt y).toBitVec.toNat ≤ x.toNat := by
    rw [show (Int32.ofInt x &&& Int32.ofInt y).toBitVec = (Int32.ofInt x).toBitVec &&& (Int32.ofInt y).toBitVec from rfl, BitVec.toNat_and, e2]
    exact Nat.and_le_left
  have hz : (Int32.ofInt x &&& Int32.ofInt y).toInt = ((Int32.ofInt x &&& Int32.ofInt y).toBitVec.toNat : Int) := by
    show (Int32.ofInt x &&& Int32.ofInt y).toBitVec.toInt = _
    rw [BitVec.toInt_eq_toNat_of_lt (by omega)]
  unfold zAnd
  rw [hz]
  omega
set_option maxRecDepth 100000 in
set_option maxHeartbeats 4000000 in
theorem kX6_of {X : Cx} {d : Nat} {ω : Om} {Q : Option MV → Om → Prop} {t w : Int} (hC : CS ω) (hQ : Q (some (vI (aOf ω t w))) ω) : Mc X mX6_of (d + 2) [vR 0, vI t, vI w] ω Q := by
  have n8 := hC.1.1
  have b40 := hC.1.2.1
  unfold aOf at hQ
  refine Mc_of [some (vR 0), some (vI t), some (vI w)] (by decide +kernel) rfl (Nat.le_of_ble_eq_true rfl) ?_
  refine J_aload_n 0 dX6_of_0 rfl ?_
  refine J_getR lkF_X6_26 rfl dX6_of_1 ?_
  refine J_iload_n 1 dX6_of_4 rfl ?_
  refine JM_V1 lkM_X6_99 rcv_3 dX6_of_5 (by decide) (Nat.le_of_ble_eq_true rfl) ?_
  refine kX5_hasType ?_
  generalize hg : (if 0 ≤ t ∧ t < ω 3 7 ∧ t < 8 then (1 : Int) else 0) = g
  have hg2 : (g = 1 ∧ 0 ≤ t ∧ t < ω 3 7) ∨ (g = 0 ∧ ¬ (0 ≤ t ∧ t < ω 3 7)) := by
    subst hg
    split
    · left; exact ⟨rfl, by omega⟩
    · right; exact ⟨rfl, by omega⟩
  refine J_if_ne 15 dX6_of_8 (by decide) (fun h8 => ?_) (fun h8 => ?_)
  · skip
    rw [if_pos (by omega)] at hQ
    refine J_iload_n 2 dX6_of_15 rfl ?_
    refine J_switch dX6_of_16 138 (by decide) (fun h16 => ?_) (fun h16a h16b => ?_)
    · skip
      refine J_sipush (-1002) dX6_of_138 ⟨by decide, by decide⟩ (by decide) ?_
      refine JM_iret rfl dX6_of_141 ?_
      have e := hQ
      rw [if_neg (by omega), if_neg (by omega), if_neg (by omega), if_neg (by omega), if_neg (by omega), if_neg (by omega), if_neg (by omega)] at e
      exact e
    · skip
      rcases (show w = 0 ∨ w = 1 ∨ w = 2 ∨ w = 3 ∨ w = 4 ∨ w = 5 ∨ w = 6 by omega) with rfl | rfl | rfl | rfl | rfl | rfl | rfl
      · skip
        refine ⟨44, 60, rfl, by decide, ?_⟩
        refine J_aload_n 0 dX6_of_60 rfl ?_
        refine J_getR lkF_X6_26 rfl dX6_of_61 ?_
        refine J_iload_n 1 dX6_of_64 rfl ?_
        refine JM_V1 lkM_X6_109 rcv_3 dX6_of_65 (by decide) (Nat.le_of_ble_eq_true rfl) ?_
        refine kX5_parentOf ?_
        refine JM_iret rfl dX6_of_68 ?_
        have e := hQ
        rw [if_pos rfl] at e
        exact e
      · skip
        refine ⟨53, 69, rfl, by decide, ?_⟩
        refine J_aload_n 0 dX6_of_69 rfl ?_
        refine J_getR lkF_X6_26 rfl dX6_of_70 ?_
        refine J_iload_n 1 dX6_of_73 rfl ?_
        refine JM_V1 lkM_X6_102 rcv_3 dX6_of_74 (by decide) (Nat.le_of_ble_eq_true rfl) ?_
        refine kX5_isHollow ?_
        refine J_if_eq 84 dX6_of_77 (by decide) (fun h77 => ?_) (fun h77 => ?_)
        · skip
          refine J_iconst 0 dX6_of_84 ⟨by decide, by decide⟩ ?_
          refine JM_iret rfl dX6_of_85 ?_
          have e := hQ
          rw [if_neg (by decide), if_pos rfl] at e
          rcases (show hol ω t = 0 ∨ hol ω t = 1 by unfold hol; split <;> simp) with q | q
          · rw [q] at e h77; first | exact e | exact absurd rfl h77
          · rw [q] at e h77; first | exact e | exact absurd h77 (by decide)
        · skip
          refine J_iconst 1 dX6_of_80 ⟨by decide, by decide⟩ ?_
          refine J_goto 85 dX6_of_81 (by decide) ?_
          refine JM_iret rfl dX6_of_85 ?_
          have e := hQ
          rw [if_neg (by decide), if_pos rfl] at e
          rcases (show hol ω t = 0 ∨ hol ω t = 1 by unfold hol; split <;> simp) with q | q
          · rw [q] at e h77; first | exact e | exact absurd rfl h77
          · rw [q] at e h77; first | exact e | exact absurd h77 (by decide)
      · skip
        refine ⟨70, 86, rfl, by decide, ?_⟩
        refine J_aload_n 0 dX6_of_86 rfl ?_
        refine J_getR lkF_X6_26 rfl dX6_of_87 ?_
        refine J_iload_n 1 dX6_of_90 rfl ?_
        refine J_iconst 0 dX6_of_91 ⟨by decide, by decide⟩ ?_
        refine J_bipush 6 dX6_of_92 ⟨by decide, by decide⟩ (by decide) ?_
        refine JM_V3 lkM_X6_113 rcv_3 dX6_of_94 (by decide) (Nat.le_of_ble_eq_true rfl) ?_
        refine kX5_heldBits (Or.inl rfl) (by decide) ?_
        refine JM_iret rfl dX6_of_97 ?_
        have e := hQ
        rw [if_neg (by decide), if_neg (by decide), if_pos rfl] at e
        exact e
      · skip
        refine ⟨82, 98, rfl, by decide, ?_⟩
        refine J_aload_n 0 dX6_of_98 rfl ?_
        refine J_getR lkF_X6_26 rfl dX6_of_99 ?_
        refine J_iload_n 1 dX6_of_102 rfl ?_
        refine JM_V1 lkM_X6_117 rcv_3 dX6_of_103 (by decide) (Nat.le_of_ble_eq_true rfl) ?_
        refine kX5_hiddenOf (by omega) ?_
        refine JM_iret rfl dX6_of_106 ?_
        have e := hQ
        rw [if_neg (by decide), if_neg (by decide), if_neg (by decide), if_pos rfl] at e
        exact e
      · skip
        refine ⟨91, 107, rfl, by decide, ?_⟩
        refine J_aload_n 0 dX6_of_107 rfl ?_
        refine J_getR lkF_X6_26 rfl dX6_of_108 ?_
        refine J_iload_n 1 dX6_of_111 rfl ?_
        refine J_bipush 6 dX6_of_112 ⟨by decide, by decide⟩ (by decide) ?_
        refine J_bipush 12 dX6_of_114 ⟨by decide, by decide⟩ (by decide) ?_
        refine JM_V3 lkM_X6_113 rcv_3 dX6_of_116 (by decide) (Nat.le_of_ble_eq_true rfl) ?_
        refine kX5_heldBits (Or.inr rfl) (by decide) ?_
        refine JM_iret rfl dX6_of_119 ?_
        have e := hQ
        rw [if_neg (by decide), if_neg (by decide), if_neg (by decide), if_neg (by decide), if_pos rfl] at e
        exact e
      · skip
        refine ⟨104, 120, rfl, by decide, ?_⟩
        refine J_aload_n 0 dX6_of_120 rfl ?_
        refine J_getR lkF_X6_26 rfl dX6_of_121 ?_
        refine J_iload_n 1 dX6_of_124 rfl ?_
        refine JM_V1 lkM_X6_120 rcv_3 dX6_of_125 (by decide) (Nat.le_of_ble_eq_true rfl) ?_
        refine kX5_answerBits ?_
        refine JM_iret rfl dX6_of_128 ?_
        have e := hQ
        rw [if_neg (by decide), if_neg (by decide), if_neg (by decide), if_neg (by decide), if_neg (by decide), if_pos rfl] at e
        exact e
      · skip
        refine ⟨113, 129, rfl, by decide, ?_⟩
        refine J_aload_n 0 dX6_of_129 rfl ?_
        refine J_getR lkF_X6_26 rfl dX6_of_130 ?_
        refine J_iload_n 1 dX6_of_133 rfl ?_
        refine JM_V1 lkM_X6_123 rcv_3 dX6_of_134 (by decide) (Nat.le_of_ble_eq_true rfl) ?_
        refine kX5_childBits hC.1 (by omega) ?_
        refine JM_iret rfl dX6_of_137 ?_
        have e := hQ
        rw [if_neg (by decide), if_neg (by decide), if_neg (by decide), if_neg (by decide), if_neg (by decide), if_neg (by decide), if_pos rfl] at e
        exact e
  · skip
    rw [if_neg (by omega)] at hQ
    refine J_sipush (-1001) dX6_of_11 ⟨by decide, by decide⟩ (by decide) ?_
    refine JM_iret rfl dX6_of_14 ?_
    exact hQ

set_option maxRecDepth 100000 in
set_option maxHeartbeats 4000000 in
theorem kX6_has {X : Cx} {d : Nat} {ω : Om} {Q : Option MV → Om → Prop} {t m : Int} (hC : CS ω) (hQ : Q (some (vI (aHas ω t m))) ω) : Mc X mX6_has (d + 1) [vR 0, vI t, vI m] ω Q := by
  have n8 := hC.1.1
  have b40 := hC.1.2.1
  unfold aHas at hQ
  refine Mc_of [some (vR 0), some (vI t), some (vI m)] (by decide +kernel) rfl (Nat.le_of_ble_eq_true rfl) ?_
  refine J_aload_n 0 dX6_has_0 rfl ?_
  refine J_getR lkF_X6_26 rfl dX6_has_1 ?_
  refine J_iload_n 1 dX6_has_4 rfl ?_
  refine JM_V1 lkM_X6_99 rcv_3 dX6_has_5 (by decide) (Nat.le_of_ble_eq_true rfl) ?_
  refine kX5_hasType ?_
  generalize hg : (if 0 ≤ t ∧ t < ω 3 7 ∧ t < 8 then (1 : Int) else 0) = g
  have hg2 : (g = 1 ∧ 0 ≤ t ∧ t < ω 3 7) ∨ (g = 0 ∧ ¬ (0 ≤ t ∧ t < ω 3 7)) := by
    subst hg
    split
    · left; exact ⟨rfl, by omega⟩
    · right; exact ⟨rfl, by omega⟩
  refine J_if_eq 18 dX6_has_8 (by decide) (fun h8 => ?_) (fun h8 => ?_)
  · skip
    refine J_sipush (-1001) dX6_has_18 ⟨by decide, by decide⟩ (by decide) ?_
    refine JM_iret rfl dX6_has_21 ?_
    have e := hQ
    first | (rw [if_pos (by omega)] at e; exact e) | (rw [if_neg (by omega)] at e; exact e)
  · skip
    refine J_iload_n 2 dX6_has_11 rfl ?_
    refine JM_S1 lkM_X6_126 dX6_has_12 (by decide) (Nat.le_of_ble_eq_true rfl) ?_
    refine kX6_isMember ?_
    generalize hgm : (if 0 ≤ m ∧ m < 12 then (1 : Int) else 0) = gm
    have hgm2 : (gm = 1 ∧ 0 ≤ m ∧ m < 12) ∨ (gm = 0 ∧ ¬ (0 ≤ m ∧ m < 12)) := by
      subst hgm
      split
      · left; exact ⟨rfl, by omega⟩
      · right; exact ⟨rfl, by omega⟩
    refine J_if_ne 22 dX6_has_15 (by decide) (fun h15 => ?_) (fun h15 => ?_)
    · skip
      refine J_aload_n 0 dX6_has_22 rfl ?_
      refine J_getR lkF_X6_26 rfl dX6_has_23 ?_
      refine J_iload_n 1 dX6_has_26 rfl ?_
      refine J_iload_n 2 dX6_has_27 rfl ?_
      refine JM_V2 lkM_X6_129 rcv_3 dX6_has_28 (by decide) (Nat.le_of_ble_eq_true rfl) ?_
      refine kX5_heldBy ?_
      refine JM_iret rfl dX6_has_31 ?_
      have e := hQ
      first | (rw [if_pos (by omega)] at e; exact e) | (rw [if_neg (by omega)] at e; exact e)
    · skip
      refine J_sipush (-1001) dX6_has_18 ⟨by decide, by decide⟩ (by decide) ?_
      refine JM_iret rfl dX6_has_21 ?_
      have e := hQ
      first | (rw [if_pos (by omega)] at e; exact e) | (rw [if_neg (by omega)] at e; exact e)

set_option maxRecDepth 100000 in
set_option maxHeartbeats 4000000 in
theorem kX6_answer {X : Cx} {d : Nat} {ω : Om} {Q : Option MV → Om → Prop} {t m w : Int} (hC : CS ω) (hQ : Q (some (vI (aAns ω t m w))) ω) : Mc X mX6_answer (d + 1) [vR 0, vI t, vI m, vI w] ω Q := by
  have n8 := hC.1.1
  have b40 := hC.1.2.1
  unfold aAns ansN at hQ
  refine Mc_of [some (vR 0), some (vI t), some (vI m), some (vI w), none] (by decide +kernel) rfl (Nat.le_of_ble_eq_true rfl) ?_
  refine J_aload_n 0 dX6_answer_0 rfl ?_
  refine J_getR lkF_X6_26 rfl dX6_answer_1 ?_
  refine J_iload_n 1 dX6_answer_4 rfl ?_
  refine JM_V1 lkM_X6_99 rcv_3 dX6_answer_5 (by decide) (Nat.le_of_ble_eq_true rfl) ?_
  refine kX5_hasType ?_
  generalize hg : (if 0 ≤ t ∧ t < ω 3 7 ∧ t < 8 then (1 : Int) else 0) = g
  have hg2 : (g = 1 ∧ 0 ≤ t ∧ t < ω 3 7) ∨ (g = 0 ∧ ¬ (0 ≤ t ∧ t < ω 3 7)) := by
    subst hg
    split
    · left; exact ⟨rfl, by omega⟩
    · right; exact ⟨rfl, by omega⟩
  refine J_if_eq 18 dX6_answer_8 (by decide) (fun h8 => ?_) (fun h8 => ?_)
  · skip
    refine J_sipush (-1001) dX6_answer_18 ⟨by decide, by decide⟩ (by decide) ?_
    refine JM_iret rfl dX6_answer_21 ?_
    have e := hQ
    first | (rw [if_neg (by omega)] at e; exact e) | (rw [if_pos (by omega), if_neg (by omega)] at e; exact e) | (rw [if_pos (by omega), if_pos (by omega)] at e; first | (rw [if_pos (by omega)] at e; rw [show h = -1 from by omega]; exact e) | (rw [if_neg (by omega), if_pos (by omega)] at e; exact e) | (rw [if_neg (by omega), if_neg (by omega)] at e; exact e) | (by_cases q : h = -1; (rw [if_pos q] at e; rw [q]; exact e); (rw [if_neg q, if_neg (by omega)] at e; exact e)))
  · skip
    refine J_iload_n 2 dX6_answer_11 rfl ?_
    refine JM_S1 lkM_X6_133 dX6_answer_12 (by decide) (Nat.le_of_ble_eq_true rfl) ?_
    refine kX6_isMethod ?_
    generalize hgm : (if 0 ≤ m ∧ m < 6 then (1 : Int) else 0) = gm
    have hgm2 : (gm = 1 ∧ 0 ≤ m ∧ m < 6) ∨ (gm = 0 ∧ ¬ (0 ≤ m ∧ m < 6)) := by
      subst hgm
      split
      · left; exact ⟨rfl, by omega⟩
      · right; exact ⟨rfl, by omega⟩
    refine J_if_ne 22 dX6_answer_15 (by decide) (fun h15 => ?_) (fun h15 => ?_)
    · skip
      refine J_iload_n 3 dX6_answer_22 rfl ?_
      refine J_if_lt 31 dX6_answer_23 (by decide) (fun h23 => ?_) (fun h23 => ?_)
      · skip
        refine J_sipush (-1002) dX6_answer_31 ⟨by decide, by decide⟩ (by decide) ?_
        refine JM_iret rfl dX6_answer_34 ?_
        have e := hQ
        first | (rw [if_neg (by omega)] at e; exact e) | (rw [if_pos (by omega), if_neg (by omega)] at e; exact e) | (rw [if_pos (by omega), if_pos (by omega)] at e; first | (rw [if_pos (by omega)] at e; rw [show h = -1 from by omega]; exact e) | (rw [if_neg (by omega), if_pos (by omega)] at e; exact e) | (rw [if_neg (by omega), if_neg (by omega)] at e; exact e) | (by_cases q : h = -1; (rw [if_pos q] at e; rw [q]; exact e); (rw [if_neg q, if_neg (by omega)] at e; exact e)))
      · skip
        refine J_iload_n 3 dX6_answer_26 rfl ?_
        refine J_iconst 1 dX6_answer_27 ⟨by decide, by decide⟩ ?_
        refine J_icmp_le 35 dX6_answer_28 (by decide) (fun h28 => ?_) (fun h28 => ?_)
        · skip
          refine J_aload_n 0 dX6_answer_35 rfl ?_
          refine J_getR lkF_X6_26 rfl dX6_answer_36 ?_
          refine J_iload_n 1 dX6_answer_39 rfl ?_
          refine J_iload_n 2 dX6_answer_40 rfl ?_
          refine JM_V2 lkM_X6_136 rcv_3 dX6_answer_41 (by decide) (Nat.le_of_ble_eq_true rfl) ?_
          refine kX5_nearest ?_
          generalize nrS ω t m = h at hQ ⊢
          refine J_istore_4 dX6_answer_44 (by decide) rfl ?_
          refine J_iload_n 3 dX6_answer_46 rfl ?_
          refine J_iconst 1 dX6_answer_47 ⟨by decide, by decide⟩ ?_
          refine J_icmp_eq 57 dX6_answer_48 (by decide) (fun h48 => ?_) (fun h48 => ?_)
          · skip
            refine J_iload 4 dX6_answer_57 rfl ?_
            refine J_goto 72 dX6_answer_59 (by decide) ?_
            refine JM_iret rfl dX6_answer_72 ?_
            have e := hQ
            first | (rw [if_neg (by omega)] at e; exact e) | (rw [if_pos (by omega), if_neg (by omega)] at e; exact e) | (rw [if_pos (by omega), if_pos (by omega)] at e; first | (rw [if_pos (by omega)] at e; rw [show h = -1 from by omega]; exact e) | (rw [if_neg (by omega), if_pos (by omega)] at e; exact e) | (rw [if_neg (by omega), if_neg (by omega)] at e; exact e) | (by_cases q : h = -1; (rw [if_pos q] at e; rw [q]; exact e); (rw [if_neg q, if_neg (by omega)] at e; exact e)))
          · skip
            refine J_iload 4 dX6_answer_51 rfl ?_
            refine J_iconst (-1) dX6_answer_53 ⟨by decide, by decide⟩ ?_
            refine J_icmp_ne 62 dX6_answer_54 (by decide) (fun h54 => ?_) (fun h54 => ?_)
            · skip
              refine J_aload_n 0 dX6_answer_62 rfl ?_
              refine J_getR lkF_X6_26 rfl dX6_answer_63 ?_
              refine J_iload 4 dX6_answer_66 rfl ?_
              refine J_iload_n 2 dX6_answer_68 rfl ?_
              refine JM_V2 lkM_X6_129 rcv_3 dX6_answer_69 (by decide) (Nat.le_of_ble_eq_true rfl) ?_
              refine kX5_heldBy ?_
              refine JM_iret rfl dX6_answer_72 ?_
              have e := hQ
              first | (rw [if_neg (by omega)] at e; exact e) | (rw [if_pos (by omega), if_neg (by omega)] at e; exact e) | (rw [if_pos (by omega), if_pos (by omega)] at e; first | (rw [if_pos (by omega)] at e; rw [show h = -1 from by omega]; exact e) | (rw [if_neg (by omega), if_pos (by omega)] at e; exact e) | (rw [if_neg (by omega), if_neg (by omega)] at e; exact e) | (by_cases q : h = -1; (rw [if_pos q] at e; rw [q]; exact e); (rw [if_neg q, if_neg (by omega)] at e; exact e)))
            · skip
              refine J_iload 4 dX6_answer_57 rfl ?_
              refine J_goto 72 dX6_answer_59 (by decide) ?_
              refine JM_iret rfl dX6_answer_72 ?_
              have e := hQ
              first | (rw [if_neg (by omega)] at e; exact e) | (rw [if_pos (by omega), if_neg (by omega)] at e; exact e) | (rw [if_pos (by omega), if_pos (by omega)] at e; first | (rw [if_pos (by omega)] at e; rw [show h = -1 from by omega]; exact e) | (rw [if_neg (by omega), if_pos (by omega)] at e; exact e) | (rw [if_neg (by omega), if_neg (by omega)] at e; exact e) | (by_cases q : h = -1; (rw [if_pos q] at e; rw [q]; exact e); (rw [if_neg q, if_neg (by omega)] at e; exact e)))
        · skip
          refine J_sipush (-1002) dX6_answer_31 ⟨by decide, by decide⟩ (by decide) ?_
          refine JM_iret rfl dX6_answer_34 ?_
          have e := hQ
          first | (rw [if_neg (by omega)] at e; exact e) | (rw [if_pos (by omega), if_neg (by omega)] at e; exact e) | (rw [if_pos (by omega), if_pos (by omega)] at e; first | (rw [if_pos (by omega)] at e; rw [show h = -1 from by omega]; exact e) | (rw [if_neg (by omega), if_pos (by omega)] at e; exact e) | (rw [if_neg (by omega), if_neg (by omega)] at e; exact e) | (by_cases q : h = -1; (rw [if_pos q] at e; rw [q]; exact e); (rw [if_neg q, if_neg (by omega)] at e; exact e)))
    · skip
      refine J_sipush (-1001) dX6_answer_18 ⟨by decide, by decide⟩ (by decide) ?_
      refine JM_iret rfl dX6_answer_21 ?_
      have e := hQ
      first | (rw [if_neg (by omega)] at e; exact e) | (rw [if_pos (by omega), if_neg (by omega)] at e; exact e) | (rw [if_pos (by omega), if_pos (by omega)] at e; first | (rw [if_pos (by omega)] at e; rw [show h = -1 from by omega]; exact e) | (rw [if_neg (by omega), if_pos (by omega)] at e; exact e) | (rw [if_neg (by omega), if_neg (by omega)] at e; exact e) | (by_cases q : h = -1; (rw [if_pos q] at e; rw [q]; exact e); (rw [if_neg q, if_neg (by omega)] at e; exact e)))

set_option maxRecDepth 100000 in
set_option maxHeartbeats 4000000 in
theorem kX6_body {X : Cx} {d : Nat} {ω : Om} {Q : Option MV → Om → Prop} {b w : Int} (hC : CS ω) (hQ : Q (some (vI (aBody ω b w))) ω) : Mc X mX6_body (d + 2) [vR 0, vI b, vI w] ω Q := by
  have n8 := hC.1.1
  have b40 := hC.1.2.1
  unfold aBody bdN at hQ
  refine Mc_of [some (vR 0), some (vI b), some (vI w)] (by decide +kernel) rfl (Nat.le_of_ble_eq_true rfl) ?_
  refine J_aload_n 0 dX6_body_0 rfl ?_
  refine J_getR lkF_X6_26 rfl dX6_body_1 ?_
  refine J_iload_n 1 dX6_body_4 rfl ?_
  refine JM_V1 lkM_X6_139 rcv_3 dX6_body_5 (by decide) (Nat.le_of_ble_eq_true rfl) ?_
  refine kX5_hasBody ?_
  generalize hg : (if 0 ≤ b ∧ b < ω 3 8 ∧ b < 40 then (1 : Int) else 0) = g
  have hg2 : (g = 1 ∧ 0 ≤ b ∧ b < ω 3 8) ∨ (g = 0 ∧ ¬ (0 ≤ b ∧ b < ω 3 8)) := by
    subst hg
    split
    · left; exact ⟨rfl, by omega⟩
    · right; exact ⟨rfl, by omega⟩
  refine J_if_ne 15 dX6_body_8 (by decide) (fun h8 => ?_) (fun h8 => ?_)
  · skip
    refine J_iload_n 2 dX6_body_15 rfl ?_
    refine J_if_ne 28 dX6_body_16 (by decide) (fun h16 => ?_) (fun h16 => ?_)
    · skip
      refine J_iload_n 2 dX6_body_28 rfl ?_
      refine J_bipush 10 dX6_body_29 ⟨by decide, by decide⟩ (by decide) ?_
      refine J_icmp_lt 40 dX6_body_31 (by decide) (fun h31 => ?_) (fun h31 => ?_)
      · skip
        refine J_sipush (-1002) dX6_body_40 ⟨by decide, by decide⟩ (by decide) ?_
        refine JM_iret rfl dX6_body_43 ?_
        have e := hQ
        first | (rw [if_neg (by omega)] at e; exact e) | (rw [if_pos (by omega), if_neg (by omega)] at e; exact e) | (rw [if_pos (by omega), if_pos (by omega), if_pos (by omega)] at e; exact e) | (rw [if_pos (by omega), if_pos (by omega), if_neg (by omega)] at e; exact e)
      · skip
        refine J_iload_n 2 dX6_body_34 rfl ?_
        refine J_bipush 16 dX6_body_35 ⟨by decide, by decide⟩ (by decide) ?_
        refine J_icmp_lt 44 dX6_body_37 (by decide) (fun h37 => ?_) (fun h37 => ?_)
        · skip
          refine J_aload_n 0 dX6_body_44 rfl ?_
          refine J_getR lkF_X6_26 rfl dX6_body_45 ?_
          refine J_iload_n 1 dX6_body_48 rfl ?_
          refine J_iload_n 2 dX6_body_49 rfl ?_
          refine J_bipush 10 dX6_body_50 ⟨by decide, by decide⟩ (by decide) ?_
          refine J_isub dX6_body_52 ⟨by omega, by omega⟩ ?_
          refine JM_V2 lkM_X6_145 rcv_3 dX6_body_53 (by decide) (Nat.le_of_ble_eq_true rfl) ?_
          refine kX5_itemAt ?_
          refine JM_iret rfl dX6_body_56 ?_
          have e := hQ
          first | (rw [if_neg (by omega)] at e; exact e) | (rw [if_pos (by omega), if_neg (by omega)] at e; exact e) | (rw [if_pos (by omega), if_pos (by omega), if_pos (by omega)] at e; exact e) | (rw [if_pos (by omega), if_pos (by omega), if_neg (by omega)] at e; exact e)
        · skip
          refine J_sipush (-1002) dX6_body_40 ⟨by decide, by decide⟩ (by decide) ?_
          refine JM_iret rfl dX6_body_43 ?_
          have e := hQ
          first | (rw [if_neg (by omega)] at e; exact e) | (rw [if_pos (by omega), if_neg (by omega)] at e; exact e) | (rw [if_pos (by omega), if_pos (by omega), if_pos (by omega)] at e; exact e) | (rw [if_pos (by omega), if_pos (by omega), if_neg (by omega)] at e; exact e)
    · skip
      refine J_aload_n 0 dX6_body_19 rfl ?_
      refine J_getR lkF_X6_26 rfl dX6_body_20 ?_
      refine J_iload_n 1 dX6_body_23 rfl ?_
      refine JM_V1 lkM_X6_142 rcv_3 dX6_body_24 (by decide) (Nat.le_of_ble_eq_true rfl) ?_
      refine kX5_itemCountOf (by omega) ?_
      refine JM_iret rfl dX6_body_27 ?_
      have e := hQ
      first | (rw [if_neg (by omega)] at e; exact e) | (rw [if_pos (by omega), if_neg (by omega)] at e; exact e) | (rw [if_pos (by omega), if_pos (by omega), if_pos (by omega)] at e; exact e) | (rw [if_pos (by omega), if_pos (by omega), if_neg (by omega)] at e; exact e)
  · skip
    refine J_sipush (-1001) dX6_body_11 ⟨by decide, by decide⟩ (by decide) ?_
    refine JM_iret rfl dX6_body_14 ?_
    have e := hQ
    first | (rw [if_neg (by omega)] at e; exact e) | (rw [if_pos (by omega), if_neg (by omega)] at e; exact e) | (rw [if_pos (by omega), if_pos (by omega), if_pos (by omega)] at e; exact e) | (rw [if_pos (by omega), if_pos (by omega), if_neg (by omega)] at e; exact e)

set_option maxRecDepth 100000 in
set_option maxHeartbeats 4000000 in
theorem kX6_trace {X : Cx} {d : Nat} {ω : Om} {Q : Option MV → Om → Prop} {t m w : Int} (hC : CS ω) (hQ : ∀ ω', CP ω ω' → Q (some (vI (aTr ω t m w))) ω') : Mc X mX6_trace (d + 4) [vR 0, vI t, vI m, vI w] ω Q := by
  have n8 := hC.1.1
  have b40 := hC.1.2.1
  unfold aTr at hQ
  refine Mc_of [some (vR 0), some (vI t), some (vI m), some (vI w)] (by decide +kernel) rfl (Nat.le_of_ble_eq_true rfl) ?_
  refine J_aload_n 0 dX6_trace_0 rfl ?_
  refine J_getR lkF_X6_26 rfl dX6_trace_1 ?_
  refine J_iload_n 1 dX6_trace_4 rfl ?_
  refine JM_V1 lkM_X6_99 rcv_3 dX6_trace_5 (by decide) (Nat.le_of_ble_eq_true rfl) ?_
  refine kX5_hasType ?_
  generalize hg : (if 0 ≤ t ∧ t < ω 3 7 ∧ t < 8 then (1 : Int) else 0) = g
  have hg2 : (g = 1 ∧ 0 ≤ t ∧ t < ω 3 7) ∨ (g = 0 ∧ ¬ (0 ≤ t ∧ t < ω 3 7)) := by
    subst hg
    split
    · left; exact ⟨rfl, by omega⟩
    · right; exact ⟨rfl, by omega⟩
  refine J_if_eq 18 dX6_trace_8 (by decide) (fun h8 => ?_) (fun h8 => ?_)
  · skip
    refine J_sipush (-1001) dX6_trace_18 ⟨by decide, by decide⟩ (by decide) ?_
    refine JM_iret rfl dX6_trace_21 ?_
    have e := hQ ω (CP.rf hC)
    rw [if_neg (by omega)] at e; exact e
  · skip
    refine J_iload_n 2 dX6_trace_11 rfl ?_
    refine JM_S1 lkM_X6_133 dX6_trace_12 (by decide) (Nat.le_of_ble_eq_true rfl) ?_
    refine kX6_isMethod ?_
    generalize hgm : (if 0 ≤ m ∧ m < 6 then (1 : Int) else 0) = gm
    have hgm2 : (gm = 1 ∧ 0 ≤ m ∧ m < 6) ∨ (gm = 0 ∧ ¬ (0 ≤ m ∧ m < 6)) := by
      subst hgm
      split
      · left; exact ⟨rfl, by omega⟩
      · right; exact ⟨rfl, by omega⟩
    refine J_if_ne 22 dX6_trace_15 (by decide) (fun h15 => ?_) (fun h15 => ?_)
    · skip
      refine J_iload_n 3 dX6_trace_22 rfl ?_
      refine J_if_lt 31 dX6_trace_23 (by decide) (fun h23 => ?_) (fun h23 => ?_)
      · skip
        refine J_sipush (-1002) dX6_trace_31 ⟨by decide, by decide⟩ (by decide) ?_
        refine JM_iret rfl dX6_trace_34 ?_
        have e := hQ ω (CP.rf hC)
        rw [if_pos (by omega), if_neg (by omega)] at e; exact e
      · skip
        refine J_iload_n 3 dX6_trace_26 rfl ?_
        refine J_iconst 1 dX6_trace_27 ⟨by decide, by decide⟩ ?_
        refine J_icmp_le 35 dX6_trace_28 (by decide) (fun h28 => ?_) (fun h28 => ?_)
        · skip
          refine J_aload_n 0 dX6_trace_35 rfl ?_
          refine J_getR lkF_X6_40 rfl dX6_trace_36 ?_
          refine JM_V0 lkM_X6_148 rcv_5 dX6_trace_39 (by decide) (Nat.le_of_ble_eq_true rfl) ?_
          refine kX3_refresh hC.1 (TE.rf ω) hC.2.1.2 (fun ω1 s1 s2 s3 s4 => ?_)
          have hP := CP_sv hC s1 s3 s4
          have hrow := s1.1 t m (by omega) (by omega) (by omega) (by omega)
          refine J_iload_n 3 dX6_trace_42 rfl ?_
          refine J_if_ne 58 dX6_trace_43 (by decide) (fun h43 => ?_) (fun h43 => ?_)
          · skip
            refine J_aload_n 0 dX6_trace_58 rfl ?_
            refine J_getR lkF_X6_40 rfl dX6_trace_59 ?_
            refine J_iload_n 1 dX6_trace_62 rfl ?_
            refine J_iload_n 2 dX6_trace_63 rfl ?_
            refine JM_V2 lkM_X6_154 rcv_5 dX6_trace_64 (by decide) (Nat.le_of_ble_eq_true rfl) ?_
            refine kX3_depthOf (by omega) (by omega) ?_
            refine JM_iret rfl dX6_trace_67 ?_
            have e := hQ ω1 hP
            rw [if_pos (by omega), if_pos (by omega)] at e
            unfold trN at e
            cases hto : trT ω t m with
            | none => rw [hto] at e hrow; first | (rw [hrow.1]; exact e) | (rw [hrow.2]; exact e)
            | some s => rw [hto] at e hrow; simp only at e; first | (rw [if_pos (by omega)] at e; rw [hrow.1]; exact e) | (rw [if_neg (by omega)] at e; rw [hrow.2.1]; exact e)
          · skip
            refine J_aload_n 0 dX6_trace_46 rfl ?_
            refine J_getR lkF_X6_40 rfl dX6_trace_47 ?_
            refine J_iload_n 1 dX6_trace_50 rfl ?_
            refine J_iload_n 2 dX6_trace_51 rfl ?_
            refine JM_V2 lkM_X6_151 rcv_5 dX6_trace_52 (by decide) (Nat.le_of_ble_eq_true rfl) ?_
            refine kX3_sizeOf (by omega) (by omega) ?_
            refine J_goto 67 dX6_trace_55 (by decide) ?_
            refine JM_iret rfl dX6_trace_67 ?_
            have e := hQ ω1 hP
            rw [if_pos (by omega), if_pos (by omega)] at e
            unfold trN at e
            cases hto : trT ω t m with
            | none => rw [hto] at e hrow; first | (rw [hrow.1]; exact e) | (rw [hrow.2]; exact e)
            | some s => rw [hto] at e hrow; simp only at e; first | (rw [if_pos (by omega)] at e; rw [hrow.1]; exact e) | (rw [if_neg (by omega)] at e; rw [hrow.2.1]; exact e)
        · skip
          refine J_sipush (-1002) dX6_trace_31 ⟨by decide, by decide⟩ (by decide) ?_
          refine JM_iret rfl dX6_trace_34 ?_
          have e := hQ ω (CP.rf hC)
          rw [if_pos (by omega), if_neg (by omega)] at e; exact e
    · skip
      refine J_sipush (-1001) dX6_trace_18 ⟨by decide, by decide⟩ (by decide) ?_
      refine JM_iret rfl dX6_trace_21 ?_
      have e := hQ ω (CP.rf hC)
      rw [if_neg (by omega)] at e; exact e

set_option maxRecDepth 100000 in
set_option maxHeartbeats 4000000 in
theorem kX6_event {X : Cx} {d : Nat} {ω : Om} {Q : Option MV → Om → Prop} {t m i w : Int} (hC : CS ω) (hQ : ∀ ω', CP ω ω' → Q (some (vI (aEv ω t m i w))) ω') : Mc X mX6_event (d + 4) [vR 0, vI t, vI m, vI i, vI w] ω Q := by
  have n8 := hC.1.1
  have b40 := hC.1.2.1
  unfold aEv at hQ
  refine Mc_of [some (vR 0), some (vI t), some (vI m), some (vI i), some (vI w), none] (by decide +kernel) rfl (Nat.le_of_ble_eq_true rfl) ?_
  refine J_aload_n 0 dX6_event_0 rfl ?_
  refine J_getR lkF_X6_26 rfl dX6_event_1 ?_
  refine J_iload_n 1 dX6_event_4 rfl ?_
  refine JM_V1 lkM_X6_99 rcv_3 dX6_event_5 (by decide) (Nat.le_of_ble_eq_true rfl) ?_
  refine kX5_hasType ?_
  generalize hg : (if 0 ≤ t ∧ t < ω 3 7 ∧ t < 8 then (1 : Int) else 0) = g
  have hg2 : (g = 1 ∧ 0 ≤ t ∧ t < ω 3 7) ∨ (g = 0 ∧ ¬ (0 ≤ t ∧ t < ω 3 7)) := by
    subst hg
    split
    · left; exact ⟨rfl, by omega⟩
    · right; exact ⟨rfl, by omega⟩
  refine J_if_eq 18 dX6_event_8 (by decide) (fun h8 => ?_) (fun h8 => ?_)
  · skip
    refine J_sipush (-1001) dX6_event_18 ⟨by decide, by decide⟩ (by decide) ?_
    refine JM_iret rfl dX6_event_21 ?_
    have e := hQ ω (CP.rf hC)
    rw [if_neg (by omega)] at e; exact e
  · skip
    refine J_iload_n 2 dX6_event_11 rfl ?_
    refine JM_S1 lkM_X6_133 dX6_event_12 (by decide) (Nat.le_of_ble_eq_true rfl) ?_
    refine kX6_isMethod ?_
    generalize hgm : (if 0 ≤ m ∧ m < 6 then (1 : Int) else 0) = gm
    have hgm2 : (gm = 1 ∧ 0 ≤ m ∧ m < 6) ∨ (gm = 0 ∧ ¬ (0 ≤ m ∧ m < 6)) := by
      subst hgm
      split
      · left; exact ⟨rfl, by omega⟩
      · right; exact ⟨rfl, by omega⟩
    refine J_if_ne 22 dX6_event_15 (by decide) (fun h15 => ?_) (fun h15 => ?_)
    · skip
      refine J_aload_n 0 dX6_event_22 rfl ?_
      refine J_getR lkF_X6_40 rfl dX6_event_23 ?_
      refine JM_V0 lkM_X6_148 rcv_5 dX6_event_26 (by decide) (Nat.le_of_ble_eq_true rfl) ?_
      refine kX3_refresh hC.1 (TE.rf ω) hC.2.1.2 (fun ω1 s1 s2 s3 s4 => ?_)
      have hP := CP_sv hC s1 s3 s4
      have hrow := s1.1 t m (by omega) (by omega) (by omega) (by omega)
      have hsz : ω1 24 (t * 6 + m) = trN (trT ω t m) 0 := by
        unfold trN
        cases hto : trT ω t m with
        | none => rw [hto] at hrow; exact hrow.1
        | some s => rw [hto] at hrow; simp only [if_true]; exact hrow.1
      have hlen : ∀ s, trT ω t m = some s → s.1.length ≤ 60 := fun s hs => (tr_ok hC.1 (by omega) hs).1.2.2.2.2
      have h60 : trN (trT ω t m) 0 ≤ 60 := by
        unfold trN
        cases hto : trT ω t m with
        | none => simp
        | some s => have := hlen s hto; simp only [if_true]; omega
      have hev : 0 ≤ i → i < trN (trT ω t m) 0 → ω1 23 ((t * 6 + m) * 60 + i) = evN (evs ω t m) i ∧ EvOk (evN (evs ω t m) i) := fun i0 i1 => by
        cases hto : trT ω t m with
        | none => rw [hto] at i1; simp [trN] at i1; omega
        | some s =>
          rw [hto] at hrow i1
          simp only [trN, if_true] at i1
          have ee : evs ω t m = s.1 := by unfold evs; rw [hto]
          have hN := Arr_N hrow.2.2 ⟨i0, i1⟩
          have hok := (tr_ok hC.1 (by omega) hto).2.1
          rw [ee]
          refine ⟨hN, ?_⟩
          unfold evN
          rw [List.getD_eq_getElem?_getD, List.getElem?_eq_getElem (by omega)]
          exact hok _ (List.getElem_mem _)
      refine J_iload_n 3 dX6_event_29 rfl ?_
      refine J_if_lt 46 dX6_event_30 (by decide) (fun h30 => ?_) (fun h30 => ?_)
      · skip
        refine J_sipush (-1001) dX6_event_46 ⟨by decide, by decide⟩ (by decide) ?_
        refine JM_iret rfl dX6_event_49 ?_
        have e := hQ ω1 hP
        rw [if_pos (by omega), if_neg (by omega)] at e; exact e
      · skip
        refine J_iload_n 3 dX6_event_33 rfl ?_
        refine J_aload_n 0 dX6_event_34 rfl ?_
        refine J_getR lkF_X6_40 rfl dX6_event_35 ?_
        refine J_iload_n 1 dX6_event_38 rfl ?_
        refine J_iload_n 2 dX6_event_39 rfl ?_
        refine JM_V2 lkM_X6_151 rcv_5 dX6_event_40 (by decide) (Nat.le_of_ble_eq_true rfl) ?_
        refine kX3_sizeOf (by omega) (by omega) ?_
        rw [hsz]
        refine J_icmp_lt 50 dX6_event_43 (by decide) (fun h43 => ?_) (fun h43 => ?_)
        · skip
          refine J_iload 4 dX6_event_50 rfl ?_
          refine J_if_lt 61 dX6_event_52 (by decide) (fun h52 => ?_) (fun h52 => ?_)
          · skip
            refine J_sipush (-1002) dX6_event_61 ⟨by decide, by decide⟩ (by decide) ?_
            refine JM_iret rfl dX6_event_64 ?_
            have e := hQ ω1 hP
            rw [if_pos (by omega), if_pos (by omega), if_neg (by omega), if_neg (by omega)] at e; exact e
          · skip
            refine J_iload 4 dX6_event_55 rfl ?_
            refine J_iconst 1 dX6_event_57 ⟨by decide, by decide⟩ ?_
            refine J_icmp_le 65 dX6_event_58 (by decide) (fun h58 => ?_) (fun h58 => ?_)
            · skip
              refine J_aload_n 0 dX6_event_65 rfl ?_
              refine J_getR lkF_X6_40 rfl dX6_event_66 ?_
              refine J_iload_n 1 dX6_event_69 rfl ?_
              refine J_iload_n 2 dX6_event_70 rfl ?_
              refine J_iload_n 3 dX6_event_71 rfl ?_
              refine JM_V3 lkM_X6_157 rcv_5 dX6_event_72 (by decide) (Nat.le_of_ble_eq_true rfl) ?_
              refine kX3_eventAt (by omega) (by omega) (by omega) ?_
              have hev2 := hev (by omega) (by omega)
              rw [hev2.1]
              have hev3 := hev2.2.1
              generalize evN (evs ω t m) i = v at hQ hev3 ⊢
              refine J_istore_5 dX6_event_75 (by decide) rfl ?_
              refine J_iload 4 dX6_event_77 rfl ?_
              refine J_if_ne 89 dX6_event_79 (by decide) (fun h79 => ?_) (fun h79 => ?_)
              · skip
                refine J_iload 5 dX6_event_89 rfl ?_
                refine J_iconst 4 dX6_event_91 ⟨by decide, by decide⟩ ?_
                refine J_idiv dX6_event_92 (by omega) (by omega) ?_
                refine JM_iret rfl dX6_event_93 ?_
                have e := hQ ω1 hP
                rw [if_pos (by omega), if_pos (by omega)] at e
                first | (rw [if_pos (by omega)] at e; exact e) | (rw [if_neg (by omega), if_pos (by omega)] at e; exact e)
              · skip
                refine J_iload 5 dX6_event_82 rfl ?_
                refine J_iconst 4 dX6_event_84 ⟨by decide, by decide⟩ ?_
                refine J_irem dX6_event_85 (by omega) (by omega) ?_
                refine J_goto 93 dX6_event_86 (by decide) ?_
                refine JM_iret rfl dX6_event_93 ?_
                have e := hQ ω1 hP
                rw [if_pos (by omega), if_pos (by omega)] at e
                first | (rw [if_pos (by omega)] at e; exact e) | (rw [if_neg (by omega), if_pos (by omega)] at e; exact e)
            · skip
              refine J_sipush (-1002) dX6_event_61 ⟨by decide, by decide⟩ (by decide) ?_
              refine JM_iret rfl dX6_event_64 ?_
              have e := hQ ω1 hP
              rw [if_pos (by omega), if_pos (by omega), if_neg (by omega), if_neg (by omega)] at e; exact e
        · skip
          refine J_sipush (-1001) dX6_event_46 ⟨by decide, by decide⟩ (by decide) ?_
          refine JM_iret rfl dX6_event_49 ?_
          have e := hQ ω1 hP
          rw [if_pos (by omega), if_neg (by omega)] at e; exact e
    · skip
      refine J_sipush (-1001) dX6_event_18 ⟨by decide, by decide⟩ (by decide) ?_
      refine JM_iret rfl dX6_event_21 ?_
      have e := hQ ω (CP.rf hC)
      rw [if_neg (by omega)] at e; exact e

set_option maxRecDepth 100000 in
set_option maxHeartbeats 4000000 in
theorem kX6_why {X : Cx} {d : Nat} {ω : Om} {Q : Option MV → Om → Prop} {t m u : Int} (hC : CS ω) (hQ : ∀ ω', CP ω ω' → Q (some (vI (aWhy ω t m u))) ω') : Mc X mX6_why (d + 5) [vR 0, vI t, vI m, vI u] ω Q := by
  have n8 := hC.1.1
  have b40 := hC.1.2.1
  unfold aWhy at hQ
  refine Mc_of [some (vR 0), some (vI t), some (vI m), some (vI u)] (by decide +kernel) rfl (Nat.le_of_ble_eq_true rfl) ?_
  refine J_aload_n 0 dX6_why_0 rfl ?_
  refine J_getR lkF_X6_26 rfl dX6_why_1 ?_
  refine J_iload_n 1 dX6_why_4 rfl ?_
  refine JM_V1 lkM_X6_99 rcv_3 dX6_why_5 (by decide) (Nat.le_of_ble_eq_true rfl) ?_
  refine kX5_hasType ?_
  generalize hg : (if 0 ≤ t ∧ t < ω 3 7 ∧ t < 8 then (1 : Int) else 0) = g
  have hg2 : (g = 1 ∧ 0 ≤ t ∧ t < ω 3 7) ∨ (g = 0 ∧ ¬ (0 ≤ t ∧ t < ω 3 7)) := by
    subst hg
    split
    · left; exact ⟨rfl, by omega⟩
    · right; exact ⟨rfl, by omega⟩
  refine J_if_eq 18 dX6_why_8 (by decide) (fun h8 => ?_) (fun h8 => ?_)
  · skip
    refine J_sipush (-1001) dX6_why_18 ⟨by decide, by decide⟩ (by decide) ?_
    refine JM_iret rfl dX6_why_21 ?_
    have e := hQ ω (CP.rf hC)
    rw [if_neg (by omega)] at e; exact e
  · skip
    refine J_iload_n 2 dX6_why_11 rfl ?_
    refine JM_S1 lkM_X6_126 dX6_why_12 (by decide) (Nat.le_of_ble_eq_true rfl) ?_
    refine kX6_isMember ?_
    generalize hgm : (if 0 ≤ m ∧ m < 12 then (1 : Int) else 0) = gm
    have hgm2 : (gm = 1 ∧ 0 ≤ m ∧ m < 12) ∨ (gm = 0 ∧ ¬ (0 ≤ m ∧ m < 12)) := by
      subst hgm
      split
      · left; exact ⟨rfl, by omega⟩
      · right; exact ⟨rfl, by omega⟩
    refine J_if_ne 22 dX6_why_15 (by decide) (fun h15 => ?_) (fun h15 => ?_)
    · skip
      refine J_aload_n 0 dX6_why_22 rfl ?_
      refine J_getR lkF_X6_49 rfl dX6_why_23 ?_
      refine J_iload_n 1 dX6_why_26 rfl ?_
      refine J_iload_n 2 dX6_why_27 rfl ?_
      refine J_iload_n 3 dX6_why_28 rfl ?_
      refine JM_V3 lkM_X6_160 rcv_6 dX6_why_29 (by decide) (Nat.le_of_ble_eq_true rfl) ?_
      refine kX0_reason hC.1 hC.2.1 (by omega) (by omega) (fun ω1 r1 r2 r3 => ?_)
      refine JM_iret rfl dX6_why_32 ?_
      have e := hQ ω1 (CP_rea hC r1 r2)
      rw [if_pos (by omega)] at e; exact e
    · skip
      refine J_sipush (-1001) dX6_why_18 ⟨by decide, by decide⟩ (by decide) ?_
      refine JM_iret rfl dX6_why_21 ?_
      have e := hQ ω (CP.rf hC)
      rw [if_neg (by omega)] at e; exact e

set_option maxRecDepth 100000 in
set_option maxHeartbeats 4000000 in
theorem kX6_where {X : Cx} {d : Nat} {ω : Om} {Q : Option MV → Om → Prop} {t m u : Int} (hC : CS ω) (hQ : ∀ ω', CP ω ω' → Q (some (vI (aWhere ω t m u))) ω') : Mc X mX6_where (d + 5) [vR 0, vI t, vI m, vI u] ω Q := by
  have n8 := hC.1.1
  have b40 := hC.1.2.1
  unfold aWhere at hQ
  refine Mc_of [some (vR 0), some (vI t), some (vI m), some (vI u)] (by decide +kernel) rfl (Nat.le_of_ble_eq_true rfl) ?_
  refine J_aload_n 0 dX6_where_0 rfl ?_
  refine J_getR lkF_X6_26 rfl dX6_where_1 ?_
  refine J_iload_n 1 dX6_where_4 rfl ?_
  refine JM_V1 lkM_X6_99 rcv_3 dX6_where_5 (by decide) (Nat.le_of_ble_eq_true rfl) ?_
  refine kX5_hasType ?_
  generalize hg : (if 0 ≤ t ∧ t < ω 3 7 ∧ t < 8 then (1 : Int) else 0) = g
  have hg2 : (g = 1 ∧ 0 ≤ t ∧ t < ω 3 7) ∨ (g = 0 ∧ ¬ (0 ≤ t ∧ t < ω 3 7)) := by
    subst hg
    split
    · left; exact ⟨rfl, by omega⟩
    · right; exact ⟨rfl, by omega⟩
  refine J_if_eq 18 dX6_where_8 (by decide) (fun h8 => ?_) (fun h8 => ?_)
  · skip
    refine J_sipush (-1001) dX6_where_18 ⟨by decide, by decide⟩ (by decide) ?_
    refine JM_iret rfl dX6_where_21 ?_
    have e := hQ ω (CP.rf hC)
    rw [if_neg (by omega)] at e; exact e
  · skip
    refine J_iload_n 2 dX6_where_11 rfl ?_
    refine JM_S1 lkM_X6_126 dX6_where_12 (by decide) (Nat.le_of_ble_eq_true rfl) ?_
    refine kX6_isMember ?_
    generalize hgm : (if 0 ≤ m ∧ m < 12 then (1 : Int) else 0) = gm
    have hgm2 : (gm = 1 ∧ 0 ≤ m ∧ m < 12) ∨ (gm = 0 ∧ ¬ (0 ≤ m ∧ m < 12)) := by
      subst hgm
      split
      · left; exact ⟨rfl, by omega⟩
      · right; exact ⟨rfl, by omega⟩
    refine J_if_ne 22 dX6_where_15 (by decide) (fun h15 => ?_) (fun h15 => ?_)
    · skip
      refine J_aload_n 0 dX6_where_22 rfl ?_
      refine J_getR lkF_X6_49 rfl dX6_where_23 ?_
      refine J_iload_n 1 dX6_where_26 rfl ?_
      refine J_iload_n 2 dX6_where_27 rfl ?_
      refine J_iload_n 3 dX6_where_28 rfl ?_
      refine JM_V3 lkM_X6_160 rcv_6 dX6_where_29 (by decide) (Nat.le_of_ble_eq_true rfl) ?_
      refine kX0_reason hC.1 hC.2.1 (by omega) (by omega) (fun ω1 r1 r2 r3 => ?_)
      refine J_pop dX6_where_32 ?_
      refine J_aload_n 0 dX6_where_33 rfl ?_
      refine J_getR lkF_X6_49 rfl dX6_where_34 ?_
      refine J_getI 9 lkF_X6_164 rfl rfl rfl dX6_where_37 ?_
      refine JM_iret rfl dX6_where_40 ?_
      have e := hQ ω1 (CP_rea hC r1 r2)
      rw [if_pos (by omega)] at e; rw [r3]; exact e
    · skip
      refine J_sipush (-1001) dX6_where_18 ⟨by decide, by decide⟩ (by decide) ?_
      refine JM_iret rfl dX6_where_21 ?_
      have e := hQ ω (CP.rf hC)
      rw [if_neg (by omega)] at e; exact e

set_option maxRecDepth 100000 in
set_option maxHeartbeats 4000000 in
theorem kX6_moves {X : Cx} {d : Nat} {ω : Om} {Q : Option MV → Om → Prop} {w : Int} (hC : CS ω) (hQ : ∀ ω', CP ω ω' → Q (some (vI (aMoves ω w))) ω') : Mc X mX6_moves (d + 6) [vR 0, vI w] ω Q := by
  unfold aMoves mvN at hQ
  refine Mc_of [some (vR 0), some (vI w)] (by decide +kernel) rfl (Nat.le_of_ble_eq_true rfl) ?_
  refine J_iload_n 1 dX6_moves_0 rfl ?_
  refine J_if_lt 9 dX6_moves_1 (by decide) (fun h1 => ?_) (fun h1 => ?_)
  · skip
    refine J_sipush (-1002) dX6_moves_9 ⟨by decide, by decide⟩ (by decide) ?_
    refine JM_iret rfl dX6_moves_12 ?_
    have e := hQ ω (CP.rf hC)
    rw [if_neg (by omega)] at e; exact e
  · skip
    refine J_iload_n 1 dX6_moves_4 rfl ?_
    refine J_iconst 2 dX6_moves_5 ⟨by decide, by decide⟩ ?_
    refine J_icmp_le 13 dX6_moves_6 (by decide) (fun h6 => ?_) (fun h6 => ?_)
    · skip
      refine J_aload_n 0 dX6_moves_13 rfl ?_
      refine J_getR lkF_X6_49 rfl dX6_moves_14 ?_
      refine JM_V0 lkM_X6_177 rcv_6 dX6_moves_17 (by decide) (Nat.le_of_ble_eq_true rfl) ?_
      refine kX0_refresh hC.1 hC.2.1 hC.2.2.1 (fun ω1 r1 r2 r3 r4 r5 r6 => ?_)
      have hP := CP_ref hC r1 r2 r3 r4 r5 r6
      refine J_iload_n 1 dX6_moves_20 rfl ?_
      refine J_if_ne 34 dX6_moves_21 (by decide) (fun h21 => ?_) (fun h21 => ?_)
      · skip
        refine J_iload_n 1 dX6_moves_34 rfl ?_
        refine J_iconst 1 dX6_moves_35 ⟨by decide, by decide⟩ ?_
        refine J_icmp_ne 49 dX6_moves_36 (by decide) (fun h36 => ?_) (fun h36 => ?_)
        · skip
          refine J_aload_n 0 dX6_moves_49 rfl ?_
          refine J_getR lkF_X6_49 rfl dX6_moves_50 ?_
          refine J_getI 12 lkF_X6_184 rfl rfl rfl dX6_moves_53 ?_
          refine JM_iret rfl dX6_moves_56 ?_
          have e := hQ ω1 hP
          rw [if_pos (by omega)] at e
          first | (rw [if_pos (by omega)] at e; rw [r4]; exact e) | (rw [if_neg (by omega), if_pos (by omega)] at e; rw [r5]; exact e) | (rw [if_neg (by omega), if_neg (by omega)] at e; rw [r6]; exact e)
        · skip
          refine J_aload_n 0 dX6_moves_39 rfl ?_
          refine J_getR lkF_X6_49 rfl dX6_moves_40 ?_
          refine J_getI 11 lkF_X6_181 rfl rfl rfl dX6_moves_43 ?_
          refine J_goto 56 dX6_moves_46 (by decide) ?_
          refine JM_iret rfl dX6_moves_56 ?_
          have e := hQ ω1 hP
          rw [if_pos (by omega)] at e
          first | (rw [if_pos (by omega)] at e; rw [r4]; exact e) | (rw [if_neg (by omega), if_pos (by omega)] at e; rw [r5]; exact e) | (rw [if_neg (by omega), if_neg (by omega)] at e; rw [r6]; exact e)
      · skip
        refine J_aload_n 0 dX6_moves_24 rfl ?_
        refine J_getR lkF_X6_49 rfl dX6_moves_25 ?_
        refine J_getI 10 lkF_X6_178 rfl rfl rfl dX6_moves_28 ?_
        refine J_goto 56 dX6_moves_31 (by decide) ?_
        refine JM_iret rfl dX6_moves_56 ?_
        have e := hQ ω1 hP
        rw [if_pos (by omega)] at e
        first | (rw [if_pos (by omega)] at e; rw [r4]; exact e) | (rw [if_neg (by omega), if_pos (by omega)] at e; rw [r5]; exact e) | (rw [if_neg (by omega), if_neg (by omega)] at e; rw [r6]; exact e)
    · skip
      refine J_sipush (-1002) dX6_moves_9 ⟨by decide, by decide⟩ (by decide) ?_
      refine JM_iret rfl dX6_moves_12 ?_
      have e := hQ ω (CP.rf hC)
      rw [if_neg (by omega)] at e; exact e

set_option maxRecDepth 100000 in
set_option maxHeartbeats 4000000 in
theorem kX6_dead {X : Cx} {d : Nat} {ω : Om} {Q : Option MV → Om → Prop} {b : Int} (hC : CS ω) (hQ : ∀ ω', CP ω ω' → Q (some (vI (aDead ω b))) ω') : Mc X mX6_dead (d + 4) [vR 0, vI b] ω Q := by
  have n8 := hC.1.1
  have b40 := hC.1.2.1
  unfold aDead ddN at hQ
  refine Mc_of [some (vR 0), some (vI b)] (by decide +kernel) rfl (Nat.le_of_ble_eq_true rfl) ?_
  refine J_aload_n 0 dX6_dead_0 rfl ?_
  refine J_getR lkF_X6_26 rfl dX6_dead_1 ?_
  refine J_iload_n 1 dX6_dead_4 rfl ?_
  refine JM_V1 lkM_X6_139 rcv_3 dX6_dead_5 (by decide) (Nat.le_of_ble_eq_true rfl) ?_
  refine kX5_hasBody ?_
  generalize hg : (if 0 ≤ b ∧ b < ω 3 8 ∧ b < 40 then (1 : Int) else 0) = g
  have hg2 : (g = 1 ∧ 0 ≤ b ∧ b < ω 3 8) ∨ (g = 0 ∧ ¬ (0 ≤ b ∧ b < ω 3 8)) := by
    subst hg
    split
    · left; exact ⟨rfl, by omega⟩
    · right; exact ⟨rfl, by omega⟩
  refine J_if_ne 15 dX6_dead_8 (by decide) (fun h8 => ?_) (fun h8 => ?_)
  · skip
    refine J_aload_n 0 dX6_dead_15 rfl ?_
    refine J_getR lkF_X6_40 rfl dX6_dead_16 ?_
    refine JM_V0 lkM_X6_148 rcv_5 dX6_dead_19 (by decide) (Nat.le_of_ble_eq_true rfl) ?_
    refine kX3_refresh hC.1 (TE.rf ω) hC.2.1.2 (fun ω1 s1 s2 s3 s4 => ?_)
    have hP := CP_sv hC s1 s3 s4
    refine J_aload_n 0 dX6_dead_22 rfl ?_
    refine J_getR lkF_X6_40 rfl dX6_dead_23 ?_
    refine J_iload_n 1 dX6_dead_26 rfl ?_
    refine JM_V1 lkM_X6_193 rcv_5 dX6_dead_27 (by decide) (Nat.le_of_ble_eq_true rfl) ?_
    refine kX3_isReached (by omega) ?_
    rw [s1.2.1 b.toNat (by omega), show ((b.toNat : Nat) : Int) = b from by omega]
    refine J_if_eq 37 dX6_dead_30 (by decide) (fun h30 => ?_) (fun h30 => ?_)
    · skip
      refine J_iconst 1 dX6_dead_37 ⟨by decide, by decide⟩ ?_
      refine JM_iret rfl dX6_dead_38 ?_
      have e := hQ ω1 hP
      rw [if_pos (by omega)] at e
      by_cases q : reachT ω b (6 * (ω 3 7).toNat) = true
      · rw [if_pos q] at e h30; first | exact e | exact absurd h30 (by decide)
      · rw [if_neg q] at e h30; first | exact e | exact absurd rfl h30
    · skip
      refine J_iconst 0 dX6_dead_33 ⟨by decide, by decide⟩ ?_
      refine J_goto 38 dX6_dead_34 (by decide) ?_
      refine JM_iret rfl dX6_dead_38 ?_
      have e := hQ ω1 hP
      rw [if_pos (by omega)] at e
      by_cases q : reachT ω b (6 * (ω 3 7).toNat) = true
      · rw [if_pos q] at e h30; first | exact e | exact absurd h30 (by decide)
      · rw [if_neg q] at e h30; first | exact e | exact absurd rfl h30
  · skip
    refine J_sipush (-1001) dX6_dead_11 ⟨by decide, by decide⟩ (by decide) ?_
    refine JM_iret rfl dX6_dead_14 ?_
    have e := hQ ω (CP.rf hC)
    rw [if_neg (by omega)] at e; exact e

set_option maxRecDepth 100000 in
set_option maxHeartbeats 4000000 in
theorem l_ttf {X : Cx} {d : Nat} {Q : Option MV → Om → Prop} {ω : Om} {ms : Int} (hn : 0 ≤ ω 3 7 ∧ ω 3 7 ≤ 8) : ∀ (n k : Nat), k + n = (ω 3 7).toNat → Q (some (vI (bitsF (fun t => decide (lackT ω ms t = 0)) (ω 3 7).toNat))) ω → JM X mX6_typesThatFit (d + 2) Q 4 [some (vR 0), some (vI ms), some (vI (bitsF (fun t => decide (lackT ω ms t = 0)) k)), some (vI k)] [] ω := by
  intro n
  induction n with
  | zero =>
    intro k hk hQ
    refine J_iload_n 3 dX6_typesThatFit_4 rfl ?_
    refine J_aload_n 0 dX6_typesThatFit_5 rfl ?_
    refine J_getR lkF_X6_26 rfl dX6_typesThatFit_6 ?_
    refine J_getI 7 lkF_X6_71 rfl rfl rfl dX6_typesThatFit_9 ?_
    refine J_icmp_ge 42 dX6_typesThatFit_12 (by decide) (fun h12 => ?_) (fun h12 => ?_)
    · skip
      refine J_iload_n 2 dX6_typesThatFit_42 rfl ?_
      refine JM_iret rfl dX6_typesThatFit_43 ?_
      rw [show k = (ω 3 7).toNat from by omega]; exact hQ
    · skip
      exfalso; omega
  | succ n ih =>
    intro k hk hQ
    refine J_iload_n 3 dX6_typesThatFit_4 rfl ?_
    refine J_aload_n 0 dX6_typesThatFit_5 rfl ?_
    refine J_getR lkF_X6_26 rfl dX6_typesThatFit_6 ?_
    refine J_getI 7 lkF_X6_71 rfl rfl rfl dX6_typesThatFit_9 ?_
    refine J_icmp_ge 42 dX6_typesThatFit_12 (by decide) (fun h12 => ?_) (fun h12 => ?_)
    · skip
      exfalso; omega
    · skip
      refine J_iload_n 1 dX6_typesThatFit_15 rfl ?_
      refine J_aload_n 0 dX6_typesThatFit_16 rfl ?_
      refine J_getR lkF_X6_26 rfl dX6_typesThatFit_17 ?_
      refine J_iload_n 3 dX6_typesThatFit_20 rfl ?_
      refine JM_V1 lkM_X6_120 rcv_3 dX6_typesThatFit_21 (by decide) (Nat.le_of_ble_eq_true rfl) ?_
      refine kX5_answerBits ?_
      refine J_iconst (-1) dX6_typesThatFit_24 ⟨by decide, by decide⟩ ?_
      refine J_ixor dX6_typesThatFit_25 ?_
      refine J_iand dX6_typesThatFit_26 ?_
      refine J_if_ne 36 dX6_typesThatFit_27 (by decide) (fun h27 => ?_) (fun h27 => ?_)
      · skip
        refine J_iinc_3 dX6_typesThatFit_36 (by decide) ⟨by omega, by omega⟩ rfl ?_
        refine J_goto 4 dX6_typesThatFit_39 (by decide) ?_
        have e := ih (k + 1) (by omega) hQ
        rw [bitsF] at e
        first | (rw [if_pos (by simp only [decide_eq_true_eq]; exact h27)] at e; exact e) | (rw [if_neg (by simp only [decide_eq_true_eq]; exact h27)] at e; exact e)
      · skip
        refine J_iload_n 2 dX6_typesThatFit_30 rfl ?_
        refine J_iconst 1 dX6_typesThatFit_31 ⟨by decide, by decide⟩ ?_
        refine J_iload_n 3 dX6_typesThatFit_32 rfl ?_
        refine J_ishl dX6_typesThatFit_33 ?_
        refine J_ior dX6_typesThatFit_34 ?_
        refine J_istore_2 dX6_typesThatFit_35 (by decide) rfl ?_
        refine J_iinc_3 dX6_typesThatFit_36 (by decide) ⟨by omega, by omega⟩ rfl ?_
        refine J_goto 4 dX6_typesThatFit_39 (by decide) ?_
        have e := ih (k + 1) (by omega) hQ
        rw [bitsF] at e
        first | (rw [if_pos (by simp only [decide_eq_true_eq]; exact h27)] at e; exact e) | (rw [if_neg (by simp only [decide_eq_true_eq]; exact h27)] at e; exact e)

set_option maxRecDepth 100000 in
set_option maxHeartbeats 4000000 in
theorem kX6_typesThatFit {X : Cx} {d : Nat} {ω : Om} {Q : Option MV → Om → Prop} {ms : Int} (hn : 0 ≤ ω 3 7 ∧ ω 3 7 ≤ 8) (hQ : Q (some (vI (bitsF (fun t => decide (lackT ω ms t = 0)) (ω 3 7).toNat))) ω) : Mc X mX6_typesThatFit (d + 2) [vR 0, vI ms] ω Q := by
  refine Mc_of [some (vR 0), some (vI ms), none, none] (by decide +kernel) rfl (Nat.le_of_ble_eq_true rfl) ?_
  refine J_iconst 0 dX6_typesThatFit_0 ⟨by decide, by decide⟩ ?_
  refine J_istore_2 dX6_typesThatFit_1 (by decide) rfl ?_
  refine J_iconst 0 dX6_typesThatFit_2 ⟨by decide, by decide⟩ ?_
  refine J_istore_3 dX6_typesThatFit_3 (by decide) rfl ?_
  exact l_ttf hn (ω 3 7).toNat 0 (by omega) hQ

set_option maxRecDepth 100000 in
set_option maxHeartbeats 4000000 in
theorem l_nmf {X : Cx} {d : Nat} {Q : Option MV → Om → Prop} {ω : Om} {ms : Int} (hn : 0 ≤ ω 3 7 ∧ ω 3 7 ≤ 8) (hm : 0 ≤ ms ∧ ms < 64) : ∀ (n k : Nat) (x : Option MV), k + n = (ω 3 7).toNat → Q (some (vI (misT ω ms (ω 3 7).toNat).1)) ω → JM X mX6_nearestMisfit (d + 2) Q 8 [some (vR 0), some (vI ms), some (vI (misT ω ms k).1), some (vI (misT ω ms k).2), some (vI k), x] [] ω := by
  intro n
  induction n with
  | zero =>
    intro k x hk hQ
    refine J_iload 4 dX6_nearestMisfit_8 rfl ?_
    refine J_aload_n 0 dX6_nearestMisfit_10 rfl ?_
    refine J_getR lkF_X6_26 rfl dX6_nearestMisfit_11 ?_
    refine J_getI 7 lkF_X6_71 rfl rfl rfl dX6_nearestMisfit_14 ?_
    refine J_icmp_ge 61 dX6_nearestMisfit_17 (by decide) (fun h17 => ?_) (fun h17 => ?_)
    · skip
      refine J_iload_n 2 dX6_nearestMisfit_61 rfl ?_
      refine JM_iret rfl dX6_nearestMisfit_62 ?_
      rw [show k = (ω 3 7).toNat from by omega]; exact hQ
    · skip
      exfalso; omega
  | succ n ih =>
    intro k x hk hQ
    refine J_iload 4 dX6_nearestMisfit_8 rfl ?_
    refine J_aload_n 0 dX6_nearestMisfit_10 rfl ?_
    refine J_getR lkF_X6_26 rfl dX6_nearestMisfit_11 ?_
    refine J_getI 7 lkF_X6_71 rfl rfl rfl dX6_nearestMisfit_14 ?_
    refine J_icmp_ge 61 dX6_nearestMisfit_17 (by decide) (fun h17 => ?_) (fun h17 => ?_)
    · skip
      exfalso; omega
    · skip
      refine J_iload_n 1 dX6_nearestMisfit_20 rfl ?_
      refine J_aload_n 0 dX6_nearestMisfit_21 rfl ?_
      refine J_getR lkF_X6_26 rfl dX6_nearestMisfit_22 ?_
      refine J_iload 4 dX6_nearestMisfit_25 rfl ?_
      refine JM_V1 lkM_X6_120 rcv_3 dX6_nearestMisfit_27 (by decide) (Nat.le_of_ble_eq_true rfl) ?_
      refine kX5_answerBits ?_
      refine J_iconst (-1) dX6_nearestMisfit_30 ⟨by decide, by decide⟩ ?_
      refine J_ixor dX6_nearestMisfit_31 ?_
      refine J_iand dX6_nearestMisfit_32 ?_
      refine JM_S1 lkM_X6_252 dX6_nearestMisfit_33 (by decide) (Nat.le_of_ble_eq_true rfl) ?_
      refine kJ6_bitCount_0f7a4 (by have := zAnd_le (x := ms) (y := zXor (ansB ω k) (-1)) (by omega) (by omega); unfold ansB at this; omega) ?_
      refine J_istore_5 dX6_nearestMisfit_36 (by decide) rfl ?_
      refine J_iload 5 dX6_nearestMisfit_38 rfl ?_
      refine J_if_le 55 dX6_nearestMisfit_40 (by decide) (fun h40 => ?_) (fun h40 => ?_)
      · skip
        refine J_iinc_4 dX6_nearestMisfit_55 (by decide) ⟨by omega, by omega⟩ rfl ?_
        refine J_goto 8 dX6_nearestMisfit_58 (by decide) ?_
        have e := ih (k + 1) (some (vI (pc6 (lackT ω ms k)))) (by omega) hQ
        rw [misT] at e
        first | (rw [if_pos (by exact ⟨by unfold lackT ansB; omega, by unfold lackT ansB; omega⟩)] at e; exact e) | (rw [if_neg (by unfold lackT ansB; omega)] at e; exact e)
      · skip
        refine J_iload 5 dX6_nearestMisfit_43 rfl ?_
        refine J_iload_n 3 dX6_nearestMisfit_45 rfl ?_
        refine J_icmp_ge 55 dX6_nearestMisfit_46 (by decide) (fun h46 => ?_) (fun h46 => ?_)
        · skip
          refine J_iinc_4 dX6_nearestMisfit_55 (by decide) ⟨by omega, by omega⟩ rfl ?_
          refine J_goto 8 dX6_nearestMisfit_58 (by decide) ?_
          have e := ih (k + 1) (some (vI (pc6 (lackT ω ms k)))) (by omega) hQ
          rw [misT] at e
          first | (rw [if_pos (by exact ⟨by unfold lackT ansB; omega, by unfold lackT ansB; omega⟩)] at e; exact e) | (rw [if_neg (by unfold lackT ansB; omega)] at e; exact e)
        · skip
          refine J_iload 4 dX6_nearestMisfit_49 rfl ?_
          refine J_istore_2 dX6_nearestMisfit_51 (by decide) rfl ?_
          refine J_iload 5 dX6_nearestMisfit_52 rfl ?_
          refine J_istore_3 dX6_nearestMisfit_54 (by decide) rfl ?_
          refine J_iinc_4 dX6_nearestMisfit_55 (by decide) ⟨by omega, by omega⟩ rfl ?_
          refine J_goto 8 dX6_nearestMisfit_58 (by decide) ?_
          have e := ih (k + 1) (some (vI (pc6 (lackT ω ms k)))) (by omega) hQ
          rw [misT] at e
          first | (rw [if_pos (by exact ⟨by unfold lackT ansB; omega, by unfold lackT ansB; omega⟩)] at e; exact e) | (rw [if_neg (by unfold lackT ansB; omega)] at e; exact e)

set_option maxRecDepth 100000 in
set_option maxHeartbeats 4000000 in
theorem kX6_nearestMisfit {X : Cx} {d : Nat} {ω : Om} {Q : Option MV → Om → Prop} {ms : Int} (hn : 0 ≤ ω 3 7 ∧ ω 3 7 ≤ 8) (hm : 0 ≤ ms ∧ ms < 64) (hQ : Q (some (vI (misT ω ms (ω 3 7).toNat).1)) ω) : Mc X mX6_nearestMisfit (d + 2) [vR 0, vI ms] ω Q := by
  refine Mc_of [some (vR 0), some (vI ms), none, none, none, none] (by decide +kernel) rfl (Nat.le_of_ble_eq_true rfl) ?_
  refine J_iconst (-1) dX6_nearestMisfit_0 ⟨by decide, by decide⟩ ?_
  refine J_istore_2 dX6_nearestMisfit_1 (by decide) rfl ?_
  refine J_bipush 7 dX6_nearestMisfit_2 ⟨by decide, by decide⟩ (by decide) ?_
  refine J_istore_3 dX6_nearestMisfit_4 (by decide) rfl ?_
  refine J_iconst 0 dX6_nearestMisfit_5 ⟨by decide, by decide⟩ ?_
  refine J_istore_4 dX6_nearestMisfit_6 (by decide) rfl ?_
  exact l_nmf hn hm (ω 3 7).toNat 0 none (by omega) hQ

/-- the contracts that were told -/
def KC (ω : Om) : Prop := (0 ≤ ω 0 6 ∧ ω 0 6 ≤ 6) ∧ ∀ i, 0 ≤ i → i < ω 0 6 → 1 ≤ ω 7 i ∧ ω 7 i ≤ 63
def aFit (τ : Om) (cn : Int) (cf : Int → Int) (c w : Int) : Int := if 0 ≤ c ∧ c < cn then (if 0 ≤ w ∧ w ≤ 2 then fitN τ (cf c) w else -1002) else -1001
set_option maxRecDepth 100000 in
set_option maxHeartbeats 4000000 in
theorem kX6_fit {X : Cx} {d : Nat} {ω : Om} {Q : Option MV → Om → Prop} {c w : Int} (hC : CS ω) (hK : KC ω) (hQ : Q (some (vI (aFit ω (ω 0 6) (ω 7) c w))) ω) : Mc X mX6_fit (d + 3) [vR 0, vI c, vI w] ω Q := by
  have n8 := hC.1.1
  have k6 := hK.1
  unfold aFit fitN at hQ
  refine Mc_of [some (vR 0), some (vI c), some (vI w), none] (by decide +kernel) rfl (Nat.le_of_ble_eq_true rfl) ?_
  refine J_iload_n 1 dX6_fit_0 rfl ?_
  refine J_if_lt 18 dX6_fit_1 (by decide) (fun h1 => ?_) (fun h1 => ?_)
  · skip
    refine J_sipush (-1001) dX6_fit_18 ⟨by decide, by decide⟩ (by decide) ?_
    refine JM_iret rfl dX6_fit_21 ?_
    rw [if_neg (by omega)] at hQ; exact hQ
  · skip
    refine J_iload_n 1 dX6_fit_4 rfl ?_
    refine J_aload_n 0 dX6_fit_5 rfl ?_
    refine J_getI 6 lkF_X6_57 rfl rfl rfl dX6_fit_6 ?_
    refine J_icmp_ge 18 dX6_fit_9 (by decide) (fun h9 => ?_) (fun h9 => ?_)
    · skip
      refine J_sipush (-1001) dX6_fit_18 ⟨by decide, by decide⟩ (by decide) ?_
      refine JM_iret rfl dX6_fit_21 ?_
      rw [if_neg (by omega)] at hQ; exact hQ
    · skip
      refine J_iload_n 1 dX6_fit_12 rfl ?_
      refine J_bipush 6 dX6_fit_13 ⟨by decide, by decide⟩ (by decide) ?_
      refine J_icmp_lt 22 dX6_fit_15 (by decide) (fun h15 => ?_) (fun h15 => ?_)
      · skip
        refine J_aload_n 0 dX6_fit_22 rfl ?_
        refine J_getR lkF_X6_53 rfl dX6_fit_23 ?_
        refine J_iload_n 1 dX6_fit_26 rfl ?_
        refine J_iaload _ rfl rfl (by omega) dX6_fit_27 ?_
        refine J_istore_3 dX6_fit_28 (by decide) rfl ?_
        refine J_iload_n 2 dX6_fit_29 rfl ?_
        refine J_switch dX6_fit_30 70 (by decide) (fun h30 => ?_) (fun h30a h30b => ?_)
        · skip
          refine J_sipush (-1002) dX6_fit_70 ⟨by decide, by decide⟩ (by decide) ?_
          refine JM_iret rfl dX6_fit_73 ?_
          rw [if_pos (by omega), if_neg (by omega)] at hQ; exact hQ
        · skip
          rcases (show w = 0 ∨ w = 1 ∨ w = 2 by omega) with rfl | rfl | rfl
          · skip
            refine ⟨26, 56, rfl, by decide, ?_⟩
            refine J_iload_n 3 dX6_fit_56 rfl ?_
            refine JM_iret rfl dX6_fit_57 ?_
            rw [if_pos (by omega), if_pos (by decide), if_pos rfl] at hQ; exact hQ
          · skip
            refine ⟨28, 58, rfl, by decide, ?_⟩
            refine J_aload_n 0 dX6_fit_58 rfl ?_
            refine J_iload_n 3 dX6_fit_59 rfl ?_
            refine JM_V1 lkM_X6_187 rcv_0 dX6_fit_60 (by decide) (Nat.le_of_ble_eq_true rfl) ?_
            refine kX6_typesThatFit n8 ?_
            refine JM_iret rfl dX6_fit_63 ?_
            rw [if_pos (by omega), if_pos (by decide), if_neg (by decide), if_pos rfl] at hQ; exact hQ
          · skip
            refine ⟨34, 64, rfl, by decide, ?_⟩
            refine J_aload_n 0 dX6_fit_64 rfl ?_
            refine J_iload_n 3 dX6_fit_65 rfl ?_
            refine JM_V1 lkM_X6_190 rcv_0 dX6_fit_66 (by decide) (Nat.le_of_ble_eq_true rfl) ?_
            have hk := hK.2 c (by omega) (by omega)
            refine kX6_nearestMisfit n8 (by omega) ?_
            refine JM_iret rfl dX6_fit_69 ?_
            rw [if_pos (by omega), if_pos (by decide), if_neg (by decide), if_neg (by decide)] at hQ; exact hQ
      · skip
        refine J_sipush (-1001) dX6_fit_18 ⟨by decide, by decide⟩ (by decide) ?_
        refine JM_iret rfl dX6_fit_21 ?_
        rw [if_neg (by omega)] at hQ; exact hQ

set_option maxRecDepth 100000 in
set_option maxHeartbeats 4000000 in
theorem l_com {X : Cx} {d : Nat} {Q : Option MV → Om → Prop} {ω : Om} {ts : Int} (hn : 0 ≤ ω 3 7 ∧ ω 3 7 ≤ 8) : ∀ (n k : Nat), k + n = (ω 3 7).toNat → Q (some (vI (comT ω ts (ω 3 7).toNat))) ω → JM X mX6_common (d + 2) Q 27 [some (vR 0), some (vI ts), some (vI (comT ω ts k)), some (vI k)] [] ω := by
  intro n
  induction n with
  | zero =>
    intro k hk hQ
    refine J_iload_n 3 dX6_common_27 rfl ?_
    refine J_aload_n 0 dX6_common_28 rfl ?_
    refine J_getR lkF_X6_26 rfl dX6_common_29 ?_
    refine J_getI 7 lkF_X6_71 rfl rfl rfl dX6_common_32 ?_
    refine J_icmp_ge 63 dX6_common_35 (by decide) (fun h35 => ?_) (fun h35 => ?_)
    · skip
      refine J_iload_n 2 dX6_common_63 rfl ?_
      refine JM_iret rfl dX6_common_64 ?_
      rw [show k = (ω 3 7).toNat from by omega]; exact hQ
    · skip
      exfalso; omega
  | succ n ih =>
    intro k hk hQ
    refine J_iload_n 3 dX6_common_27 rfl ?_
    refine J_aload_n 0 dX6_common_28 rfl ?_
    refine J_getR lkF_X6_26 rfl dX6_common_29 ?_
    refine J_getI 7 lkF_X6_71 rfl rfl rfl dX6_common_32 ?_
    refine J_icmp_ge 63 dX6_common_35 (by decide) (fun h35 => ?_) (fun h35 => ?_)
    · skip
      exfalso; omega
    · skip
      refine J_iload_n 1 dX6_common_38 rfl ?_
      refine J_iload_n 3 dX6_common_39 rfl ?_
      refine J_ishr dX6_common_40 ?_
      refine J_iconst 1 dX6_common_41 ⟨by decide, by decide⟩ ?_
      refine J_iand dX6_common_42 ?_
      refine J_if_eq 57 dX6_common_43 (by decide) (fun h43 => ?_) (fun h43 => ?_)
      · skip
        refine J_iinc_3 dX6_common_57 (by decide) ⟨by omega, by omega⟩ rfl ?_
        refine J_goto 27 dX6_common_60 (by decide) ?_
        have e := ih (k + 1) (by omega) hQ
        rw [comT] at e
        first | (rw [if_pos (by unfold zb; exact h43)] at e; exact e) | (rw [if_neg (by unfold zb; exact h43)] at e; exact e)
      · skip
        refine J_iload_n 2 dX6_common_46 rfl ?_
        refine J_aload_n 0 dX6_common_47 rfl ?_
        refine J_getR lkF_X6_26 rfl dX6_common_48 ?_
        refine J_iload_n 3 dX6_common_51 rfl ?_
        refine JM_V1 lkM_X6_120 rcv_3 dX6_common_52 (by decide) (Nat.le_of_ble_eq_true rfl) ?_
        refine kX5_answerBits ?_
        refine J_iand dX6_common_55 ?_
        refine J_istore_2 dX6_common_56 (by decide) rfl ?_
        refine J_iinc_3 dX6_common_57 (by decide) ⟨by omega, by omega⟩ rfl ?_
        refine J_goto 27 dX6_common_60 (by decide) ?_
        have e := ih (k + 1) (by omega) hQ
        rw [comT] at e
        first | (rw [if_pos (by unfold zb; exact h43)] at e; exact e) | (rw [if_neg (by unfold zb; exact h43)] at e; exact e)

set_option maxRecDepth 100000 in
set_option maxHeartbeats 4000000 in
theorem kX6_common {X : Cx} {d : Nat} {ω : Om} {Q : Option MV → Om → Prop} {ts : Int} (hC : CS ω) (hQ : Q (some (vI (aCom ω ts))) ω) : Mc X mX6_common (d + 2) [vR 0, vI ts] ω Q := by
  have n8 := hC.1.1
  unfold aCom at hQ
  refine Mc_of [some (vR 0), some (vI ts), none, none] (by decide +kernel) rfl (Nat.le_of_ble_eq_true rfl) ?_
  refine J_iload_n 1 dX6_common_0 rfl ?_
  refine J_iconst 1 dX6_common_1 ⟨by decide, by decide⟩ ?_
  refine J_icmp_lt 18 dX6_common_2 (by decide) (fun h2 => ?_) (fun h2 => ?_)
  · skip
    refine J_sipush (-1002) dX6_common_18 ⟨by decide, by decide⟩ (by decide) ?_
    refine JM_iret rfl dX6_common_21 ?_
    rw [if_neg (by omega)] at hQ; exact hQ
  · skip
    refine J_iload_n 1 dX6_common_5 rfl ?_
    refine J_iconst 1 dX6_common_6 ⟨by decide, by decide⟩ ?_
    refine J_aload_n 0 dX6_common_7 rfl ?_
    refine J_getR lkF_X6_26 rfl dX6_common_8 ?_
    refine J_getI 7 lkF_X6_71 rfl rfl rfl dX6_common_11 ?_
    refine J_ishl dX6_common_14 ?_
    refine J_icmp_lt 22 dX6_common_15 (by decide) (fun h15 => ?_) (fun h15 => ?_)
    · skip
      refine J_bipush 63 dX6_common_22 ⟨by decide, by decide⟩ (by decide) ?_
      refine J_istore_2 dX6_common_24 (by decide) rfl ?_
      refine J_iconst 0 dX6_common_25 ⟨by decide, by decide⟩ ?_
      refine J_istore_3 dX6_common_26 (by decide) rfl ?_
      rw [if_pos (by omega)] at hQ
      exact l_com n8 (ω 3 7).toNat 0 (by omega) hQ
    · skip
      refine J_sipush (-1002) dX6_common_18 ⟨by decide, by decide⟩ (by decide) ?_
      refine JM_iret rfl dX6_common_21 ?_
      rw [if_neg (by omega)] at hQ; exact hQ
