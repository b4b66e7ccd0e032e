/-! the model takes a class, and drops one -/
/-- what member j of the new class is -/
def mvl (l : List Int) (n b j : Int) : Int := if j ∈ l then (if j < 6 then b + bodyIx l j else 12 * n + j) else -1
/-- a class has come -/
def TyP (ω ω' : Om) (s : RS) : Prop :=
  Fr [29, 31, 32, 33, 34, 35, 36, 37, 41, 42, 43] ω ω' ∧ (ω' 29 2 = ω 29 2 + 1 ∧ ω' 29 8 = ω 29 8 + nMth s.2.2.1 ∧ ω' 29 12 = 0 ∧ ω' 29 0 = 0 ∧ ω' 29 7 = ω 29 7 ∧ ω' 29 15 = ω 29 15 ∧ ω' 29 17 = ω 29 17 ∧ ω' 29 18 = ω 29 18) ∧
  ((∀ t, t ≠ ω 29 2 → ω' 31 t = ω 31 t ∧ ω' 32 t = ω 32 t ∧ ω' 34 t = ω 34 t) ∧ ω' 31 (ω 29 2) = s.2.1 ∧ ω' 32 (ω 29 2) = 0 ∧ ω' 34 (ω 29 2) = s.2.2.2.2.1) ∧
  ((∀ j, 0 ≤ j → j < 12 → ω' 33 (12 * ω 29 2 + j) = mvl s.2.2.1 (ω 29 2) (ω 29 8) j) ∧ ∀ i, i < 12 * ω 29 2 → ω' 33 i = ω 33 i) ∧
  ((∀ b, 0 ≤ b → b < nMth s.2.2.1 → ω' 35 (ω 29 8 + b) = ω 29 2) ∧ ∀ b, b < ω 29 8 → ω' 35 b = ω 35 b) ∧
  ((∀ b, b < ω 29 8 → ω' 36 b = ω 36 b) ∧ ∀ i, i < 6 * ω 29 8 → ω' 37 i = ω 37 i) ∧
  ∀ m ∈ s.2.2.1, m < 6 → ω' 36 (ω 29 8 + bodyIx s.2.2.1 m) = (s.2.2.2.2.2 m).length ∧ Arr (fun i => ω' 37 (6 * (ω 29 8 + bodyIx s.2.2.1 m) + i)) (s.2.2.2.2.2 m)
theorem zAdd_in {x y : Int} (hx : InR x) (hy : InR y) (h : InR (x + y)) : zAdd x y = x + y := by
  unfold zAdd
  rw [← Int32.ofInt_add, i32_of h]
set_option maxRecDepth 100000 in
set_option maxHeartbeats 4000000 in
theorem l_tm {X : Cx} {d : Nat} {Q : Option MV → Om → Prop} {ω2 : Om} {n B : Int} {l : List Int} (hn : ω2 29 2 = n) (hB : ω2 29 8 = B) (hn8 : 0 ≤ n ∧ n < 8) (hB40 : 0 ≤ B ∧ B ≤ 40) (hz : ∀ j, 0 ≤ j → j < 12 → zb (ω2 29 21) j = if j ∈ l then 1 else 0) (h41 : ∀ j ∈ l, j < 6 → ω2 41 j = bodyIx l j) (hl6 : nMth l ≤ 6) : ∀ (k m : Nat) (ω : Om) (x : Option MV), m + k = 12 → Fr [33] ω2 ω → (∀ j : Int, 0 ≤ j → j < m → ω 33 (12 * n + j) = mvl l n B j) → (∀ i, i < 12 * n → ω 33 i = ω2 33 i) → (∀ (ω' : Om) (z : Int) (x : Option MV), Fr [33] ω2 ω' → (∀ j : Int, 0 ≤ j → j < 12 → ω' 33 (12 * n + j) = mvl l n B j) → (∀ i, i < 12 * n → ω' 33 i = ω2 33 i) → JM X mX7_type (d + 6) Q 175 [some (vR 29), some (vI z), x] [] ω') → JM X mX7_type (d + 6) Q 93 [some (vR 29), some (vI m), x] [] ω := by
  intro k
  induction k with
  | zero =>
    intro m ω x hm hF ha hb hQ
    refine J_iload_n 1 dX7_type_93 rfl ?_
    refine J_bipush 12 dX7_type_94 ⟨by decide, by decide⟩ (by decide) ?_
    refine J_icmp_ge 175 dX7_type_96 (by decide) (fun h96 => ?_) (fun h96 => ?_)
    · skip
      exact hQ ω _ _ hF (fun j q r => ha j q (by omega)) hb
    · skip
      exfalso; omega
  | succ k ih =>
    intro m ω x hm hF ha hb hQ
    have e2 : ω 29 2 = n := by rw [hF 29 (by decide)]; exact hn
    have e8 : ω 29 8 = B := by rw [hF 29 (by decide)]; exact hB
    have e21 : ω 29 21 = ω2 29 21 := by rw [hF 29 (by decide)]
    have hzm := hz m (by omega) (by omega)
    refine J_iload_n 1 dX7_type_93 rfl ?_
    refine J_bipush 12 dX7_type_94 ⟨by decide, by decide⟩ (by decide) ?_
    refine J_icmp_ge 175 dX7_type_96 (by decide) (fun h96 => ?_) (fun h96 => ?_)
    · skip
      exfalso; omega
    · skip
      refine J_iload_n 1 dX7_type_99 rfl ?_
      refine J_bipush 6 dX7_type_100 ⟨by decide, by decide⟩ (by decide) ?_
      refine J_icmp_ge 129 dX7_type_102 (by decide) (fun h102 => ?_) (fun h102 => ?_)
      · skip
        refine J_bipush 12 dX7_type_129 ⟨by decide, by decide⟩ (by decide) ?_
        refine J_aload_n 0 dX7_type_131 rfl ?_
        refine J_getI 2 lkF_X7_112 rfl rfl rfl dX7_type_132 ?_
        refine J_imul dX7_type_135 ⟨by omega, by omega⟩ ?_
        rw [e2]
        refine J_iload_n 1 dX7_type_136 rfl ?_
        refine J_iadd dX7_type_137 ⟨by omega, by omega⟩ ?_
        refine J_istore_2 dX7_type_138 (by decide) rfl ?_
        refine J_aload_n 0 dX7_type_139 rfl ?_
        refine J_getR lkF_X7_20 rfl dX7_type_140 ?_
        refine J_bipush 12 dX7_type_143 ⟨by decide, by decide⟩ (by decide) ?_
        refine J_aload_n 0 dX7_type_145 rfl ?_
        refine J_getI 2 lkF_X7_112 rfl rfl rfl dX7_type_146 ?_
        refine J_imul dX7_type_149 ⟨by omega, by omega⟩ ?_
        rw [e2]
        refine J_iload_n 1 dX7_type_150 rfl ?_
        refine J_iadd dX7_type_151 ⟨by omega, by omega⟩ ?_
        refine J_aload_n 0 dX7_type_152 rfl ?_
        refine J_getI 21 lkF_X7_89 rfl rfl rfl dX7_type_153 ?_
        refine J_iload_n 1 dX7_type_156 rfl ?_
        refine JM_S2 lkM_X7_92 dX7_type_157 (by decide) (Nat.le_of_ble_eq_true rfl) ?_
        refine kX7_hasBit ?_
        rw [e21, hzm]
        refine J_if_eq 167 dX7_type_160 (by decide) (fun h160 => ?_) (fun h160 => ?_)
        · skip
          refine J_iconst (-1) dX7_type_167 ⟨by decide, by decide⟩ ?_
          refine J_iastore _ rfl (by omega) dX7_type_168 ?_
          refine J_iinc_1 dX7_type_169 (by decide) ⟨by omega, by omega⟩ rfl ?_
          refine J_goto 93 dX7_type_172 (by decide) ?_
          refine ih (m + 1) _ _ (by omega) (hF.up (by decide)) (fun j j0 j1 => ?_) (fun i hi => by rw [up_i (by omega)]; exact hb i hi) hQ
          by_cases e : j = (m : Int)
          · rw [e, up_s]
            unfold mvl
            by_cases q : (m : Int) ∈ l
            · rw [if_pos q] at h160 ⊢
              first
                | exact absurd h160 (by decide)
                | (rw [if_neg (by omega)]; done)
                | (rw [if_pos (by omega), hF 41 (by decide), h41 _ q (by omega)]
                   have := bodyIx_lt l m q (by omega)
                   exact zAdd_in ⟨by omega, by omega⟩ ⟨by omega, by omega⟩ ⟨by omega, by omega⟩)
            · rw [if_neg q] at h160
              first
                | exact absurd rfl h160
                | exact (if_neg q).symm
          · rw [up_i (by omega)]; exact ha j j0 (by omega)
        · skip
          refine J_iload_n 2 dX7_type_163 rfl ?_
          refine J_goto 168 dX7_type_164 (by decide) ?_
          refine J_iastore _ rfl (by omega) dX7_type_168 ?_
          refine J_iinc_1 dX7_type_169 (by decide) ⟨by omega, by omega⟩ rfl ?_
          refine J_goto 93 dX7_type_172 (by decide) ?_
          refine ih (m + 1) _ _ (by omega) (hF.up (by decide)) (fun j j0 j1 => ?_) (fun i hi => by rw [up_i (by omega)]; exact hb i hi) hQ
          by_cases e : j = (m : Int)
          · rw [e, up_s]
            unfold mvl
            by_cases q : (m : Int) ∈ l
            · rw [if_pos q] at h160 ⊢
              first
                | exact absurd h160 (by decide)
                | (rw [if_neg (by omega)]; done)
                | (rw [if_pos (by omega), hF 41 (by decide), h41 _ q (by omega)]
                   have := bodyIx_lt l m q (by omega)
                   exact zAdd_in ⟨by omega, by omega⟩ ⟨by omega, by omega⟩ ⟨by omega, by omega⟩)
            · rw [if_neg q] at h160
              first
                | exact absurd rfl h160
                | exact (if_neg q).symm
          · rw [up_i (by omega)]; exact ha j j0 (by omega)
      · skip
        refine J_aload_n 0 dX7_type_105 rfl ?_
        refine J_getI 8 lkF_X7_134 rfl rfl rfl dX7_type_106 ?_
        refine J_aload_n 0 dX7_type_109 rfl ?_
        refine J_getR lkF_X7_44 rfl dX7_type_110 ?_
        refine J_iload_n 1 dX7_type_113 rfl ?_
        refine J_bipush 6 dX7_type_114 ⟨by decide, by decide⟩ (by decide) ?_
        refine J_icmp_ge 123 dX7_type_116 (by decide) (fun h116 => ?_) (fun h116 => ?_)
        · skip
          exfalso; omega
        · skip
          refine J_iload_n 1 dX7_type_119 rfl ?_
          refine J_goto 124 dX7_type_120 (by decide) ?_
          refine J_iaload _ rfl rfl (by omega) dX7_type_124 ?_
          rw [e8]
          refine J_iaddW dX7_type_125 ?_
          refine J_goto 138 dX7_type_126 (by decide) ?_
          refine J_istore_2 dX7_type_138 (by decide) rfl ?_
          refine J_aload_n 0 dX7_type_139 rfl ?_
          refine J_getR lkF_X7_20 rfl dX7_type_140 ?_
          refine J_bipush 12 dX7_type_143 ⟨by decide, by decide⟩ (by decide) ?_
          refine J_aload_n 0 dX7_type_145 rfl ?_
          refine J_getI 2 lkF_X7_112 rfl rfl rfl dX7_type_146 ?_
          refine J_imul dX7_type_149 ⟨by omega, by omega⟩ ?_
          rw [e2]
          refine J_iload_n 1 dX7_type_150 rfl ?_
          refine J_iadd dX7_type_151 ⟨by omega, by omega⟩ ?_
          refine J_aload_n 0 dX7_type_152 rfl ?_
          refine J_getI 21 lkF_X7_89 rfl rfl rfl dX7_type_153 ?_
          refine J_iload_n 1 dX7_type_156 rfl ?_
          refine JM_S2 lkM_X7_92 dX7_type_157 (by decide) (Nat.le_of_ble_eq_true rfl) ?_
          refine kX7_hasBit ?_
          rw [e21, hzm]
          refine J_if_eq 167 dX7_type_160 (by decide) (fun h160 => ?_) (fun h160 => ?_)
          · skip
            refine J_iconst (-1) dX7_type_167 ⟨by decide, by decide⟩ ?_
            refine J_iastore _ rfl (by omega) dX7_type_168 ?_
            refine J_iinc_1 dX7_type_169 (by decide) ⟨by omega, by omega⟩ rfl ?_
            refine J_goto 93 dX7_type_172 (by decide) ?_
            refine ih (m + 1) _ _ (by omega) (hF.up (by decide)) (fun j j0 j1 => ?_) (fun i hi => by rw [up_i (by omega)]; exact hb i hi) hQ
            by_cases e : j = (m : Int)
            · rw [e, up_s]
              unfold mvl
              by_cases q : (m : Int) ∈ l
              · rw [if_pos q] at h160 ⊢
                first
                  | exact absurd h160 (by decide)
                  | (rw [if_neg (by omega)]; done)
                  | (rw [if_pos (by omega), hF 41 (by decide), h41 _ q (by omega)]
                     have := bodyIx_lt l m q (by omega)
                     exact zAdd_in ⟨by omega, by omega⟩ ⟨by omega, by omega⟩ ⟨by omega, by omega⟩)
              · rw [if_neg q] at h160
                first
                  | exact absurd rfl h160
                  | exact (if_neg q).symm
            · rw [up_i (by omega)]; exact ha j j0 (by omega)
          · skip
            refine J_iload_n 2 dX7_type_163 rfl ?_
            refine J_goto 168 dX7_type_164 (by decide) ?_
            refine J_iastore _ rfl (by omega) dX7_type_168 ?_
            refine J_iinc_1 dX7_type_169 (by decide) ⟨by omega, by omega⟩ rfl ?_
            refine J_goto 93 dX7_type_172 (by decide) ?_
            refine ih (m + 1) _ _ (by omega) (hF.up (by decide)) (fun j j0 j1 => ?_) (fun i hi => by rw [up_i (by omega)]; exact hb i hi) hQ
            by_cases e : j = (m : Int)
            · rw [e, up_s]
              unfold mvl
              by_cases q : (m : Int) ∈ l
              · rw [if_pos q] at h160 ⊢
                first
                  | exact absurd h160 (by decide)
                  | (rw [if_neg (by omega)]; done)
                  | (rw [if_pos (by omega), hF 41 (by decide), h41 _ q (by omega)]
                     have := bodyIx_lt l m q (by omega)
                     exact zAdd_in ⟨by omega, by omega⟩ ⟨by omega, by omega⟩ ⟨by omega, by omega⟩)
              · rw [if_neg q] at h160
                first
                  | exact absurd rfl h160
                  | exact (if_neg q).symm
            · rw [up_i (by omega)]; exact ha j j0 (by omega)

set_option maxRecDepth 100000 in
set_option maxHeartbeats 4000000 in
theorem l_tk {X : Cx} {d : Nat} {Q : Option MV → Om → Prop} {ω4 : Om} {B b c : Int} (hB : ω4 29 8 = B) (hB40 : 0 ≤ B ∧ 0 ≤ b ∧ b < 6 ∧ B + b < 40) (hc : ω4 42 b = c) (hc6 : 0 ≤ c ∧ c ≤ 6) : ∀ (r k : Nat) (ω : Om), (k : Int) + r = c → Fr [37] ω4 ω → (∀ j : Int, 0 ≤ j → j < k → ω 37 (6 * (B + b) + j) = ω4 43 (6 * b + j)) → (∀ i, i < 6 * (B + b) → ω 37 i = ω4 37 i) → (∀ (ω' : Om) (z : Int), Fr [37] ω4 ω' → (∀ j : Int, 0 ≤ j → j < c → ω' 37 (6 * (B + b) + j) = ω4 43 (6 * b + j)) → (∀ i, i < 6 * (B + b) → ω' 37 i = ω4 37 i) → JM X mX7_type (d + 6) Q 262 [some (vR 29), some (vI b), some (vI z)] [] ω') → JM X mX7_type (d + 6) Q 219 [some (vR 29), some (vI b), some (vI k)] [] ω := by
  intro r
  induction r with
  | zero =>
    intro k ω hk hF ha hb hQ
    have e42 : ω 42 b = c := by rw [hF 42 (by decide)]; exact hc
    refine J_iload_n 2 dX7_type_219 rfl ?_
    refine J_aload_n 0 dX7_type_220 rfl ?_
    refine J_getR lkF_X7_47 rfl dX7_type_221 ?_
    refine J_iload_n 1 dX7_type_224 rfl ?_
    refine J_iaload _ rfl rfl (by omega) dX7_type_225 ?_
    refine J_icmp_ge 262 dX7_type_226 (by decide) (fun h226 => ?_) (fun h226 => ?_)
    · skip
      exact hQ ω _ hF (fun j q r => ha j q (by omega)) hb
    · skip
      exfalso; omega
  | succ r ih =>
    intro k ω hk hF ha hb hQ
    have e42 : ω 42 b = c := by rw [hF 42 (by decide)]; exact hc
    have e8 : ω 29 8 = B := by rw [hF 29 (by decide)]; exact hB
    refine J_iload_n 2 dX7_type_219 rfl ?_
    refine J_aload_n 0 dX7_type_220 rfl ?_
    refine J_getR lkF_X7_47 rfl dX7_type_221 ?_
    refine J_iload_n 1 dX7_type_224 rfl ?_
    refine J_iaload _ rfl rfl (by omega) dX7_type_225 ?_
    refine J_icmp_ge 262 dX7_type_226 (by decide) (fun h226 => ?_) (fun h226 => ?_)
    · skip
      exfalso; omega
    · skip
      refine J_aload_n 0 dX7_type_229 rfl ?_
      refine J_getR lkF_X7_32 rfl dX7_type_230 ?_
      refine J_bipush 6 dX7_type_233 ⟨by decide, by decide⟩ (by decide) ?_
      refine J_aload_n 0 dX7_type_235 rfl ?_
      refine J_getI 8 lkF_X7_134 rfl rfl rfl dX7_type_236 ?_
      rw [e8]
      refine J_iload_n 1 dX7_type_239 rfl ?_
      refine J_iadd dX7_type_240 ⟨by omega, by omega⟩ ?_
      refine J_imul dX7_type_241 ⟨by omega, by omega⟩ ?_
      refine J_iload_n 2 dX7_type_242 rfl ?_
      refine J_iadd dX7_type_243 ⟨by omega, by omega⟩ ?_
      refine J_aload_n 0 dX7_type_244 rfl ?_
      refine J_getR lkF_X7_50 rfl dX7_type_245 ?_
      refine J_bipush 6 dX7_type_248 ⟨by decide, by decide⟩ (by decide) ?_
      refine J_iload_n 1 dX7_type_250 rfl ?_
      refine J_imul dX7_type_251 ⟨by omega, by omega⟩ ?_
      refine J_iload_n 2 dX7_type_252 rfl ?_
      refine J_iadd dX7_type_253 ⟨by omega, by omega⟩ ?_
      refine J_iaload _ rfl rfl (by omega) dX7_type_254 ?_
      refine J_iastore _ rfl (by omega) dX7_type_255 ?_
      refine J_iinc_2 dX7_type_256 (by decide) ⟨by omega, by omega⟩ rfl ?_
      refine J_goto 219 dX7_type_259 (by decide) ?_
      refine ih (k + 1) _ (by omega) (hF.up (by decide)) (fun j j0 j1 => ?_) (fun i hi => by rw [up_i (by omega)]; exact hb i hi) hQ
      by_cases e : j = (k : Int)
      · rw [e, up_s, hF 43 (by decide)]
      · rw [up_i (by omega)]; exact ha j j0 (by omega)

set_option maxRecDepth 100000 in
set_option maxHeartbeats 4000000 in
theorem l_tb {X : Cx} {d : Nat} {Q : Option MV → Om → Prop} {ω3 : Om} {n B N : Int} (hn : ω3 29 2 = n) (hB : ω3 29 8 = B) (hN : ω3 29 23 = N) (hB40 : 0 ≤ B ∧ 0 ≤ N ∧ N ≤ 6 ∧ B + N ≤ 40) (hc6 : ∀ b, 0 ≤ b → b < N → 0 ≤ ω3 42 b ∧ ω3 42 b ≤ 6) : ∀ (r b : Nat) (ω : Om) (x : Option MV), (b : Int) + r = N → Fr [35, 36, 37] ω3 ω → (∀ j : Int, 0 ≤ j → j < b → ω 35 (B + j) = n ∧ ω 36 (B + j) = ω3 42 j ∧ ∀ k, 0 ≤ k → k < ω3 42 j → ω 37 (6 * (B + j) + k) = ω3 43 (6 * j + k)) → (∀ j, j < B → ω 35 j = ω3 35 j ∧ ω 36 j = ω3 36 j) → (∀ i, i < 6 * B → ω 37 i = ω3 37 i) → (∀ (ω' : Om) (z : Int) (x : Option MV), Fr [35, 36, 37] ω3 ω' → (∀ j : Int, 0 ≤ j → j < N → ω' 35 (B + j) = n ∧ ω' 36 (B + j) = ω3 42 j ∧ ∀ k, 0 ≤ k → k < ω3 42 j → ω' 37 (6 * (B + j) + k) = ω3 43 (6 * j + k)) → (∀ j, j < B → ω' 35 j = ω3 35 j ∧ ω' 36 j = ω3 36 j) → (∀ i, i < 6 * B → ω' 37 i = ω3 37 i) → JM X mX7_type (d + 6) Q 268 [some (vR 29), some (vI z), x] [] ω') → JM X mX7_type (d + 6) Q 177 [some (vR 29), some (vI b), x] [] ω := by
  intro r
  induction r with
  | zero =>
    intro b ω x hb hF ha hc hd hQ
    have e23 : ω 29 23 = N := by rw [hF 29 (by decide)]; exact hN
    refine J_iload_n 1 dX7_type_177 rfl ?_
    refine J_aload_n 0 dX7_type_178 rfl ?_
    refine J_getI 23 lkF_X7_99 rfl rfl rfl dX7_type_179 ?_
    refine J_icmp_ge 268 dX7_type_182 (by decide) (fun h182 => ?_) (fun h182 => ?_)
    · skip
      exact hQ ω _ _ hF (fun j q r => ha j q (by omega)) hc hd
    · skip
      exfalso; omega
  | succ r ih =>
    intro b ω x hb hF ha hc hd hQ
    have e23 : ω 29 23 = N := by rw [hF 29 (by decide)]; exact hN
    have e2 : ω 29 2 = n := by rw [hF 29 (by decide)]; exact hn
    have e8 : ω 29 8 = B := by rw [hF 29 (by decide)]; exact hB
    have e42 : ω 42 = ω3 42 := hF 42 (by decide)
    have hcb := hc6 b (by omega) (by omega)
    refine J_iload_n 1 dX7_type_177 rfl ?_
    refine J_aload_n 0 dX7_type_178 rfl ?_
    refine J_getI 23 lkF_X7_99 rfl rfl rfl dX7_type_179 ?_
    refine J_icmp_ge 268 dX7_type_182 (by decide) (fun h182 => ?_) (fun h182 => ?_)
    · skip
      exfalso; omega
    · skip
      refine J_aload_n 0 dX7_type_185 rfl ?_
      refine J_getR lkF_X7_26 rfl dX7_type_186 ?_
      refine J_aload_n 0 dX7_type_189 rfl ?_
      refine J_getI 8 lkF_X7_134 rfl rfl rfl dX7_type_190 ?_
      rw [e8]
      refine J_iload_n 1 dX7_type_193 rfl ?_
      refine J_iadd dX7_type_194 ⟨by omega, by omega⟩ ?_
      refine J_aload_n 0 dX7_type_195 rfl ?_
      refine J_getI 2 lkF_X7_112 rfl rfl rfl dX7_type_196 ?_
      rw [e2]
      refine J_iastore _ rfl (by omega) dX7_type_199 ?_
      refine J_aload_n 0 dX7_type_200 rfl ?_
      refine J_getR lkF_X7_29 rfl dX7_type_201 ?_
      refine J_aload_n 0 dX7_type_204 rfl ?_
      refine J_getI 8 lkF_X7_134 rfl rfl rfl dX7_type_205 ?_
      try simp (config := {decide := true}) only [up_s, up_k, up_i]
      rw [e8]
      refine J_iload_n 1 dX7_type_208 rfl ?_
      refine J_iadd dX7_type_209 ⟨by omega, by omega⟩ ?_
      refine J_aload_n 0 dX7_type_210 rfl ?_
      refine J_getR lkF_X7_47 rfl dX7_type_211 ?_
      refine J_iload_n 1 dX7_type_214 rfl ?_
      refine J_iaload _ rfl rfl (by omega) dX7_type_215 ?_
      try simp (config := {decide := true}) only [up_s, up_k, up_i]
      rw [e42]
      refine J_iastore _ rfl (by omega) dX7_type_216 ?_
      refine J_iconst 0 dX7_type_217 ⟨by decide, by decide⟩ ?_
      refine J_istore_2 dX7_type_218 (by decide) rfl ?_
      have hF4 : Fr [35, 36, 37] ω3 (up (up ω 35 (B + b) n) 36 (B + b) (ω3 42 b)) := (hF.up (by decide)).up (by decide)
      refine l_tk (ω4 := up (up ω 35 (B + b) n) 36 (B + b) (ω3 42 b)) (B := B) (b := (b : Int)) (c := ω3 42 b) (by rw [up_k (by decide), up_k (by decide)]; exact e8) (by omega) (by rw [up_k (by decide), up_k (by decide), e42]) hcb (ω3 42 b).toNat 0 _ (by omega) Fr.rf (fun j j0 j1 => by omega) (fun i _ => rfl) (fun ω5 z f5 a5 b5 => ?_)
      refine J_iinc_1 dX7_type_262 (by decide) ⟨by omega, by omega⟩ rfl ?_
      refine J_goto 177 dX7_type_265 (by decide) ?_
      refine ih (b + 1) ω5 _ (by omega) (hF4.tr (f5.mono (by decide))) (fun j j0 j1 => ?_) (fun j hj => ?_) (fun i hi => ?_) hQ
      · rw [f5 35 (by decide), f5 36 (by decide)]
        by_cases e : j = (b : Int)
        · subst e
          rw [up_k (by decide), up_s, up_s]
          refine ⟨rfl, rfl, fun k k0 k1 => ?_⟩
          rw [a5 k k0 k1, up_k (by decide), up_k (by decide), hF 43 (by decide)]
        · have hj := ha j j0 (by omega)
          rw [up_k (by decide), up_i (by omega), up_i (by omega), up_k (by decide)]
          refine ⟨hj.1, hj.2.1, fun k k0 k1 => ?_⟩
          have hcj := hc6 j j0 (by omega)
          rw [b5 _ (by omega), up_k (by decide), up_k (by decide)]
          exact hj.2.2 k k0 k1
      · rw [f5 35 (by decide), f5 36 (by decide), up_k (by decide), up_i (by omega), up_i (by omega), up_k (by decide)]
        exact hc j hj
      · rw [b5 _ (by omega), up_k (by decide), up_k (by decide)]
        exact hd i hi

set_option maxRecDepth 100000 in
set_option maxHeartbeats 4000000 in
theorem kX7_type {X : Cx} {d : Nat} {ω : Om} {Q : Option MV → Om → Prop} (hM : MW ω) (hP : PM ω) (hQ0 : tyO (ω 30) (ω 29 2) (ω 29 0).toNat = none → ∀ ω', RF ω ω' → Q (some (vI (-1003))) ω') (hQ1 : ∀ s, tyO (ω 30) (ω 29 2) (ω 29 0).toNat = some s → ¬ (ω 29 2 < 8 ∧ ω 29 8 + nMth s.2.2.1 ≤ 40) → ∀ ω', RF ω ω' → Q (some (vI (-1004))) ω') (hQ2 : ∀ s, tyO (ω 30) (ω 29 2) (ω 29 0).toNat = some s → RW (ω 29 2) s → ω 29 2 < 8 ∧ ω 29 8 + nMth s.2.2.1 ≤ 40 → ∀ ω', TyP ω ω' s → Q (some (vI (ω 29 2))) ω') : Mc X mX7_type (d + 6) [vR 29] ω Q := by
  have n8 := n8_vw hM.1
  have b40 : 0 ≤ ω 29 8 ∧ ω 29 8 ≤ 40 := hM.1.2.1
  have p40 := hP.1
  have hr1 := rdF_1 (ω 30) (ω 29 2) (ω 29 0).toNat 0 rd0
  refine Mc_of [some (vR 29), none, none] (by decide +kernel) rfl (Nat.le_of_ble_eq_true rfl) ?_
  refine J_aload_n 0 dX7_type_0 rfl ?_
  refine JM_V0 lkM_X7_130 rcv_29 dX7_type_1 (by decide) (Nat.le_of_ble_eq_true rfl) ?_
  refine kX7_read rfl n8 hP (fun ω1 q1 q2 => ?_)
  have e0 : ω1 29 0 = ω 29 0 := q2.2 0 (by decide) (by decide) (by decide) (by decide) (by decide) (by decide)
  have e2 : ω1 29 2 = ω 29 2 := q2.2 2 (by decide) (by decide) (by decide) (by decide) (by decide) (by decide)
  have e8 : ω1 29 8 = ω 29 8 := q2.2 8 (by decide) (by decide) (by decide) (by decide) (by decide) (by decide)
  refine J_aload_n 0 dX7_type_4 rfl ?_
  refine J_getI 0 lkF_X7_81 rfl rfl rfl dX7_type_5 ?_
  refine J_icmp_lt 24 dX7_type_8 (by decide) (fun h8 => ?_) (fun h8 => ?_)
  · skip
    refine J_sipush (-1003) dX7_type_24 ⟨by decide, by decide⟩ (by decide) ?_
    refine JM_iret rfl dX7_type_27 ?_
    refine hQ0 ?_ ω1 q2
    unfold tyO
    cases hx : (rdF (ω 30) (ω 29 2) (ω 29 0).toNat 0 rd0).2 with
    | none => rfl
    | some s0 =>
      simp only
      first
        | (exfalso; have := hr1.2 s0 hx; omega)
        | (rw [hs] at hx; cases hx; rw [if_neg (by omega)])
  · skip
    refine J_aload_n 0 dX7_type_11 rfl ?_
    refine J_getI 19 lkF_X7_96 rfl rfl rfl dX7_type_12 ?_
    refine J_iconst 4 dX7_type_15 ⟨by decide, by decide⟩ ?_
    refine J_bipush 6 dX7_type_16 ⟨by decide, by decide⟩ (by decide) ?_
    refine JM_S3 lkM_X7_77 dX7_type_18 (by decide) (Nat.le_of_ble_eq_true rfl) ?_
    have hsome : ∃ s, (rdF (ω 30) (ω 29 2) (ω 29 0).toNat 0 rd0).2 = some s := by
      cases hx : (rdF (ω 30) (ω 29 2) (ω 29 0).toNat 0 rd0).2 with
      | none => have := hr1.1 hx; exfalso; omega
      | some s => exact ⟨s, rfl⟩
    obtain ⟨s, hs⟩ := hsome
    obtain ⟨hRd, hRW⟩ := q1 s hs
    have e19 := hRd.1
    have hN60 := nMth_6 hRW.2.2.1 hRW.2.2.2.1
    have e23 := hRd.2.2.2.2.1
    have hn0 := (nMth_R s.2.2.1).1
    refine kX7_within ?_
    rw [e19]
    generalize hg : (if 4 ≤ s.1 ∧ s.1 ≤ 6 then (1 : Int) else 0) = g
    have hg2 : (g = 1 ∧ (4 ≤ s.1 ∧ s.1 ≤ 6)) ∨ (g = 0 ∧ ¬ (4 ≤ s.1 ∧ s.1 ≤ 6)) := by
      subst hg
      split
      · left; exact ⟨rfl, by omega⟩
      · right; exact ⟨rfl, by omega⟩
    refine J_if_ne 28 dX7_type_21 (by decide) (fun h21 => ?_) (fun h21 => ?_)
    · skip
      have hty : tyO (ω 30) (ω 29 2) (ω 29 0).toNat = some s := by unfold tyO; rw [hs]; simp only; rw [if_pos (by omega)]
      refine J_aload_n 0 dX7_type_28 rfl ?_
      refine J_getI 2 lkF_X7_112 rfl rfl rfl dX7_type_29 ?_
      refine J_bipush 8 dX7_type_32 ⟨by decide, by decide⟩ (by decide) ?_
      refine J_icmp_eq 51 dX7_type_34 (by decide) (fun h34 => ?_) (fun h34 => ?_)
      · skip
        refine J_sipush (-1004) dX7_type_51 ⟨by decide, by decide⟩ (by decide) ?_
        refine JM_iret rfl dX7_type_54 ?_
        exact hQ1 s hty (by omega) ω1 q2
      · skip
        refine J_aload_n 0 dX7_type_37 rfl ?_
        refine J_getI 8 lkF_X7_134 rfl rfl rfl dX7_type_38 ?_
        refine J_aload_n 0 dX7_type_41 rfl ?_
        refine J_getI 23 lkF_X7_99 rfl rfl rfl dX7_type_42 ?_
        refine J_iadd dX7_type_45 ⟨by omega, by omega⟩ ?_
        refine J_bipush 40 dX7_type_46 ⟨by decide, by decide⟩ (by decide) ?_
        refine J_icmp_le 55 dX7_type_48 (by decide) (fun h48 => ?_) (fun h48 => ?_)
        · skip
          refine J_aload_n 0 dX7_type_55 rfl ?_
          refine J_getR lkF_X7_13 rfl dX7_type_56 ?_
          refine J_aload_n 0 dX7_type_59 rfl ?_
          refine J_getI 2 lkF_X7_112 rfl rfl rfl dX7_type_60 ?_
          refine J_aload_n 0 dX7_type_63 rfl ?_
          refine J_getI 20 lkF_X7_115 rfl rfl rfl dX7_type_64 ?_
          refine J_iastore _ rfl (by omega) dX7_type_67 ?_
          refine J_aload_n 0 dX7_type_68 rfl ?_
          refine J_getR lkF_X7_16 rfl dX7_type_69 ?_
          refine J_aload_n 0 dX7_type_72 rfl ?_
          refine J_getI 2 lkF_X7_112 rfl rfl rfl dX7_type_73 ?_
          try simp (config := {decide := true}) only [up_s, up_k, up_i]
          refine J_iconst 0 dX7_type_76 ⟨by decide, by decide⟩ ?_
          refine J_bastore _ rfl (by omega) (by omega) dX7_type_77 ?_
          refine J_aload_n 0 dX7_type_78 rfl ?_
          refine J_getR lkF_X7_23 rfl dX7_type_79 ?_
          refine J_aload_n 0 dX7_type_82 rfl ?_
          refine J_getI 2 lkF_X7_112 rfl rfl rfl dX7_type_83 ?_
          try simp (config := {decide := true}) only [up_s, up_k, up_i]
          refine J_aload_n 0 dX7_type_86 rfl ?_
          refine J_getI 22 lkF_X7_105 rfl rfl rfl dX7_type_87 ?_
          try simp (config := {decide := true}) only [up_s, up_k, up_i]
          refine J_iastore _ rfl (by omega) dX7_type_90 ?_
          refine J_iconst 0 dX7_type_91 ⟨by decide, by decide⟩ ?_
          refine J_istore_1 dX7_type_92 (by decide) rfl ?_
          obtain ⟨ω2, hω2⟩ : ∃ w, w = up (up (up ω1 31 (ω1 29 2) (ω1 29 20)) 32 (ω1 29 2) 0) 34 (ω1 29 2) (ω1 29 22) := ⟨_, rfl⟩
          rw [← hω2]
          have f2 : Fr [31, 32, 34] ω1 ω2 := by rw [hω2]; exact ((Fr.rf.up (by decide)).up (by decide)).up (by decide)
          have c29 : ω2 29 = ω1 29 := f2 29 (by decide)
          have hN6 := nMth_6 hRW.2.2.1 hRW.2.2.2.1
          refine l_tm (ω2 := ω2) (n := ω 29 2) (B := ω 29 8) (l := s.2.2.1) (by rw [c29]; exact e2) (by rw [c29]; exact e8) (by omega) b40 (fun j j0 j1 => by rw [c29, hRd.2.2.1]; exact hRW.2.2.2.2.1 j j0 j1) (fun j hj h6 => by rw [f2 41 (by decide)]; exact (hRd.2.2.2.2.2.2 j hj h6).1) hN6 12 0 ω2 none (by omega) Fr.rf (fun j j0 j1 => by omega) (fun i _ => rfl) (fun ω3 z3 x3 f3 a3 b3 => ?_)
          have g29 : ω3 29 = ω1 29 := by rw [f3 29 (by decide), c29]
          refine J_iconst 0 dX7_type_175 ⟨by decide, by decide⟩ ?_
          refine J_istore_1 dX7_type_176 (by decide) rfl ?_
          refine l_tb (ω3 := ω3) (n := ω 29 2) (B := ω 29 8) (N := nMth s.2.2.1) (by rw [g29]; exact e2) (by rw [g29]; exact e8) (by rw [g29]; exact e23) (by omega) (fun b b0 b1 => by
            obtain ⟨m, hm, h6, e⟩ := bodyIx_sur hRW.2.2.1 b0 b1
            have hd := hRd.2.2.2.2.2.2 m hm h6
            have := hRW.2.2.2.2.2.2.1 m hm
            rw [f3 42 (by decide), f2 42 (by decide), ← e, hd.2.1]
            omega) (nMth s.2.2.1).toNat 0 ω3 x3 (by omega) Fr.rf (fun j j0 j1 => by omega) (fun _ _ => ⟨rfl, rfl⟩) (fun _ _ => rfl) (fun ω4 z4 x4 f4 a4 b4 d4 => ?_)
          have K9 : ∀ i, i ≠ 19 → i ≠ 20 → i ≠ 21 → i ≠ 22 → i ≠ 23 → i ≠ 27 → ω4 29 i = ω 29 i := fun i x y z w v u => by rw [f4 29 (by decide), g29]; exact q2.2 i x y z w v u
          have r2 : ω4 29 2 = ω 29 2 := K9 2 (by decide) (by decide) (by decide) (by decide) (by decide) (by decide)
          have r8 : ω4 29 8 = ω 29 8 := K9 8 (by decide) (by decide) (by decide) (by decide) (by decide) (by decide)
          have r23 : ω4 29 23 = nMth s.2.2.1 := by rw [f4 29 (by decide), g29]; exact e23
          refine J_aload_n 0 dX7_type_268 rfl ?_
          first | refine J_dupR dX7_type_269 ?_ | refine J_dupI dX7_type_269 ?_
          refine J_getI 8 lkF_X7_134 rfl rfl rfl dX7_type_270 ?_
          refine J_aload_n 0 dX7_type_273 rfl ?_
          refine J_getI 23 lkF_X7_99 rfl rfl rfl dX7_type_274 ?_
          refine J_iadd dX7_type_277 ⟨by omega, by omega⟩ ?_
          refine J_putI 8 lkF_X7_134 rfl fp_7_8 rfl dX7_type_278 ?_
          refine J_aload_n 0 dX7_type_281 rfl ?_
          first | refine J_dupR dX7_type_282 ?_ | refine J_dupI dX7_type_282 ?_
          refine J_getI 2 lkF_X7_112 rfl rfl rfl dX7_type_283 ?_
          try simp (config := {decide := true}) only [up_s, up_k, up_i]
          refine J_iconst 1 dX7_type_286 ⟨by decide, by decide⟩ ?_
          refine J_iadd dX7_type_287 ⟨by omega, by omega⟩ ?_
          refine J_putI 2 lkF_X7_112 rfl fp_7_2 rfl dX7_type_288 ?_
          refine J_aload_n 0 dX7_type_291 rfl ?_
          refine J_iconst 0 dX7_type_292 ⟨by decide, by decide⟩ ?_
          refine J_putI 12 lkF_X7_137 rfl fp_7_12 rfl dX7_type_293 ?_
          refine J_aload_n 0 dX7_type_296 rfl ?_
          refine J_iconst 0 dX7_type_297 ⟨by decide, by decide⟩ ?_
          refine J_putI 0 lkF_X7_81 rfl fp_7_0 rfl dX7_type_298 ?_
          refine J_aload_n 0 dX7_type_301 rfl ?_
          refine J_getI 2 lkF_X7_112 rfl rfl rfl dX7_type_302 ?_
          try simp (config := {decide := true}) only [up_s, up_k, up_i]
          refine J_iconst 1 dX7_type_305 ⟨by decide, by decide⟩ ?_
          refine J_isub dX7_type_306 ⟨by omega, by omega⟩ ?_
          refine JM_iret rfl dX7_type_307 ?_
          rw [r2, show ω 29 2 + 1 - 1 = ω 29 2 from by omega]
          refine hQ2 s hty hRW (by omega) _ ⟨?_, ⟨?_, ?_, ?_, ?_, ?_, ?_, ?_, ?_⟩, ⟨fun t ht => ⟨?_, ?_, ?_⟩, ?_, ?_, ?_⟩, ⟨fun j j0 j1 => ?_, fun i hi => ?_⟩, ⟨fun b b0 b1 => ?_, fun b hb => ?_⟩, ⟨fun b hb => ?_, fun i hi => ?_⟩, fun m hm h6 => ?_⟩
          · exact (((((((q2.1.mono (by decide)).tr (f2.mono (by decide))).tr (f3.mono (by decide))).tr (f4.mono (by decide))).up (by decide)).up (by decide)).up (by decide)).up (by decide)
          · simp (config := {decide := true}) only [up_s, up_k, up_i] <;> rw [r2]
          · simp (config := {decide := true}) only [up_s, up_k, up_i] <;> rw [r8, r23]
          · simp (config := {decide := true}) only [up_s, up_k, up_i]
          · simp (config := {decide := true}) only [up_s, up_k, up_i]
          · simp (config := {decide := true}) only [up_s, up_k, up_i]; exact K9 7 (by decide) (by decide) (by decide) (by decide) (by decide) (by decide)
          · simp (config := {decide := true}) only [up_s, up_k, up_i]; exact K9 15 (by decide) (by decide) (by decide) (by decide) (by decide) (by decide)
          · simp (config := {decide := true}) only [up_s, up_k, up_i]; exact K9 17 (by decide) (by decide) (by decide) (by decide) (by decide) (by decide)
          · simp (config := {decide := true}) only [up_s, up_k, up_i]; exact K9 18 (by decide) (by decide) (by decide) (by decide) (by decide) (by decide)
          · rw [up_k (by decide), up_k (by decide), up_k (by decide), up_k (by decide), f4 31 (by decide), f3 31 (by decide), hω2, up_k (by decide), up_k (by decide), up_i (by rw [e2]; exact ht), q2.1 31 (by decide)]
          · rw [up_k (by decide), up_k (by decide), up_k (by decide), up_k (by decide), f4 32 (by decide), f3 32 (by decide), hω2, up_k (by decide), up_i (by rw [e2]; exact ht), up_k (by decide), q2.1 32 (by decide)]
          · rw [up_k (by decide), up_k (by decide), up_k (by decide), up_k (by decide), f4 34 (by decide), f3 34 (by decide), hω2, up_i (by rw [e2]; exact ht), up_k (by decide), up_k (by decide), q2.1 34 (by decide)]
          · rw [up_k (by decide), up_k (by decide), up_k (by decide), up_k (by decide), f4 31 (by decide), f3 31 (by decide), hω2, up_k (by decide), up_k (by decide), ← e2, up_s]; exact hRd.2.1
          · rw [up_k (by decide), up_k (by decide), up_k (by decide), up_k (by decide), f4 32 (by decide), f3 32 (by decide), hω2, up_k (by decide), ← e2, up_s]
          · rw [up_k (by decide), up_k (by decide), up_k (by decide), up_k (by decide), f4 34 (by decide), f3 34 (by decide), hω2, ← e2, up_s]; exact hRd.2.2.2.1
          · rw [up_k (by decide), up_k (by decide), up_k (by decide), up_k (by decide), f4 33 (by decide)]; exact a3 j j0 j1
          · rw [up_k (by decide), up_k (by decide), up_k (by decide), up_k (by decide), f4 33 (by decide), b3 i hi, f2 33 (by decide), q2.1 33 (by decide)]
          · rw [up_k (by decide), up_k (by decide), up_k (by decide), up_k (by decide)]; exact (a4 b b0 b1).1
          · rw [up_k (by decide), up_k (by decide), up_k (by decide), up_k (by decide), (b4 b hb).1, f3 35 (by decide), f2 35 (by decide), q2.1 35 (by decide)]
          · rw [up_k (by decide), up_k (by decide), up_k (by decide), up_k (by decide), (b4 b hb).2, f3 36 (by decide), f2 36 (by decide), q2.1 36 (by decide)]
          · rw [up_k (by decide), up_k (by decide), up_k (by decide), up_k (by decide), d4 i hi, f3 37 (by decide), f2 37 (by decide), q2.1 37 (by decide)]
          · have hix := bodyIx_lt s.2.2.1 m hm h6
            have hx := a4 _ hix.1 hix.2
            have hd := hRd.2.2.2.2.2.2 m hm h6
            rw [up_k (by decide), up_k (by decide), up_k (by decide), up_k (by decide), hx.2.1, f3 42 (by decide), f2 42 (by decide)]
            refine ⟨hd.2.1, Arr_cg (fun i hi => ?_) hd.2.2⟩
            rw [up_k (by decide), up_k (by decide), up_k (by decide), up_k (by decide), hx.2.2 i (by omega) (by rw [f3 42 (by decide), f2 42 (by decide), hd.2.1]; omega), f3 43 (by decide), f2 43 (by decide)]
        · skip
          refine J_sipush (-1004) dX7_type_51 ⟨by decide, by decide⟩ (by decide) ?_
          refine JM_iret rfl dX7_type_54 ?_
          exact hQ1 s hty (by omega) ω1 q2
    · skip
      refine J_sipush (-1003) dX7_type_24 ⟨by decide, by decide⟩ (by decide) ?_
      refine JM_iret rfl dX7_type_27 ?_
      refine hQ0 ?_ ω1 q2
      unfold tyO
      cases hx : (rdF (ω 30) (ω 29 2) (ω 29 0).toNat 0 rd0).2 with
      | none => rfl
      | some s0 =>
        simp only
        first
          | (exfalso; have := hr1.2 s0 hx; omega)
          | (rw [hs] at hx; cases hx; rw [if_neg (by omega)])

/-- the class with which what lies at k came -/
def frm (ω : Om) (k : Int) : Int := if ω 33 k = -1 then -1 else if k % 12 < 6 then ω 35 (ω 33 k) else ω 33 k / 12
def elM (ω : Om) (la : Int) : Nat → Int
  | 0 => 0
  | k + 1 => if elM ω la k = 1 ∨ frm ω k = la then 1 else 0
theorem elM01 (ω : Om) (la : Int) : ∀ k, elM ω la k = 0 ∨ elM ω la k = 1 := by
  intro k
  cases k with
  | zero => left; rfl
  | succ k => rw [elM]; split <;> simp
theorem elM_any (ω : Om) (la : Int) : ∀ k, elM ω la k = 1 ↔ ∃ j : Nat, j < k ∧ frm ω j = la := by
  intro k
  induction k with
  | zero => simp [elM]
  | succ k ih =>
    rw [elM]
    constructor
    · intro q
      by_cases c : elM ω la k = 1 ∨ frm ω k = la
      · rcases c with c | c
        · obtain ⟨j, h1, h2⟩ := ih.1 c; exact ⟨j, by omega, h2⟩
        · exact ⟨k, by omega, c⟩
      · rw [if_neg c] at q; exact absurd q (by decide)
    · intro q
      obtain ⟨j, h1, h2⟩ := q
      rw [if_pos]
      by_cases e : j = k
      · right; rw [← e]; exact h2
      · left; exact ih.2 ⟨j, by omega, h2⟩
theorem mem_rg {ω : Om} (hM : MW ω) {k : Int} (hk : 0 ≤ k ∧ k < 12 * ω 29 2) : -1 ≤ ω 33 k ∧ ω 33 k < 96 ∧ (k % 12 < 6 → ω 33 k < 40) := by
  have h1 := hM.1.2.2.2.1 (k / 12) (k % 12) (by omega) (by rw [vw37]; omega) (by omega)
  have h2 := hM.1.2.2.2.2.1 (k / 12) (k % 12) (by omega) (by rw [vw37]; omega)
  have h8 : 0 ≤ ω 29 8 ∧ ω 29 8 ≤ 40 := hM.1.2.1
  rw [vw14, vw38, show (96 : Int) * 0 + (k / 12 * 12 + k % 12) = k from by omega] at h1
  rw [vw14, show (96 : Int) * 0 + (k / 12 * 12 + k % 12) = k from by omega] at h2
  by_cases q : k % 12 < 6
  · have := h1 q; omega
  · have := h2 (by omega) (by omega); omega
set_option maxRecDepth 100000 in
set_option maxHeartbeats 4000000 in
theorem l_els {X : Cx} {d : Nat} {Q : Option MV → Om → Prop} {ω : Om} {la : Int} (hM : MW ω) (hla : 0 ≤ la ∧ la < ω 29 2) : ∀ (n k : Nat) (x y : Option MV), k + n = 12 * la.toNat → Q (some (vI (elM ω la (12 * la.toNat)))) ω → JM X mX7_isElsewhere d Q 11 [some (vR 29), some (vI la), some (vI (elM ω la k)), some (vI k), x, y] [] ω := by
  have n8 := n8_vw hM.1
  intro n
  induction n with
  | zero =>
    intro k x y hk hQ
    have q01 := elM01 ω la k
    refine J_iload_n 3 dX7_isElsewhere_11 rfl ?_
    refine J_bipush 12 dX7_isElsewhere_12 ⟨by decide, by decide⟩ (by decide) ?_
    refine J_iload_n 1 dX7_isElsewhere_14 rfl ?_
    refine J_imul dX7_isElsewhere_15 ⟨by omega, by omega⟩ ?_
    refine J_icmp_ge 85 dX7_isElsewhere_16 (by decide) (fun h16 => ?_) (fun h16 => ?_)
    · skip
      refine J_iload_n 2 dX7_isElsewhere_85 rfl ?_
      refine JM_zret rfl (by omega) dX7_isElsewhere_86 ?_
      obtain rfl : k = 12 * la.toNat := by omega
      exact hQ
    · skip
      exfalso; omega
  | succ n ih =>
    intro k x y hk hQ
    have q01 := elM01 ω la k
    have hrg := mem_rg hM (k := (k : Int)) (by omega)
    have hfr : frm ω k = if ω 33 k = -1 then -1 else if (k : Int) % 12 < 6 then ω 35 (ω 33 k) else ω 33 k / 12 := rfl
    refine J_iload_n 3 dX7_isElsewhere_11 rfl ?_
    refine J_bipush 12 dX7_isElsewhere_12 ⟨by decide, by decide⟩ (by decide) ?_
    refine J_iload_n 1 dX7_isElsewhere_14 rfl ?_
    refine J_imul dX7_isElsewhere_15 ⟨by omega, by omega⟩ ?_
    refine J_icmp_ge 85 dX7_isElsewhere_16 (by decide) (fun h16 => ?_) (fun h16 => ?_)
    · skip
      exfalso; omega
    · skip
      refine J_aload_n 0 dX7_isElsewhere_19 rfl ?_
      refine J_getR lkF_X7_20 rfl dX7_isElsewhere_20 ?_
      refine J_iload_n 3 dX7_isElsewhere_23 rfl ?_
      refine J_iaload _ rfl rfl (by omega) dX7_isElsewhere_24 ?_
      refine J_istore_4 dX7_isElsewhere_25 (by decide) rfl ?_
      refine J_iload 4 dX7_isElsewhere_27 rfl ?_
      refine J_iconst (-1) dX7_isElsewhere_29 ⟨by decide, by decide⟩ ?_
      refine J_icmp_ne 37 dX7_isElsewhere_30 (by decide) (fun h30 => ?_) (fun h30 => ?_)
      · skip
        rw [if_neg (by omega)] at hfr
        refine J_iload_n 3 dX7_isElsewhere_37 rfl ?_
        refine J_bipush 12 dX7_isElsewhere_38 ⟨by decide, by decide⟩ (by decide) ?_
        refine J_irem dX7_isElsewhere_40 (by omega) (by omega) ?_
        refine J_bipush 6 dX7_isElsewhere_41 ⟨by decide, by decide⟩ (by decide) ?_
        refine J_icmp_ge 56 dX7_isElsewhere_43 (by decide) (fun h43 => ?_) (fun h43 => ?_)
        · skip
          rw [if_neg (by omega)] at hfr
          refine J_iload 4 dX7_isElsewhere_56 rfl ?_
          refine J_bipush 12 dX7_isElsewhere_58 ⟨by decide, by decide⟩ (by decide) ?_
          refine J_idiv dX7_isElsewhere_60 (by omega) (by omega) ?_
          refine J_istore_5 dX7_isElsewhere_61 (by decide) rfl ?_
          refine J_iload_n 2 dX7_isElsewhere_63 rfl ?_
          refine J_if_ne 73 dX7_isElsewhere_64 (by decide) (fun h64 => ?_) (fun h64 => ?_)
          · skip
            refine J_iconst 1 dX7_isElsewhere_73 ⟨by decide, by decide⟩ ?_
            refine J_goto 78 dX7_isElsewhere_74 (by decide) ?_
            refine J_istore_2 dX7_isElsewhere_78 (by decide) rfl ?_
            refine J_iinc_3 dX7_isElsewhere_79 (by decide) ⟨by omega, by omega⟩ rfl ?_
            refine J_goto 11 dX7_isElsewhere_82 (by decide) ?_
            have e := fun x y => ih (k + 1) x y (by omega) hQ
            rw [elM] at e
            first | (rw [if_pos (by omega)] at e; exact e _ _) | (rw [if_neg (by omega)] at e; exact e _ _)
          · skip
            refine J_iload 5 dX7_isElsewhere_67 rfl ?_
            refine J_iload_n 1 dX7_isElsewhere_69 rfl ?_
            refine J_icmp_ne 77 dX7_isElsewhere_70 (by decide) (fun h70 => ?_) (fun h70 => ?_)
            · skip
              refine J_iconst 0 dX7_isElsewhere_77 ⟨by decide, by decide⟩ ?_
              refine J_istore_2 dX7_isElsewhere_78 (by decide) rfl ?_
              refine J_iinc_3 dX7_isElsewhere_79 (by decide) ⟨by omega, by omega⟩ rfl ?_
              refine J_goto 11 dX7_isElsewhere_82 (by decide) ?_
              have e := fun x y => ih (k + 1) x y (by omega) hQ
              rw [elM] at e
              first | (rw [if_pos (by omega)] at e; exact e _ _) | (rw [if_neg (by omega)] at e; exact e _ _)
            · skip
              refine J_iconst 1 dX7_isElsewhere_73 ⟨by decide, by decide⟩ ?_
              refine J_goto 78 dX7_isElsewhere_74 (by decide) ?_
              refine J_istore_2 dX7_isElsewhere_78 (by decide) rfl ?_
              refine J_iinc_3 dX7_isElsewhere_79 (by decide) ⟨by omega, by omega⟩ rfl ?_
              refine J_goto 11 dX7_isElsewhere_82 (by decide) ?_
              have e := fun x y => ih (k + 1) x y (by omega) hQ
              rw [elM] at e
              first | (rw [if_pos (by omega)] at e; exact e _ _) | (rw [if_neg (by omega)] at e; exact e _ _)
        · skip
          rw [if_pos (by omega)] at hfr
          refine J_aload_n 0 dX7_isElsewhere_46 rfl ?_
          refine J_getR lkF_X7_26 rfl dX7_isElsewhere_47 ?_
          refine J_iload 4 dX7_isElsewhere_50 rfl ?_
          refine J_iaload _ rfl rfl (by omega) dX7_isElsewhere_52 ?_
          refine J_goto 61 dX7_isElsewhere_53 (by decide) ?_
          refine J_istore_5 dX7_isElsewhere_61 (by decide) rfl ?_
          refine J_iload_n 2 dX7_isElsewhere_63 rfl ?_
          refine J_if_ne 73 dX7_isElsewhere_64 (by decide) (fun h64 => ?_) (fun h64 => ?_)
          · skip
            refine J_iconst 1 dX7_isElsewhere_73 ⟨by decide, by decide⟩ ?_
            refine J_goto 78 dX7_isElsewhere_74 (by decide) ?_
            refine J_istore_2 dX7_isElsewhere_78 (by decide) rfl ?_
            refine J_iinc_3 dX7_isElsewhere_79 (by decide) ⟨by omega, by omega⟩ rfl ?_
            refine J_goto 11 dX7_isElsewhere_82 (by decide) ?_
            have e := fun x y => ih (k + 1) x y (by omega) hQ
            rw [elM] at e
            first | (rw [if_pos (by omega)] at e; exact e _ _) | (rw [if_neg (by omega)] at e; exact e _ _)
          · skip
            refine J_iload 5 dX7_isElsewhere_67 rfl ?_
            refine J_iload_n 1 dX7_isElsewhere_69 rfl ?_
            refine J_icmp_ne 77 dX7_isElsewhere_70 (by decide) (fun h70 => ?_) (fun h70 => ?_)
            · skip
              refine J_iconst 0 dX7_isElsewhere_77 ⟨by decide, by decide⟩ ?_
              refine J_istore_2 dX7_isElsewhere_78 (by decide) rfl ?_
              refine J_iinc_3 dX7_isElsewhere_79 (by decide) ⟨by omega, by omega⟩ rfl ?_
              refine J_goto 11 dX7_isElsewhere_82 (by decide) ?_
              have e := fun x y => ih (k + 1) x y (by omega) hQ
              rw [elM] at e
              first | (rw [if_pos (by omega)] at e; exact e _ _) | (rw [if_neg (by omega)] at e; exact e _ _)
            · skip
              refine J_iconst 1 dX7_isElsewhere_73 ⟨by decide, by decide⟩ ?_
              refine J_goto 78 dX7_isElsewhere_74 (by decide) ?_
              refine J_istore_2 dX7_isElsewhere_78 (by decide) rfl ?_
              refine J_iinc_3 dX7_isElsewhere_79 (by decide) ⟨by omega, by omega⟩ rfl ?_
              refine J_goto 11 dX7_isElsewhere_82 (by decide) ?_
              have e := fun x y => ih (k + 1) x y (by omega) hQ
              rw [elM] at e
              first | (rw [if_pos (by omega)] at e; exact e _ _) | (rw [if_neg (by omega)] at e; exact e _ _)
      · skip
        rw [if_pos (by omega)] at hfr
        refine J_iconst (-1) dX7_isElsewhere_33 ⟨by decide, by decide⟩ ?_
        refine J_goto 61 dX7_isElsewhere_34 (by decide) ?_
        refine J_istore_5 dX7_isElsewhere_61 (by decide) rfl ?_
        refine J_iload_n 2 dX7_isElsewhere_63 rfl ?_
        refine J_if_ne 73 dX7_isElsewhere_64 (by decide) (fun h64 => ?_) (fun h64 => ?_)
        · skip
          refine J_iconst 1 dX7_isElsewhere_73 ⟨by decide, by decide⟩ ?_
          refine J_goto 78 dX7_isElsewhere_74 (by decide) ?_
          refine J_istore_2 dX7_isElsewhere_78 (by decide) rfl ?_
          refine J_iinc_3 dX7_isElsewhere_79 (by decide) ⟨by omega, by omega⟩ rfl ?_
          refine J_goto 11 dX7_isElsewhere_82 (by decide) ?_
          have e := fun x y => ih (k + 1) x y (by omega) hQ
          rw [elM] at e
          first | (rw [if_pos (by omega)] at e; exact e _ _) | (rw [if_neg (by omega)] at e; exact e _ _)
        · skip
          refine J_iload 5 dX7_isElsewhere_67 rfl ?_
          refine J_iload_n 1 dX7_isElsewhere_69 rfl ?_
          refine J_icmp_ne 77 dX7_isElsewhere_70 (by decide) (fun h70 => ?_) (fun h70 => ?_)
          · skip
            refine J_iconst 0 dX7_isElsewhere_77 ⟨by decide, by decide⟩ ?_
            refine J_istore_2 dX7_isElsewhere_78 (by decide) rfl ?_
            refine J_iinc_3 dX7_isElsewhere_79 (by decide) ⟨by omega, by omega⟩ rfl ?_
            refine J_goto 11 dX7_isElsewhere_82 (by decide) ?_
            have e := fun x y => ih (k + 1) x y (by omega) hQ
            rw [elM] at e
            first | (rw [if_pos (by omega)] at e; exact e _ _) | (rw [if_neg (by omega)] at e; exact e _ _)
          · skip
            refine J_iconst 1 dX7_isElsewhere_73 ⟨by decide, by decide⟩ ?_
            refine J_goto 78 dX7_isElsewhere_74 (by decide) ?_
            refine J_istore_2 dX7_isElsewhere_78 (by decide) rfl ?_
            refine J_iinc_3 dX7_isElsewhere_79 (by decide) ⟨by omega, by omega⟩ rfl ?_
            refine J_goto 11 dX7_isElsewhere_82 (by decide) ?_
            have e := fun x y => ih (k + 1) x y (by omega) hQ
            rw [elM] at e
            first | (rw [if_pos (by omega)] at e; exact e _ _) | (rw [if_neg (by omega)] at e; exact e _ _)

set_option maxRecDepth 100000 in
set_option maxHeartbeats 4000000 in
theorem kX7_isElsewhere {X : Cx} {d : Nat} {ω : Om} {Q : Option MV → Om → Prop} (hM : MW ω) (hn : 0 < ω 29 2) (hQ : Q (some (vI (elM ω (ω 29 2 - 1) (12 * (ω 29 2 - 1).toNat)))) ω) : Mc X mX7_isElsewhere d [vR 29] ω Q := by
  have n8 := n8_vw hM.1
  refine Mc_of [some (vR 29), none, none, none, none, none] (by decide +kernel) rfl (Nat.le_of_ble_eq_true rfl) ?_
  refine J_aload_n 0 dX7_isElsewhere_0 rfl ?_
  refine J_getI 2 lkF_X7_112 rfl rfl rfl dX7_isElsewhere_1 ?_
  refine J_iconst 1 dX7_isElsewhere_4 ⟨by decide, by decide⟩ ?_
  refine J_isub dX7_isElsewhere_5 ⟨by omega, by omega⟩ ?_
  refine J_istore_1 dX7_isElsewhere_6 (by decide) rfl ?_
  refine J_iconst 0 dX7_isElsewhere_7 ⟨by decide, by decide⟩ ?_
  refine J_istore_2 dX7_isElsewhere_8 (by decide) rfl ?_
  refine J_iconst 0 dX7_isElsewhere_9 ⟨by decide, by decide⟩ ?_
  refine J_istore_3 dX7_isElsewhere_10 (by decide) rfl ?_
  exact l_els hM (by omega) (12 * (ω 29 2 - 1).toNat) 0 none none (by omega) hQ

/-- the last class is dropped; F bodies stay -/
def DrP (ω ω' : Om) (F : Int) : Prop := Fr [29] ω ω' ∧ ω' 29 2 = ω 29 2 - 1 ∧ ω' 29 8 = F ∧ ω' 29 12 = 0 ∧ ∀ i, i ≠ 2 → i ≠ 8 → i ≠ 12 → ω' 29 i = ω 29 i
set_option maxRecDepth 100000 in
set_option maxHeartbeats 4000000 in
theorem l_drp {X : Cx} {d : Nat} {Q : Option MV → Om → Prop} {ω0 : Om} {F : Int} (h8 : 0 ≤ F ∧ F ≤ ω0 29 8 ∧ ω0 29 8 ≤ 40) (hF1 : ∀ b, F ≤ b → b < ω0 29 8 → ω0 35 b = ω0 29 2 - 1) (hF2 : 0 < F → ¬ ω0 35 (F - 1) = ω0 29 2 - 1) : ∀ (r : Nat) (ω : Om), ω 29 8 = F + r → ω 29 8 ≤ ω0 29 8 → Fr [29] ω0 ω → ω 29 2 = ω0 29 2 - 1 → (∀ i, i ≠ 2 → i ≠ 8 → i ≠ 12 → ω 29 i = ω0 29 i) → (∀ ω', DrP ω0 ω' F → Q (some (vI (ω0 29 2 - 1))) ω') → JM X mX7_drop (d + 1) Q 28 [some (vR 29)] [] ω := by
  intro r
  induction r with
  | zero =>
    intro ω hr hle hF h2 h9 hQ
    have e35 : ω 35 = ω0 35 := hF 35 (by decide)
    refine J_aload_n 0 dX7_drop_28 rfl ?_
    refine J_getI 8 lkF_X7_134 rfl rfl rfl dX7_drop_29 ?_
    refine J_if_le 66 dX7_drop_32 (by decide) (fun h32 => ?_) (fun h32 => ?_)
    · skip
      refine J_aload_n 0 dX7_drop_66 rfl ?_
      refine J_iconst 0 dX7_drop_67 ⟨by decide, by decide⟩ ?_
      refine J_putI 12 lkF_X7_137 rfl fp_7_12 rfl dX7_drop_68 ?_
      refine J_aload_n 0 dX7_drop_71 rfl ?_
      refine J_getI 2 lkF_X7_112 rfl rfl rfl dX7_drop_72 ?_
      try simp (config := {decide := true}) only [up_s, up_k, up_i]
      refine JM_iret rfl dX7_drop_75 ?_
      rw [h2]
      exact hQ _ ⟨hF.up (by decide), by rw [up_i (by decide)]; exact h2, by rw [up_i (by decide)]; omega, up_s, fun i a b c => by rw [up_i c]; exact h9 i a b c⟩
    · skip
      refine J_aload_n 0 dX7_drop_35 rfl ?_
      refine J_getR lkF_X7_26 rfl dX7_drop_36 ?_
      refine J_aload_n 0 dX7_drop_39 rfl ?_
      refine J_getI 8 lkF_X7_134 rfl rfl rfl dX7_drop_40 ?_
      refine J_iconst 1 dX7_drop_43 ⟨by decide, by decide⟩ ?_
      refine J_isub dX7_drop_44 ⟨by omega, by omega⟩ ?_
      refine J_iaload _ rfl rfl (by omega) dX7_drop_45 ?_
      rw [e35]
      refine J_aload_n 0 dX7_drop_46 rfl ?_
      refine J_getI 2 lkF_X7_112 rfl rfl rfl dX7_drop_47 ?_
      refine J_icmp_ne 66 dX7_drop_50 (by decide) (fun h50 => ?_) (fun h50 => ?_)
      · skip
        refine J_aload_n 0 dX7_drop_66 rfl ?_
        refine J_iconst 0 dX7_drop_67 ⟨by decide, by decide⟩ ?_
        refine J_putI 12 lkF_X7_137 rfl fp_7_12 rfl dX7_drop_68 ?_
        refine J_aload_n 0 dX7_drop_71 rfl ?_
        refine J_getI 2 lkF_X7_112 rfl rfl rfl dX7_drop_72 ?_
        try simp (config := {decide := true}) only [up_s, up_k, up_i]
        refine JM_iret rfl dX7_drop_75 ?_
        rw [h2]
        exact hQ _ ⟨hF.up (by decide), by rw [up_i (by decide)]; exact h2, by rw [up_i (by decide)]; omega, up_s, fun i a b c => by rw [up_i c]; exact h9 i a b c⟩
      · skip
        exfalso
        have := hF2 (by omega)
        rw [show F - 1 = ω 29 8 - 1 from by omega] at this
        omega
  | succ r ih =>
    intro ω hr hle hF h2 h9 hQ
    have e35 : ω 35 = ω0 35 := hF 35 (by decide)
    have hb := hF1 (ω 29 8 - 1) (by omega) (by omega)
    refine J_aload_n 0 dX7_drop_28 rfl ?_
    refine J_getI 8 lkF_X7_134 rfl rfl rfl dX7_drop_29 ?_
    refine J_if_le 66 dX7_drop_32 (by decide) (fun h32 => ?_) (fun h32 => ?_)
    · skip
      exfalso; omega
    · skip
      refine J_aload_n 0 dX7_drop_35 rfl ?_
      refine J_getR lkF_X7_26 rfl dX7_drop_36 ?_
      refine J_aload_n 0 dX7_drop_39 rfl ?_
      refine J_getI 8 lkF_X7_134 rfl rfl rfl dX7_drop_40 ?_
      refine J_iconst 1 dX7_drop_43 ⟨by decide, by decide⟩ ?_
      refine J_isub dX7_drop_44 ⟨by omega, by omega⟩ ?_
      refine J_iaload _ rfl rfl (by omega) dX7_drop_45 ?_
      rw [e35]
      refine J_aload_n 0 dX7_drop_46 rfl ?_
      refine J_getI 2 lkF_X7_112 rfl rfl rfl dX7_drop_47 ?_
      refine J_icmp_ne 66 dX7_drop_50 (by decide) (fun h50 => ?_) (fun h50 => ?_)
      · skip
        exfalso; omega
      · skip
        refine J_aload_n 0 dX7_drop_53 rfl ?_
        first | refine J_dupR dX7_drop_54 ?_ | refine J_dupI dX7_drop_54 ?_
        refine J_getI 8 lkF_X7_134 rfl rfl rfl dX7_drop_55 ?_
        refine J_iconst 1 dX7_drop_58 ⟨by decide, by decide⟩ ?_
        refine J_isub dX7_drop_59 ⟨by omega, by omega⟩ ?_
        refine J_putI 8 lkF_X7_134 rfl fp_7_8 rfl dX7_drop_60 ?_
        refine J_goto 28 dX7_drop_63 (by decide) ?_
        exact ih _ (by rw [up_s]; omega) (by rw [up_s]; omega) (hF.up (by decide)) (by rw [up_i (by decide)]; exact h2) (fun i a b c => by rw [up_i b]; exact h9 i a b c) hQ

set_option maxRecDepth 100000 in
set_option maxHeartbeats 4000000 in
theorem kX7_drop {X : Cx} {d : Nat} {ω : Om} {Q : Option MV → Om → Prop} {F : Int} (hM : MW ω) (hF0 : 0 < ω 29 2 → 0 ≤ F ∧ F ≤ ω 29 8) (hF1 : ∀ b, F ≤ b → b < ω 29 8 → 0 < ω 29 2 → ω 35 b = ω 29 2 - 1) (hF2 : 0 < ω 29 2 → 0 < F → ¬ ω 35 (F - 1) = ω 29 2 - 1) (hQ : if ω 29 2 = 0 ∨ elM ω (ω 29 2 - 1) (12 * (ω 29 2 - 1).toNat) = 1 then Q (some (vI (-1003))) ω else ∀ ω', DrP ω ω' F → Q (some (vI (ω 29 2 - 1))) ω') : Mc X mX7_drop (d + 1) [vR 29] ω Q := by
  have n8 := n8_vw hM.1
  have h8 : 0 ≤ ω 29 8 ∧ ω 29 8 ≤ 40 := hM.1.2.1
  have q01 := elM01 ω (ω 29 2 - 1) (12 * (ω 29 2 - 1).toNat)
  refine Mc_of [some (vR 29)] (by decide +kernel) rfl (Nat.le_of_ble_eq_true rfl) ?_
  refine J_aload_n 0 dX7_drop_0 rfl ?_
  refine J_getI 2 lkF_X7_112 rfl rfl rfl dX7_drop_1 ?_
  refine J_if_eq 14 dX7_drop_4 (by decide) (fun h4 => ?_) (fun h4 => ?_)
  · skip
    refine J_sipush (-1003) dX7_drop_14 ⟨by decide, by decide⟩ (by decide) ?_
    refine JM_iret rfl dX7_drop_17 ?_
    rw [if_pos (by omega)] at hQ; exact hQ
  · skip
    refine J_aload_n 0 dX7_drop_7 rfl ?_
    refine JM_V0 lkM_X7_143 rcv_29 dX7_drop_8 (by decide) (Nat.le_of_ble_eq_true rfl) ?_
    refine kX7_isElsewhere hM (by omega) ?_
    refine J_if_eq 18 dX7_drop_11 (by decide) (fun h11 => ?_) (fun h11 => ?_)
    · skip
      refine J_aload_n 0 dX7_drop_18 rfl ?_
      first | refine J_dupR dX7_drop_19 ?_ | refine J_dupI dX7_drop_19 ?_
      refine J_getI 2 lkF_X7_112 rfl rfl rfl dX7_drop_20 ?_
      refine J_iconst 1 dX7_drop_23 ⟨by decide, by decide⟩ ?_
      refine J_isub dX7_drop_24 ⟨by omega, by omega⟩ ?_
      refine J_putI 2 lkF_X7_112 rfl fp_7_2 rfl dX7_drop_25 ?_
      rw [if_neg (by omega)] at hQ
      have hF00 := hF0 (by omega)
      exact l_drp (ω0 := ω) (by omega) (fun b x y => hF1 b x y (by omega)) (hF2 (by omega)) (ω 29 8 - F).toNat _ (by rw [up_i (by decide)]; omega) (by rw [up_i (by decide)]; exact Int.le_refl _) (Fr.rf.up (by decide)) up_s (fun i a b c => up_i a) hQ
    · skip
      refine J_sipush (-1003) dX7_drop_14 ⟨by decide, by decide⟩ (by decide) ?_
      refine JM_iret rfl dX7_drop_17 ?_
      rw [if_pos (by omega)] at hQ; exact hQ
