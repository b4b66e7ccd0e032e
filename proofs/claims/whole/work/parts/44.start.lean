/-! the law, from its entry -/
def om0 : Om := fun k j => match k with
  | 5 => if j = 7 then -1 else 0
  | 6 => if j = 9 ∨ j = 13 then -1 else 0
  | _ => 0
set_option maxRecDepth 100000 in
set_option maxHeartbeats 4000000 in
theorem pic0 (X : Cx) : pic X om0 = [(X.2.2.1 0, .inr (6, [.ref (X.2.2.1 1), .ref (X.2.2.1 2), .ref (X.2.2.1 3), .ref (X.2.2.1 5), .ref (X.2.2.1 6), .ref (X.2.2.1 7), z0])),
  (X.2.2.1 1, .inr (1, [.ref (X.2.2.1 8), z0])),
  (X.2.2.1 2, .inr (2, [.ref (X.2.2.1 9), .ref (X.2.2.1 10), .ref (X.2.2.1 11), z0, z0, z0, z0, z0, z0])),
  (X.2.2.1 3, .inr (5, [.ref (X.2.2.1 12), .ref (X.2.2.1 13), .ref (X.2.2.1 14), .ref (X.2.2.1 15), .ref (X.2.2.1 16), .ref (X.2.2.1 17), .ref (X.2.2.1 18), z0, z0, z0])),
  (X.2.2.1 4, .inr (4, [.ref (X.2.2.1 3), .ref (X.2.2.1 19), .ref (X.2.2.1 20), .ref (X.2.2.1 21), .ref (X.2.2.1 22), lz, z0, z0, z0])),
  (X.2.2.1 5, .inr (3, [.ref (X.2.2.1 3), .ref (X.2.2.1 4), .ref (X.2.2.1 23), .ref (X.2.2.1 24), .ref (X.2.2.1 25), lz, z0, m1])),
  (X.2.2.1 6, .inr (0, [.ref (X.2.2.1 3), .ref (X.2.2.1 4), .ref (X.2.2.1 5), .ref (X.2.2.1 26), .ref (X.2.2.1 27), .ref (X.2.2.1 28), z0, z0, z0, m1, z0, z0, z0, m1])),
  (X.2.2.1 7, ar X.2.2.2.1 6),
  (X.2.2.1 8, ar X.2.2.2.1 40),
  (X.2.2.1 9, ar X.2.2.2.1 12),
  (X.2.2.1 10, ar X.2.2.2.1 12),
  (X.2.2.1 11, ar X.2.2.2.1 72),
  (X.2.2.1 12, ar X.2.2.2.1 8),
  (X.2.2.1 13, ar X.2.2.2.2 8),
  (X.2.2.1 14, ar X.2.2.2.1 96),
  (X.2.2.1 15, ar X.2.2.2.1 8),
  (X.2.2.1 16, ar X.2.2.2.1 8),
  (X.2.2.1 17, ar X.2.2.2.1 40),
  (X.2.2.1 18, ar X.2.2.2.1 240),
  (X.2.2.1 19, ar X.2.2.2.1 60),
  (X.2.2.1 20, ar X.2.2.2.1 40),
  (X.2.2.1 21, ar X.2.2.2.1 40),
  (X.2.2.1 22, ar X.2.2.2.1 40),
  (X.2.2.1 23, ar X.2.2.2.1 2880),
  (X.2.2.1 24, ar X.2.2.2.1 48),
  (X.2.2.1 25, ar X.2.2.2.1 48),
  (X.2.2.1 26, ar X.2.2.2.1 168),
  (X.2.2.1 27, ar X.2.2.2.1 21),
  (X.2.2.1 28, ar X.2.2.2.1 21),
  (X.2.2.1 29, .inr (7, [z0, .ref (X.2.2.1 30), z0, .ref (X.2.2.1 31), .ref (X.2.2.1 32), .ref (X.2.2.1 33), .ref (X.2.2.1 34), z0, z0, .ref (X.2.2.1 35), .ref (X.2.2.1 36), .ref (X.2.2.1 37), z0, .ref (X.2.2.1 38), .ref (X.2.2.1 39), z0, .ref (X.2.2.1 40), z0, z0, z0, z0, z0, z0, z0, .ref (X.2.2.1 41), .ref (X.2.2.1 42), .ref (X.2.2.1 43), z0, z0, .ref (X.2.2.1 44), .ref (X.2.2.1 45), z0, z0, .ref (X.2.2.1 46), .ref (X.2.2.1 47), .ref (X.2.2.1 48), z0, .ref (X.2.2.1 49), .ref (X.2.2.1 50), z0, z0, z0, .ref (X.2.2.1 51), z0, lz])),
  (X.2.2.1 30, ar X.2.2.2.1 40),
  (X.2.2.1 31, ar X.2.2.2.1 8),
  (X.2.2.1 32, ar X.2.2.2.2 8),
  (X.2.2.1 33, ar X.2.2.2.1 192),
  (X.2.2.1 34, ar X.2.2.2.1 16),
  (X.2.2.1 35, ar X.2.2.2.1 40),
  (X.2.2.1 36, ar X.2.2.2.1 40),
  (X.2.2.1 37, ar X.2.2.2.1 240),
  (X.2.2.1 38, ar X.2.2.2.1 1920),
  (X.2.2.1 39, ar X.2.2.2.1 160),
  (X.2.2.1 40, ar X.2.2.2.1 6),
  (X.2.2.1 41, ar X.2.2.2.1 6),
  (X.2.2.1 42, ar X.2.2.2.1 6),
  (X.2.2.1 43, ar X.2.2.2.1 36),
  (X.2.2.1 44, ar X.2.2.2.1 60),
  (X.2.2.1 45, ar X.2.2.2.1 60),
  (X.2.2.1 46, ar X.2.2.2.1 61),
  (X.2.2.1 47, ar X.2.2.2.1 61),
  (X.2.2.1 48, ar X.2.2.2.1 61),
  (X.2.2.1 49, ar X.2.2.2.1 60),
  (X.2.2.1 50, ar X.2.2.2.1 60),
  (X.2.2.1 51, ar X.2.2.2.2 40)] := by
  simp only [pic, lay, List.mapIdx_cons, List.mapIdx_nil, cellOf, fv]
  rfl
theorem om0_v (k : Nat) (j : Int) : om0 k j = 0 ∨ om0 k j = -1 := by
  unfold om0
  split
  · split <;> simp
  · split <;> simp
  · exact Or.inl rfl
theorem ROm0 : ROm om0 := by
  refine ⟨fun k j _ => ?_, fun k j => ?_⟩
  · rcases om0_v k j with h | h <;> rw [h] <;> exact ⟨by decide, by decide⟩
  · rcases om0_v k j with h | h <;> rw [h] <;> exact ⟨by decide, by decide⟩
theorem om0_0 {k : Nat} (h5 : k ≠ 5) (h6 : k ≠ 6) (j : Int) : om0 k j = 0 := by
  unfold om0
  split
  · exact absurd rfl h5
  · exact absurd rfl h6
  · rfl
theorem RR00 : RR 0 om0 := by
  have z : ∀ (k : Nat) (j : Int), k ≠ 5 → k ≠ 6 → om0 k j = 0 := fun k j a b => om0_0 a b j
  have e37 : om0 3 7 = 0 := z 3 7 (by decide) (by decide)
  have e38 : om0 3 8 = 0 := z 3 8 (by decide) (by decide)
  have e292 : om0 29 2 = 0 := z 29 2 (by decide) (by decide)
  have e298 : om0 29 8 = 0 := z 29 8 (by decide) (by decide)
  have e11 : om0 1 1 = 0 := z 1 1 (by decide) (by decide)
  have e06 : om0 0 6 = 0 := z 0 6 (by decide) (by decide)
  refine RR_0 (CS_bump ?_ ?_ (by decide) (by decide)) ?_ rfl ⟨⟨⟨by decide, by decide⟩, fun i i0 i1 => ?_⟩, rfl, fun i i0 i1 => ?_⟩ ⟨⟨⟨by decide, by decide⟩, fun i i0 i1 => ?_⟩, rfl, fun i i0 i1 => ?_⟩ rfl rfl ⟨⟨by decide, by decide⟩, rfl⟩ ⟨⟨by decide, by decide⟩, rfl⟩ ⟨by decide, by decide⟩ (fun t t0 t1 => ?_) (fun b b0 b1 => ?_) (fun t n t0 t1 n0 n1 => ?_)
  · unfold WfT
    refine ⟨⟨by decide, by decide⟩, ⟨by decide, by decide⟩, ?_⟩
    exact ⟨fun t t0 t1 => by exfalso; omega, fun t m t0 t1 => by exfalso; omega, fun t m t0 t1 => by exfalso; omega, fun t t0 t1 => by exfalso; omega, fun t m t0 t1 => by exfalso; omega, fun b b0 b1 => by exfalso; omega, fun b k b0 b1 => by exfalso; omega, fun t t0 t1 => by exfalso; omega⟩
  · intro t t0 t1
    rw [z 15 t (by decide) (by decide)]
    exact ⟨by decide, by decide⟩
  · unfold TQ
    exact ⟨by first | rfl | simp [vw, e292, e37], by first | rfl | simp [vw, e298, e38], fun t t0 t1 => by exfalso; omega, fun t m t0 t1 => by exfalso; omega, fun b b0 b1 => by exfalso; omega, fun b k b0 b1 => by exfalso; omega⟩
  · exfalso; omega
  · exfalso; omega
  · exfalso; omega
  · exfalso; omega
  · exfalso; omega
  · exfalso; omega
  · exfalso; omega
theorem inj_of {X : Cx} {A : Nat → Prop} {ω : Om} (h : va_D A (pic X ω)) : InjX X ∧ ∀ k, k < 52 → A (X.2.2.1 k) := by
  have key : ∀ k, k < 52 → ∃ e : va_E, (pic X ω)[k]? = some (X.2.2.1 k, e) := by
    intro k hk
    rw [← lay_len] at hk
    exact ⟨_, by rw [pic_get, List.getElem?_eq_getElem hk]; rfl⟩
  refine ⟨fun i j hi hj e => ?_, fun k hk => ?_⟩
  · obtain ⟨a, ha⟩ := key i hi
    obtain ⟨b, hb⟩ := key j hj
    exact h.1 i j _ _ ha hb e
  · obtain ⟨a, ha⟩ := key k hk
    exact h.2 k _ ha
set_option maxRecDepth 100000 in
set_option maxHeartbeats 4000000 in
theorem whole_start {p : Program} {e : Env} {s : State} {m : MethodId} {below : List Frame} {meth : Method} {c : Code} (l : Launch) (hflags : l.flags = flags0) {b L : Nat} {xs : Nat → Int32} (hL : L ≤ 2560) (C0 : lw_At p s m meth c b L xs) : W p l e room_1 s m #[Value.ref b] below meth c s.heap [] 0 0 (lw_Z below #[Value.ref b] s) (entryFrame m ([Value.ref b] : List Value).toArray 4) := by
  obtain ⟨hx, hb, hr, hml, hown, hts1, hX, hbl, hlocks, hgv⟩ := id C0
  have hts : ∀ w ∈ gTbl, w.before #[Value.ref b] s = true := fun w hw => hts1 w (gTbl_sub w hw)
  have hN : ∀ w ∈ nTbl, va_Nw w s := fun w hw => va_Nw.of (by
      have := (List.mem_filter.mp hw).2
      cases w <;> first | rfl | (simp [isNest] at this)) (hts1 w (nTbl_sub w hw))
  have hA : ∀ q : Nat, s.heap.size ≤ q → (fun q : Nat => s.heap.size ≤ q) q := fun _ h => h
  obtain ⟨c0, i0, hk0⟩ := u_known (C := RX0) (T := TX0) (N := 14) (n := 14) hts layX0 (hts _ (gm 262 (by decide +kernel) rfl))
  obtain ⟨c1, i1, hk1⟩ := u_known (C := RX1) (T := TX1) (N := 2) (n := 2) hts layX1 (hts _ (gm 97 (by decide +kernel) rfl))
  obtain ⟨c2, i2, hk2⟩ := u_known (C := RX2) (T := TX2) (N := 9) (n := 9) hts layX2 (hts _ (gm 113 (by decide +kernel) rfl))
  obtain ⟨c3, i3, hk3⟩ := u_known (C := RX3) (T := TX3) (N := 8) (n := 8) hts layX3 (hts _ (gm 230 (by decide +kernel) rfl))
  obtain ⟨c4, i4, hk4⟩ := u_known (C := RX4) (T := TX4) (N := 9) (n := 9) hts layX4 (hts _ (gm 194 (by decide +kernel) rfl))
  obtain ⟨c5, i5, hk5⟩ := u_known (C := RX5) (T := TX5) (N := 10) (n := 10) hts layX5 (hts _ (gm 150 (by decide +kernel) rfl))
  obtain ⟨c6, i6, hk6⟩ := u_known (C := RX6) (T := TX6) (N := 7) (n := 7) hts layX6 (hts _ (gm 89 (by decide +kernel) rfl))
  obtain ⟨c7, i7, hk7⟩ := u_known (C := RX7) (T := TX7) (N := 45) (n := 45) hts layX7 (hts _ (gm 794 (by decide +kernel) rfl))
  obtain ⟨D, hKc⟩ : ∃ D : va_G, ∀ (k : Nat) (q : vw_C), vwCl[k]? = some q → u_Kn s q.1 q.2.1 q.2.2 (D.1 k) (D.2 k) := by
    refine ⟨(fun k => match k with | 0 => c0 | 1 => c1 | 2 => c2 | 3 => c3 | 4 => c4 | 5 => c5 | 6 => c6 | _ => c7, fun k => match k with | 0 => i0 | 1 => i1 | 2 => i2 | 3 => i3 | 4 => i4 | 5 => i5 | 6 => i6 | _ => i7), ?_⟩
    intro k q hq
    match k, hq with
    | 0, hq => cases hq; exact hk0
    | 1, hq => cases hq; exact hk1
    | 2, hq => cases hq; exact hk2
    | 3, hq => cases hq; exact hk3
    | 4, hq => cases hq; exact hk4
    | 5, hq => cases hq; exact hk5
    | 6, hq => cases hq; exact hk6
    | 7, hq => cases hq; exact hk7
    | k + 8, hq => simp [vwCl] at hq
  obtain ⟨cI, kI, compI, n1, n2, n3⟩ := Cond.arrayClass_spec (hts _ ac_int)
  obtain ⟨cB, kB, compB, m1_, m2_, m3_⟩ := Cond.arrayClass_spec (hts _ ac_bool)
  have hK : va_K D vwCl [(cI, .int), (cB, .boolean)] s := by
    refine ⟨hKc, fun k q hq => ?_⟩
    match k, hq with
    | 0, hq => cases hq; exact ⟨fun n z => ⟨fun k h => (by cases h), kI, n2, compI, n3⟩, n1⟩
    | 1, hq => cases hq; exact ⟨fun n z => ⟨fun k h => (by cases h), kB, m2_, compB, m3_⟩, m1_⟩
    | k + 2, hq => simp at hq
  have hS : va_S (fun q : Nat => s.heap.size ≤ q) s.heap s.heap [] := va_S.rf
  have hP : va_P D vwCl [] s.heap := fun k q h => by simp at h
  have hD : va_D (fun q : Nat => s.heap.size ≤ q) [] := ⟨fun i j p q h => by simp at h, fun k q h => by simp at h⟩
  have hl := lv_entry ([.ref b]) (n := 4) (Nat.le_of_ble_eq_true rfl)
  rw [lg_entry_eq]
  generalize (lg_sl ([.ref b]) ++ List.replicate (4 - (lg_sl ([.ref b])).length) Slot.unset).toArray = ls at hl ⊢
  have hl : lv_has ls 4 [(0, .ref b)] := hl
  refine va_new (ci := 6) (fs := [.null, .null, .null, .null, .null, .null, z0]) (C := RX6) (T := TX6) (N := 7) hx hb hts layX6 tyX6 tyX6_ok hown (hts _ (gm 88 (by decide +kernel) rfl)) (hts _ (gm 89 (by decide +kernel) rfl)) (hts _ (gm 78 (by decide +kernel) rfl)) hK hP hD hS hA rfl (fun j hj => by rcases (show j = 0 ∨ j = 1 ∨ j = 2 ∨ j = 3 ∨ j = 4 ∨ j = 5 ∨ j = 6 by omega) with rfl | rfl | rfl | rfl | rfl | rfl | rfl <;> rfl) (Nat.le_of_ble_eq_true rfl) (Nat.le_of_ble_eq_true rfl) dL_law_0 (fun r0 H hP hD hS => ?_)
  have hP : va_P D vwCl [(r0, .inr (6, [.null, .null, .null, .null, .null, .null, z0]))] H := hP
  have hD : va_D (fun q : Nat => s.heap.size ≤ q) [(r0, .inr (6, [.null, .null, .null, .null, .null, .null, z0]))] := hD
  refine W.widen (k := 1) (n := 7) (Nat.le_of_ble_eq_true rfl) (Nat.le_of_ble_eq_true rfl) ?_
  refine lv_dup hx hb dL_law_3 rfl ?_
  have hPc := hP.sub (ws' := [(r0, .inr (6, [.null, .null, .null, .null, .null, .null, z0]))]) [0] rfl
  have hDc := hD.sub (ws' := [(r0, .inr (6, [.null, .null, .null, .null, .null, .null, z0]))]) [0] (by decide) rfl
  have hFc := va_free (wc := [(r0, .inr (6, [.null, .null, .null, .null, .null, .null, z0]))]) hD hS hA [0] rfl
  refine va_callv (va_runI (As := []) (rest := [.ref r0]) ⟨hx, hb, hml, hown, hts⟩ (ct_X6 l D cI cB r0 H.size) ⟨callB_of 0 hts (good_all mX6_init (gm 92 (by decide +kernel) rfl)) rfl rfl rfl (hts _ (gm 78 (by decide +kernel) rfl)) (hts _ (gm 90 (by decide +kernel) rfl)) ⟨by decide +kernel, by decide +kernel, by decide +kernel⟩ ⟨Nat.le_of_ble_eq_true rfl, Nat.le_of_ble_eq_true rfl⟩, rfl, hts _ (gm 91 (by decide +kernel) rfl)⟩ (PC_pre hK hN hPc hDc) rfl rfl hl.1 rfl (lv_room (Nat.le_of_ble_eq_true rfl)) dL_law_4 ⟨Nat.le_of_ble_eq_true rfl, Nat.le_of_ble_eq_true rfl⟩) hS (fun q _ h => hFc q h) hFc (fun u t H1 locs ht hvm h5 hB hz1 hk1 hS => ?_)
  obtain ⟨r0_q5, r0_q5_q7, r0_q16, r0_q16_q7, r0_q16_q15, r0_q16_q23, r0_q27, r0_q27_q7, r0_q27_q15, r0_q27_q23, r0_q27_q31, r0_q27_q39, r0_q27_q47, r0_q27_q56, r0_q37, r0_q37_q7, r0_q37_q15, r0_q37_q23, r0_q37_q31, r0_q50, r0_q50_q8, r0_q50_q16, r0_q50_q24, r0_q66, r0_q66_q8, r0_q66_q16, r0_q66_q24, r0_q88, hP1, hD1⟩ := hB
  rw [ht] at hP1
  obtain ⟨hP, hD⟩ := va_join (wr := []) (w1 := [(r0, .inr (6, [.ref r0_q5, .ref r0_q16, .ref r0_q27, .ref r0_q50, .ref r0_q66, .ref r0_q88, z0])), (r0_q5, .inr (1, [.ref r0_q5_q7, z0])), (r0_q5_q7, ar cI 40), (r0_q16, .inr (2, [.ref r0_q16_q7, .ref r0_q16_q15, .ref r0_q16_q23, z0, z0, z0, z0, z0, z0])), (r0_q16_q7, ar cI 12), (r0_q16_q15, ar cI 12), (r0_q16_q23, ar cI 72), (r0_q27, .inr (5, [.ref r0_q27_q7, .ref r0_q27_q15, .ref r0_q27_q23, .ref r0_q27_q31, .ref r0_q27_q39, .ref r0_q27_q47, .ref r0_q27_q56, z0, z0, z0])), (r0_q27_q7, ar cI 8), (r0_q27_q15, ar cB 8), (r0_q27_q23, ar cI 96), (r0_q27_q31, ar cI 8), (r0_q27_q39, ar cI 8), (r0_q27_q47, ar cI 40), (r0_q27_q56, ar cI 240), (r0_q37, .inr (4, [.ref r0_q27, .ref r0_q37_q7, .ref r0_q37_q15, .ref r0_q37_q23, .ref r0_q37_q31, lz, z0, z0, z0])), (r0_q37_q7, ar cI 60), (r0_q37_q15, ar cI 40), (r0_q37_q23, ar cI 40), (r0_q37_q31, ar cI 40), (r0_q50, .inr (3, [.ref r0_q27, .ref r0_q37, .ref r0_q50_q8, .ref r0_q50_q16, .ref r0_q50_q24, lz, z0, m1])), (r0_q50_q8, ar cI 2880), (r0_q50_q16, ar cI 48), (r0_q50_q24, ar cI 48), (r0_q66, .inr (0, [.ref r0_q27, .ref r0_q37, .ref r0_q50, .ref r0_q66_q8, .ref r0_q66_q16, .ref r0_q66_q24, z0, z0, z0, m1, z0, z0, z0, m1])), (r0_q66_q8, ar cI 168), (r0_q66_q16, ar cI 21), (r0_q66_q24, ar cI 21), (r0_q88, ar cI 6)]) hP hD [0] [] rfl rfl (by decide) (by decide) hk1 hFc hP1 hD1
  generalize H1 = H at hP hS ⊢
  have hP : va_P D vwCl [(r0, .inr (6, [.ref r0_q5, .ref r0_q16, .ref r0_q27, .ref r0_q50, .ref r0_q66, .ref r0_q88, z0])), (r0_q5, .inr (1, [.ref r0_q5_q7, z0])), (r0_q5_q7, ar cI 40), (r0_q16, .inr (2, [.ref r0_q16_q7, .ref r0_q16_q15, .ref r0_q16_q23, z0, z0, z0, z0, z0, z0])), (r0_q16_q7, ar cI 12), (r0_q16_q15, ar cI 12), (r0_q16_q23, ar cI 72), (r0_q27, .inr (5, [.ref r0_q27_q7, .ref r0_q27_q15, .ref r0_q27_q23, .ref r0_q27_q31, .ref r0_q27_q39, .ref r0_q27_q47, .ref r0_q27_q56, z0, z0, z0])), (r0_q27_q7, ar cI 8), (r0_q27_q15, ar cB 8), (r0_q27_q23, ar cI 96), (r0_q27_q31, ar cI 8), (r0_q27_q39, ar cI 8), (r0_q27_q47, ar cI 40), (r0_q27_q56, ar cI 240), (r0_q37, .inr (4, [.ref r0_q27, .ref r0_q37_q7, .ref r0_q37_q15, .ref r0_q37_q23, .ref r0_q37_q31, lz, z0, z0, z0])), (r0_q37_q7, ar cI 60), (r0_q37_q15, ar cI 40), (r0_q37_q23, ar cI 40), (r0_q37_q31, ar cI 40), (r0_q50, .inr (3, [.ref r0_q27, .ref r0_q37, .ref r0_q50_q8, .ref r0_q50_q16, .ref r0_q50_q24, lz, z0, m1])), (r0_q50_q8, ar cI 2880), (r0_q50_q16, ar cI 48), (r0_q50_q24, ar cI 48), (r0_q66, .inr (0, [.ref r0_q27, .ref r0_q37, .ref r0_q50, .ref r0_q66_q8, .ref r0_q66_q16, .ref r0_q66_q24, z0, z0, z0, m1, z0, z0, z0, m1])), (r0_q66_q8, ar cI 168), (r0_q66_q16, ar cI 21), (r0_q66_q24, ar cI 21), (r0_q88, ar cI 6)] H := hP
  have hD : va_D (fun q : Nat => s.heap.size ≤ q) [(r0, .inr (6, [.ref r0_q5, .ref r0_q16, .ref r0_q27, .ref r0_q50, .ref r0_q66, .ref r0_q88, z0])), (r0_q5, .inr (1, [.ref r0_q5_q7, z0])), (r0_q5_q7, ar cI 40), (r0_q16, .inr (2, [.ref r0_q16_q7, .ref r0_q16_q15, .ref r0_q16_q23, z0, z0, z0, z0, z0, z0])), (r0_q16_q7, ar cI 12), (r0_q16_q15, ar cI 12), (r0_q16_q23, ar cI 72), (r0_q27, .inr (5, [.ref r0_q27_q7, .ref r0_q27_q15, .ref r0_q27_q23, .ref r0_q27_q31, .ref r0_q27_q39, .ref r0_q27_q47, .ref r0_q27_q56, z0, z0, z0])), (r0_q27_q7, ar cI 8), (r0_q27_q15, ar cB 8), (r0_q27_q23, ar cI 96), (r0_q27_q31, ar cI 8), (r0_q27_q39, ar cI 8), (r0_q27_q47, ar cI 40), (r0_q27_q56, ar cI 240), (r0_q37, .inr (4, [.ref r0_q27, .ref r0_q37_q7, .ref r0_q37_q15, .ref r0_q37_q23, .ref r0_q37_q31, lz, z0, z0, z0])), (r0_q37_q7, ar cI 60), (r0_q37_q15, ar cI 40), (r0_q37_q23, ar cI 40), (r0_q37_q31, ar cI 40), (r0_q50, .inr (3, [.ref r0_q27, .ref r0_q37, .ref r0_q50_q8, .ref r0_q50_q16, .ref r0_q50_q24, lz, z0, m1])), (r0_q50_q8, ar cI 2880), (r0_q50_q16, ar cI 48), (r0_q50_q24, ar cI 48), (r0_q66, .inr (0, [.ref r0_q27, .ref r0_q37, .ref r0_q50, .ref r0_q66_q8, .ref r0_q66_q16, .ref r0_q66_q24, z0, z0, z0, m1, z0, z0, z0, m1])), (r0_q66_q8, ar cI 168), (r0_q66_q16, ar cI 21), (r0_q66_q24, ar cI 21), (r0_q88, ar cI 6)] := hD
  refine W.widen (k := 29) (n := 3975) (Nat.le_of_ble_eq_true rfl) (Nat.le_of_ble_eq_true rfl) ?_
  refine lv_astore_n (lv' := [(1, .ref r0), (0, .ref b)]) hx hb dL_law_7 rfl hl (by decide) rfl (fun ls hl => ?_)
  refine va_new (ci := 7) (fs := [z0, .null, z0, .null, .null, .null, .null, z0, z0, .null, .null, .null, z0, .null, .null, z0, .null, z0, z0, z0, z0, z0, z0, z0, .null, .null, .null, z0, z0, .null, .null, z0, z0, .null, .null, .null, z0, .null, .null, z0, z0, z0, .null, z0, lz]) (C := RX7) (T := TX7) (N := 45) hx hb hts layX7 tyX7 tyX7_ok hown (hts _ (gm 793 (by decide +kernel) rfl)) (hts _ (gm 794 (by decide +kernel) rfl)) (hts _ (gm 85 (by decide +kernel) rfl)) hK hP hD hS hA rfl (fun j hj => by rcases (show j = 0 ∨ j = 1 ∨ j = 2 ∨ j = 3 ∨ j = 4 ∨ j = 5 ∨ j = 6 ∨ j = 7 ∨ j = 8 ∨ j = 9 ∨ j = 10 ∨ j = 11 ∨ j = 12 ∨ j = 13 ∨ j = 14 ∨ j = 15 ∨ j = 16 ∨ j = 17 ∨ j = 18 ∨ j = 19 ∨ j = 20 ∨ j = 21 ∨ j = 22 ∨ j = 23 ∨ j = 24 ∨ j = 25 ∨ j = 26 ∨ j = 27 ∨ j = 28 ∨ j = 29 ∨ j = 30 ∨ j = 31 ∨ j = 32 ∨ j = 33 ∨ j = 34 ∨ j = 35 ∨ j = 36 ∨ j = 37 ∨ j = 38 ∨ j = 39 ∨ j = 40 ∨ j = 41 ∨ j = 42 ∨ j = 43 ∨ j = 44 by omega) with rfl | rfl | rfl | rfl | rfl | rfl | rfl | rfl | rfl | rfl | rfl | rfl | rfl | rfl | rfl | rfl | rfl | rfl | rfl | rfl | rfl | rfl | rfl | rfl | rfl | rfl | rfl | rfl | rfl | rfl | rfl | rfl | rfl | rfl | rfl | rfl | rfl | rfl | rfl | rfl | rfl | rfl | rfl | rfl | rfl <;> rfl) (Nat.le_of_ble_eq_true rfl) (Nat.le_of_ble_eq_true rfl) dL_law_8 (fun r8 H hP hD hS => ?_)
  have hP : va_P D vwCl [(r0, .inr (6, [.ref r0_q5, .ref r0_q16, .ref r0_q27, .ref r0_q50, .ref r0_q66, .ref r0_q88, z0])), (r0_q5, .inr (1, [.ref r0_q5_q7, z0])), (r0_q5_q7, ar cI 40), (r0_q16, .inr (2, [.ref r0_q16_q7, .ref r0_q16_q15, .ref r0_q16_q23, z0, z0, z0, z0, z0, z0])), (r0_q16_q7, ar cI 12), (r0_q16_q15, ar cI 12), (r0_q16_q23, ar cI 72), (r0_q27, .inr (5, [.ref r0_q27_q7, .ref r0_q27_q15, .ref r0_q27_q23, .ref r0_q27_q31, .ref r0_q27_q39, .ref r0_q27_q47, .ref r0_q27_q56, z0, z0, z0])), (r0_q27_q7, ar cI 8), (r0_q27_q15, ar cB 8), (r0_q27_q23, ar cI 96), (r0_q27_q31, ar cI 8), (r0_q27_q39, ar cI 8), (r0_q27_q47, ar cI 40), (r0_q27_q56, ar cI 240), (r0_q37, .inr (4, [.ref r0_q27, .ref r0_q37_q7, .ref r0_q37_q15, .ref r0_q37_q23, .ref r0_q37_q31, lz, z0, z0, z0])), (r0_q37_q7, ar cI 60), (r0_q37_q15, ar cI 40), (r0_q37_q23, ar cI 40), (r0_q37_q31, ar cI 40), (r0_q50, .inr (3, [.ref r0_q27, .ref r0_q37, .ref r0_q50_q8, .ref r0_q50_q16, .ref r0_q50_q24, lz, z0, m1])), (r0_q50_q8, ar cI 2880), (r0_q50_q16, ar cI 48), (r0_q50_q24, ar cI 48), (r0_q66, .inr (0, [.ref r0_q27, .ref r0_q37, .ref r0_q50, .ref r0_q66_q8, .ref r0_q66_q16, .ref r0_q66_q24, z0, z0, z0, m1, z0, z0, z0, m1])), (r0_q66_q8, ar cI 168), (r0_q66_q16, ar cI 21), (r0_q66_q24, ar cI 21), (r0_q88, ar cI 6), (r8, .inr (7, [z0, .null, z0, .null, .null, .null, .null, z0, z0, .null, .null, .null, z0, .null, .null, z0, .null, z0, z0, z0, z0, z0, z0, z0, .null, .null, .null, z0, z0, .null, .null, z0, z0, .null, .null, .null, z0, .null, .null, z0, z0, z0, .null, z0, lz]))] H := hP
  have hD : va_D (fun q : Nat => s.heap.size ≤ q) [(r0, .inr (6, [.ref r0_q5, .ref r0_q16, .ref r0_q27, .ref r0_q50, .ref r0_q66, .ref r0_q88, z0])), (r0_q5, .inr (1, [.ref r0_q5_q7, z0])), (r0_q5_q7, ar cI 40), (r0_q16, .inr (2, [.ref r0_q16_q7, .ref r0_q16_q15, .ref r0_q16_q23, z0, z0, z0, z0, z0, z0])), (r0_q16_q7, ar cI 12), (r0_q16_q15, ar cI 12), (r0_q16_q23, ar cI 72), (r0_q27, .inr (5, [.ref r0_q27_q7, .ref r0_q27_q15, .ref r0_q27_q23, .ref r0_q27_q31, .ref r0_q27_q39, .ref r0_q27_q47, .ref r0_q27_q56, z0, z0, z0])), (r0_q27_q7, ar cI 8), (r0_q27_q15, ar cB 8), (r0_q27_q23, ar cI 96), (r0_q27_q31, ar cI 8), (r0_q27_q39, ar cI 8), (r0_q27_q47, ar cI 40), (r0_q27_q56, ar cI 240), (r0_q37, .inr (4, [.ref r0_q27, .ref r0_q37_q7, .ref r0_q37_q15, .ref r0_q37_q23, .ref r0_q37_q31, lz, z0, z0, z0])), (r0_q37_q7, ar cI 60), (r0_q37_q15, ar cI 40), (r0_q37_q23, ar cI 40), (r0_q37_q31, ar cI 40), (r0_q50, .inr (3, [.ref r0_q27, .ref r0_q37, .ref r0_q50_q8, .ref r0_q50_q16, .ref r0_q50_q24, lz, z0, m1])), (r0_q50_q8, ar cI 2880), (r0_q50_q16, ar cI 48), (r0_q50_q24, ar cI 48), (r0_q66, .inr (0, [.ref r0_q27, .ref r0_q37, .ref r0_q50, .ref r0_q66_q8, .ref r0_q66_q16, .ref r0_q66_q24, z0, z0, z0, m1, z0, z0, z0, m1])), (r0_q66_q8, ar cI 168), (r0_q66_q16, ar cI 21), (r0_q66_q24, ar cI 21), (r0_q88, ar cI 6), (r8, .inr (7, [z0, .null, z0, .null, .null, .null, .null, z0, z0, .null, .null, .null, z0, .null, .null, z0, .null, z0, z0, z0, z0, z0, z0, z0, .null, .null, .null, z0, z0, .null, .null, z0, z0, .null, .null, .null, z0, .null, .null, z0, z0, z0, .null, z0, lz]))] := hD
  refine W.widen (k := 30) (n := 4020) (Nat.le_of_ble_eq_true rfl) (Nat.le_of_ble_eq_true rfl) ?_
  refine lv_dup hx hb dL_law_11 rfl ?_
  have hPc := hP.sub (ws' := [(r8, .inr (7, [z0, .null, z0, .null, .null, .null, .null, z0, z0, .null, .null, .null, z0, .null, .null, z0, .null, z0, z0, z0, z0, z0, z0, z0, .null, .null, .null, z0, z0, .null, .null, z0, z0, .null, .null, .null, z0, .null, .null, z0, z0, z0, .null, z0, lz]))]) [29] rfl
  have hDc := hD.sub (ws' := [(r8, .inr (7, [z0, .null, z0, .null, .null, .null, .null, z0, z0, .null, .null, .null, z0, .null, .null, z0, .null, z0, z0, z0, z0, z0, z0, z0, .null, .null, .null, z0, z0, .null, .null, z0, z0, .null, .null, .null, z0, .null, .null, z0, z0, z0, .null, z0, lz]))]) [29] (by decide) rfl
  have hFc := va_free (wc := [(r8, .inr (7, [z0, .null, z0, .null, .null, .null, .null, z0, z0, .null, .null, .null, z0, .null, .null, z0, .null, z0, z0, z0, z0, z0, z0, z0, .null, .null, .null, z0, z0, .null, .null, z0, z0, .null, .null, .null, z0, .null, .null, z0, z0, z0, .null, z0, lz]))]) hD hS hA [29] rfl
  refine va_callv (va_runI (As := []) (rest := [.ref r8]) ⟨hx, hb, hml, hown, hts⟩ (ct_X7 l D cI cB r8 H.size) ⟨callB_of 0 hts (good_all mX7_init (gm 797 (by decide +kernel) rfl)) rfl rfl rfl (hts _ (gm 85 (by decide +kernel) rfl)) (hts _ (gm 795 (by decide +kernel) rfl)) ⟨by decide +kernel, by decide +kernel, by decide +kernel⟩ ⟨Nat.le_of_ble_eq_true rfl, Nat.le_of_ble_eq_true rfl⟩, rfl, hts _ (gm 796 (by decide +kernel) rfl)⟩ (PC_pre hK hN hPc hDc) rfl rfl hl.1 rfl (lv_room (Nat.le_of_ble_eq_true rfl)) dL_law_12 ⟨Nat.le_of_ble_eq_true rfl, Nat.le_of_ble_eq_true rfl⟩) hS (fun q _ h => hFc q h) hFc (fun u t H1 locs ht hvm h5 hB hz1 hk1 hS => ?_)
  obtain ⟨r8_q7, r8_q15, r8_q23, r8_q32, r8_q40, r8_q48, r8_q56, r8_q65, r8_q74, r8_q83, r8_q91, r8_q99, r8_q107, r8_q115, r8_q123, r8_q131, r8_q139, r8_q147, r8_q155, r8_q163, r8_q171, r8_q179, hP1, hD1⟩ := hB
  rw [ht] at hP1
  obtain ⟨hP, hD⟩ := va_join (wr := [(r0, .inr (6, [.ref r0_q5, .ref r0_q16, .ref r0_q27, .ref r0_q50, .ref r0_q66, .ref r0_q88, z0])), (r0_q5, .inr (1, [.ref r0_q5_q7, z0])), (r0_q5_q7, ar cI 40), (r0_q16, .inr (2, [.ref r0_q16_q7, .ref r0_q16_q15, .ref r0_q16_q23, z0, z0, z0, z0, z0, z0])), (r0_q16_q7, ar cI 12), (r0_q16_q15, ar cI 12), (r0_q16_q23, ar cI 72), (r0_q27, .inr (5, [.ref r0_q27_q7, .ref r0_q27_q15, .ref r0_q27_q23, .ref r0_q27_q31, .ref r0_q27_q39, .ref r0_q27_q47, .ref r0_q27_q56, z0, z0, z0])), (r0_q27_q7, ar cI 8), (r0_q27_q15, ar cB 8), (r0_q27_q23, ar cI 96), (r0_q27_q31, ar cI 8), (r0_q27_q39, ar cI 8), (r0_q27_q47, ar cI 40), (r0_q27_q56, ar cI 240), (r0_q37, .inr (4, [.ref r0_q27, .ref r0_q37_q7, .ref r0_q37_q15, .ref r0_q37_q23, .ref r0_q37_q31, lz, z0, z0, z0])), (r0_q37_q7, ar cI 60), (r0_q37_q15, ar cI 40), (r0_q37_q23, ar cI 40), (r0_q37_q31, ar cI 40), (r0_q50, .inr (3, [.ref r0_q27, .ref r0_q37, .ref r0_q50_q8, .ref r0_q50_q16, .ref r0_q50_q24, lz, z0, m1])), (r0_q50_q8, ar cI 2880), (r0_q50_q16, ar cI 48), (r0_q50_q24, ar cI 48), (r0_q66, .inr (0, [.ref r0_q27, .ref r0_q37, .ref r0_q50, .ref r0_q66_q8, .ref r0_q66_q16, .ref r0_q66_q24, z0, z0, z0, m1, z0, z0, z0, m1])), (r0_q66_q8, ar cI 168), (r0_q66_q16, ar cI 21), (r0_q66_q24, ar cI 21), (r0_q88, ar cI 6)]) (w1 := [(r8, .inr (7, [z0, .ref r8_q7, z0, .ref r8_q15, .ref r8_q23, .ref r8_q32, .ref r8_q40, z0, z0, .ref r8_q48, .ref r8_q56, .ref r8_q65, z0, .ref r8_q74, .ref r8_q83, z0, .ref r8_q91, z0, z0, z0, z0, z0, z0, z0, .ref r8_q99, .ref r8_q107, .ref r8_q115, z0, z0, .ref r8_q123, .ref r8_q131, z0, z0, .ref r8_q139, .ref r8_q147, .ref r8_q155, z0, .ref r8_q163, .ref r8_q171, z0, z0, z0, .ref r8_q179, z0, lz])), (r8_q7, ar cI 40), (r8_q15, ar cI 8), (r8_q23, ar cB 8), (r8_q32, ar cI 192), (r8_q40, ar cI 16), (r8_q48, ar cI 40), (r8_q56, ar cI 40), (r8_q65, ar cI 240), (r8_q74, ar cI 1920), (r8_q83, ar cI 160), (r8_q91, ar cI 6), (r8_q99, ar cI 6), (r8_q107, ar cI 6), (r8_q115, ar cI 36), (r8_q123, ar cI 60), (r8_q131, ar cI 60), (r8_q139, ar cI 61), (r8_q147, ar cI 61), (r8_q155, ar cI 61), (r8_q163, ar cI 60), (r8_q171, ar cI 60), (r8_q179, ar cB 40)]) hP hD [29] [0, 1, 2, 3, 4, 5, 6, 7, 8, 9, 10, 11, 12, 13, 14, 15, 16, 17, 18, 19, 20, 21, 22, 23, 24, 25, 26, 27, 28] rfl rfl (by decide) (by decide) hk1 hFc hP1 hD1
  generalize H1 = H at hP hS ⊢
  have hP : va_P D vwCl [(r0, .inr (6, [.ref r0_q5, .ref r0_q16, .ref r0_q27, .ref r0_q50, .ref r0_q66, .ref r0_q88, z0])), (r0_q5, .inr (1, [.ref r0_q5_q7, z0])), (r0_q5_q7, ar cI 40), (r0_q16, .inr (2, [.ref r0_q16_q7, .ref r0_q16_q15, .ref r0_q16_q23, z0, z0, z0, z0, z0, z0])), (r0_q16_q7, ar cI 12), (r0_q16_q15, ar cI 12), (r0_q16_q23, ar cI 72), (r0_q27, .inr (5, [.ref r0_q27_q7, .ref r0_q27_q15, .ref r0_q27_q23, .ref r0_q27_q31, .ref r0_q27_q39, .ref r0_q27_q47, .ref r0_q27_q56, z0, z0, z0])), (r0_q27_q7, ar cI 8), (r0_q27_q15, ar cB 8), (r0_q27_q23, ar cI 96), (r0_q27_q31, ar cI 8), (r0_q27_q39, ar cI 8), (r0_q27_q47, ar cI 40), (r0_q27_q56, ar cI 240), (r0_q37, .inr (4, [.ref r0_q27, .ref r0_q37_q7, .ref r0_q37_q15, .ref r0_q37_q23, .ref r0_q37_q31, lz, z0, z0, z0])), (r0_q37_q7, ar cI 60), (r0_q37_q15, ar cI 40), (r0_q37_q23, ar cI 40), (r0_q37_q31, ar cI 40), (r0_q50, .inr (3, [.ref r0_q27, .ref r0_q37, .ref r0_q50_q8, .ref r0_q50_q16, .ref r0_q50_q24, lz, z0, m1])), (r0_q50_q8, ar cI 2880), (r0_q50_q16, ar cI 48), (r0_q50_q24, ar cI 48), (r0_q66, .inr (0, [.ref r0_q27, .ref r0_q37, .ref r0_q50, .ref r0_q66_q8, .ref r0_q66_q16, .ref r0_q66_q24, z0, z0, z0, m1, z0, z0, z0, m1])), (r0_q66_q8, ar cI 168), (r0_q66_q16, ar cI 21), (r0_q66_q24, ar cI 21), (r0_q88, ar cI 6), (r8, .inr (7, [z0, .ref r8_q7, z0, .ref r8_q15, .ref r8_q23, .ref r8_q32, .ref r8_q40, z0, z0, .ref r8_q48, .ref r8_q56, .ref r8_q65, z0, .ref r8_q74, .ref r8_q83, z0, .ref r8_q91, z0, z0, z0, z0, z0, z0, z0, .ref r8_q99, .ref r8_q107, .ref r8_q115, z0, z0, .ref r8_q123, .ref r8_q131, z0, z0, .ref r8_q139, .ref r8_q147, .ref r8_q155, z0, .ref r8_q163, .ref r8_q171, z0, z0, z0, .ref r8_q179, z0, lz])), (r8_q7, ar cI 40), (r8_q15, ar cI 8), (r8_q23, ar cB 8), (r8_q32, ar cI 192), (r8_q40, ar cI 16), (r8_q48, ar cI 40), (r8_q56, ar cI 40), (r8_q65, ar cI 240), (r8_q74, ar cI 1920), (r8_q83, ar cI 160), (r8_q91, ar cI 6), (r8_q99, ar cI 6), (r8_q107, ar cI 6), (r8_q115, ar cI 36), (r8_q123, ar cI 60), (r8_q131, ar cI 60), (r8_q139, ar cI 61), (r8_q147, ar cI 61), (r8_q155, ar cI 61), (r8_q163, ar cI 60), (r8_q171, ar cI 60), (r8_q179, ar cB 40)] H := hP
  have hD : va_D (fun q : Nat => s.heap.size ≤ q) [(r0, .inr (6, [.ref r0_q5, .ref r0_q16, .ref r0_q27, .ref r0_q50, .ref r0_q66, .ref r0_q88, z0])), (r0_q5, .inr (1, [.ref r0_q5_q7, z0])), (r0_q5_q7, ar cI 40), (r0_q16, .inr (2, [.ref r0_q16_q7, .ref r0_q16_q15, .ref r0_q16_q23, z0, z0, z0, z0, z0, z0])), (r0_q16_q7, ar cI 12), (r0_q16_q15, ar cI 12), (r0_q16_q23, ar cI 72), (r0_q27, .inr (5, [.ref r0_q27_q7, .ref r0_q27_q15, .ref r0_q27_q23, .ref r0_q27_q31, .ref r0_q27_q39, .ref r0_q27_q47, .ref r0_q27_q56, z0, z0, z0])), (r0_q27_q7, ar cI 8), (r0_q27_q15, ar cB 8), (r0_q27_q23, ar cI 96), (r0_q27_q31, ar cI 8), (r0_q27_q39, ar cI 8), (r0_q27_q47, ar cI 40), (r0_q27_q56, ar cI 240), (r0_q37, .inr (4, [.ref r0_q27, .ref r0_q37_q7, .ref r0_q37_q15, .ref r0_q37_q23, .ref r0_q37_q31, lz, z0, z0, z0])), (r0_q37_q7, ar cI 60), (r0_q37_q15, ar cI 40), (r0_q37_q23, ar cI 40), (r0_q37_q31, ar cI 40), (r0_q50, .inr (3, [.ref r0_q27, .ref r0_q37, .ref r0_q50_q8, .ref r0_q50_q16, .ref r0_q50_q24, lz, z0, m1])), (r0_q50_q8, ar cI 2880), (r0_q50_q16, ar cI 48), (r0_q50_q24, ar cI 48), (r0_q66, .inr (0, [.ref r0_q27, .ref r0_q37, .ref r0_q50, .ref r0_q66_q8, .ref r0_q66_q16, .ref r0_q66_q24, z0, z0, z0, m1, z0, z0, z0, m1])), (r0_q66_q8, ar cI 168), (r0_q66_q16, ar cI 21), (r0_q66_q24, ar cI 21), (r0_q88, ar cI 6), (r8, .inr (7, [z0, .ref r8_q7, z0, .ref r8_q15, .ref r8_q23, .ref r8_q32, .ref r8_q40, z0, z0, .ref r8_q48, .ref r8_q56, .ref r8_q65, z0, .ref r8_q74, .ref r8_q83, z0, .ref r8_q91, z0, z0, z0, z0, z0, z0, z0, .ref r8_q99, .ref r8_q107, .ref r8_q115, z0, z0, .ref r8_q123, .ref r8_q131, z0, z0, .ref r8_q139, .ref r8_q147, .ref r8_q155, z0, .ref r8_q163, .ref r8_q171, z0, z0, z0, .ref r8_q179, z0, lz])), (r8_q7, ar cI 40), (r8_q15, ar cI 8), (r8_q23, ar cB 8), (r8_q32, ar cI 192), (r8_q40, ar cI 16), (r8_q48, ar cI 40), (r8_q56, ar cI 40), (r8_q65, ar cI 240), (r8_q74, ar cI 1920), (r8_q83, ar cI 160), (r8_q91, ar cI 6), (r8_q99, ar cI 6), (r8_q107, ar cI 6), (r8_q115, ar cI 36), (r8_q123, ar cI 60), (r8_q131, ar cI 60), (r8_q139, ar cI 61), (r8_q147, ar cI 61), (r8_q155, ar cI 61), (r8_q163, ar cI 60), (r8_q171, ar cI 60), (r8_q179, ar cB 40)] := hD
  refine W.widen (k := 52) (n := 7201) (Nat.le_of_ble_eq_true rfl) (Nat.le_of_ble_eq_true rfl) ?_
  refine lv_astore_n (lv' := [(2, .ref r8), (1, .ref r0), (0, .ref b)]) hx hb dL_law_15 rfl hl (by decide) rfl (fun ls hl => ?_)
  refine lv_iconst (v := Int32.ofInt 0) hx hb dL_law_16 (by decide) ?_
  refine lv_istore_n (lv' := [(3, .int (Int32.ofInt 0)), (2, .ref r8), (1, .ref r0), (0, .ref b)]) hx hb dL_law_17 rfl hl (by decide) rfl (fun ls hl => ?_)
  have hE : ∃ X : Cx, X = (l, D, fun k => ([r0, r0_q5, r0_q16, r0_q27, r0_q37, r0_q50, r0_q66, r0_q88, r0_q5_q7, r0_q16_q7, r0_q16_q15, r0_q16_q23, r0_q27_q7, r0_q27_q15, r0_q27_q23, r0_q27_q31, r0_q27_q39, r0_q27_q47, r0_q27_q56, r0_q37_q7, r0_q37_q15, r0_q37_q23, r0_q37_q31, r0_q50_q8, r0_q50_q16, r0_q50_q24, r0_q66_q8, r0_q66_q16, r0_q66_q24, r8, r8_q7, r8_q15, r8_q23, r8_q32, r8_q40, r8_q48, r8_q56, r8_q65, r8_q74, r8_q83, r8_q91, r8_q99, r8_q107, r8_q115, r8_q123, r8_q131, r8_q139, r8_q147, r8_q155, r8_q163, r8_q171, r8_q179, b] : List Nat).getD k 0, cI, cB) := ⟨_, rfl⟩
  obtain ⟨X, hXe⟩ := hE
  have hp1 : [0, 1, 3, 7, 15, 20, 24, 28, 2, 4, 5, 6, 8, 9, 10, 11, 12, 13, 14, 16, 17, 18, 19, 21, 22, 23, 25, 26, 27, 29, 30, 31, 32, 33, 34, 35, 36, 37, 38, 39, 40, 41, 42, 43, 44, 45, 46, 47, 48, 49, 50, 51].filterMap (fun i => ([(r0, .inr (6, [.ref r0_q5, .ref r0_q16, .ref r0_q27, .ref r0_q50, .ref r0_q66, .ref r0_q88, z0])), (r0_q5, .inr (1, [.ref r0_q5_q7, z0])), (r0_q5_q7, ar cI 40), (r0_q16, .inr (2, [.ref r0_q16_q7, .ref r0_q16_q15, .ref r0_q16_q23, z0, z0, z0, z0, z0, z0])), (r0_q16_q7, ar cI 12), (r0_q16_q15, ar cI 12), (r0_q16_q23, ar cI 72), (r0_q27, .inr (5, [.ref r0_q27_q7, .ref r0_q27_q15, .ref r0_q27_q23, .ref r0_q27_q31, .ref r0_q27_q39, .ref r0_q27_q47, .ref r0_q27_q56, z0, z0, z0])), (r0_q27_q7, ar cI 8), (r0_q27_q15, ar cB 8), (r0_q27_q23, ar cI 96), (r0_q27_q31, ar cI 8), (r0_q27_q39, ar cI 8), (r0_q27_q47, ar cI 40), (r0_q27_q56, ar cI 240), (r0_q37, .inr (4, [.ref r0_q27, .ref r0_q37_q7, .ref r0_q37_q15, .ref r0_q37_q23, .ref r0_q37_q31, lz, z0, z0, z0])), (r0_q37_q7, ar cI 60), (r0_q37_q15, ar cI 40), (r0_q37_q23, ar cI 40), (r0_q37_q31, ar cI 40), (r0_q50, .inr (3, [.ref r0_q27, .ref r0_q37, .ref r0_q50_q8, .ref r0_q50_q16, .ref r0_q50_q24, lz, z0, m1])), (r0_q50_q8, ar cI 2880), (r0_q50_q16, ar cI 48), (r0_q50_q24, ar cI 48), (r0_q66, .inr (0, [.ref r0_q27, .ref r0_q37, .ref r0_q50, .ref r0_q66_q8, .ref r0_q66_q16, .ref r0_q66_q24, z0, z0, z0, m1, z0, z0, z0, m1])), (r0_q66_q8, ar cI 168), (r0_q66_q16, ar cI 21), (r0_q66_q24, ar cI 21), (r0_q88, ar cI 6), (r8, .inr (7, [z0, .ref r8_q7, z0, .ref r8_q15, .ref r8_q23, .ref r8_q32, .ref r8_q40, z0, z0, .ref r8_q48, .ref r8_q56, .ref r8_q65, z0, .ref r8_q74, .ref r8_q83, z0, .ref r8_q91, z0, z0, z0, z0, z0, z0, z0, .ref r8_q99, .ref r8_q107, .ref r8_q115, z0, z0, .ref r8_q123, .ref r8_q131, z0, z0, .ref r8_q139, .ref r8_q147, .ref r8_q155, z0, .ref r8_q163, .ref r8_q171, z0, z0, z0, .ref r8_q179, z0, lz])), (r8_q7, ar cI 40), (r8_q15, ar cI 8), (r8_q23, ar cB 8), (r8_q32, ar cI 192), (r8_q40, ar cI 16), (r8_q48, ar cI 40), (r8_q56, ar cI 40), (r8_q65, ar cI 240), (r8_q74, ar cI 1920), (r8_q83, ar cI 160), (r8_q91, ar cI 6), (r8_q99, ar cI 6), (r8_q107, ar cI 6), (r8_q115, ar cI 36), (r8_q123, ar cI 60), (r8_q131, ar cI 60), (r8_q139, ar cI 61), (r8_q147, ar cI 61), (r8_q155, ar cI 61), (r8_q163, ar cI 60), (r8_q171, ar cI 60), (r8_q179, ar cB 40)] : va_W)[i]?) = pic X om0 := by
    rw [pic0, hXe]; rfl
  have hp2 : [0, 1, 3, 7, 15, 20, 24, 28, 2, 4, 5, 6, 8, 9, 10, 11, 12, 13, 14, 16, 17, 18, 19, 21, 22, 23, 25, 26, 27, 29, 30, 31, 32, 33, 34, 35, 36, 37, 38, 39, 40, 41, 42, 43, 44, 45, 46, 47, 48, 49, 50, 51].map (fun i => ([(r0, .inr (6, [.ref r0_q5, .ref r0_q16, .ref r0_q27, .ref r0_q50, .ref r0_q66, .ref r0_q88, z0])), (r0_q5, .inr (1, [.ref r0_q5_q7, z0])), (r0_q5_q7, ar cI 40), (r0_q16, .inr (2, [.ref r0_q16_q7, .ref r0_q16_q15, .ref r0_q16_q23, z0, z0, z0, z0, z0, z0])), (r0_q16_q7, ar cI 12), (r0_q16_q15, ar cI 12), (r0_q16_q23, ar cI 72), (r0_q27, .inr (5, [.ref r0_q27_q7, .ref r0_q27_q15, .ref r0_q27_q23, .ref r0_q27_q31, .ref r0_q27_q39, .ref r0_q27_q47, .ref r0_q27_q56, z0, z0, z0])), (r0_q27_q7, ar cI 8), (r0_q27_q15, ar cB 8), (r0_q27_q23, ar cI 96), (r0_q27_q31, ar cI 8), (r0_q27_q39, ar cI 8), (r0_q27_q47, ar cI 40), (r0_q27_q56, ar cI 240), (r0_q37, .inr (4, [.ref r0_q27, .ref r0_q37_q7, .ref r0_q37_q15, .ref r0_q37_q23, .ref r0_q37_q31, lz, z0, z0, z0])), (r0_q37_q7, ar cI 60), (r0_q37_q15, ar cI 40), (r0_q37_q23, ar cI 40), (r0_q37_q31, ar cI 40), (r0_q50, .inr (3, [.ref r0_q27, .ref r0_q37, .ref r0_q50_q8, .ref r0_q50_q16, .ref r0_q50_q24, lz, z0, m1])), (r0_q50_q8, ar cI 2880), (r0_q50_q16, ar cI 48), (r0_q50_q24, ar cI 48), (r0_q66, .inr (0, [.ref r0_q27, .ref r0_q37, .ref r0_q50, .ref r0_q66_q8, .ref r0_q66_q16, .ref r0_q66_q24, z0, z0, z0, m1, z0, z0, z0, m1])), (r0_q66_q8, ar cI 168), (r0_q66_q16, ar cI 21), (r0_q66_q24, ar cI 21), (r0_q88, ar cI 6), (r8, .inr (7, [z0, .ref r8_q7, z0, .ref r8_q15, .ref r8_q23, .ref r8_q32, .ref r8_q40, z0, z0, .ref r8_q48, .ref r8_q56, .ref r8_q65, z0, .ref r8_q74, .ref r8_q83, z0, .ref r8_q91, z0, z0, z0, z0, z0, z0, z0, .ref r8_q99, .ref r8_q107, .ref r8_q115, z0, z0, .ref r8_q123, .ref r8_q131, z0, z0, .ref r8_q139, .ref r8_q147, .ref r8_q155, z0, .ref r8_q163, .ref r8_q171, z0, z0, z0, .ref r8_q179, z0, lz])), (r8_q7, ar cI 40), (r8_q15, ar cI 8), (r8_q23, ar cB 8), (r8_q32, ar cI 192), (r8_q40, ar cI 16), (r8_q48, ar cI 40), (r8_q56, ar cI 40), (r8_q65, ar cI 240), (r8_q74, ar cI 1920), (r8_q83, ar cI 160), (r8_q91, ar cI 6), (r8_q99, ar cI 6), (r8_q107, ar cI 6), (r8_q115, ar cI 36), (r8_q123, ar cI 60), (r8_q131, ar cI 60), (r8_q139, ar cI 61), (r8_q147, ar cI 61), (r8_q155, ar cI 61), (r8_q163, ar cI 60), (r8_q171, ar cI 60), (r8_q179, ar cB 40)] : va_W)[i]?) = (pic X om0).map some := by
    rw [pic0, hXe]; rfl
  have hPp := hP.sub [0, 1, 3, 7, 15, 20, 24, 28, 2, 4, 5, 6, 8, 9, 10, 11, 12, 13, 14, 16, 17, 18, 19, 21, 22, 23, 25, 26, 27, 29, 30, 31, 32, 33, 34, 35, 36, 37, 38, 39, 40, 41, 42, 43, 44, 45, 46, 47, 48, 49, 50, 51] hp1
  have hDp := hD.sub [0, 1, 3, 7, 15, 20, 24, 28, 2, 4, 5, 6, 8, 9, 10, 11, 12, 13, 14, 16, 17, 18, 19, 21, 22, 23, 25, 26, 27, 29, 30, 31, 32, 33, 34, 35, 36, 37, 38, 39, 40, 41, 42, 43, 44, 45, 46, 47, 48, 49, 50, 51] (by decide) hp2
  obtain ⟨g1, g2⟩ := inj_of hDp
  have eD : X.2.1 = D := by rw [hXe]
  have eb : X.2.2.1 52 = b := by rw [hXe]; rfl
  have eT : tysX X = [(cI, .int), (cB, .boolean)] := by rw [hXe]; rfl
  have el : X.1 = l := by rw [hXe]
  have hl2 : lv_has ls 4 (lvl X 0 [some (vR 52), some (vR 0), some (vR 29), some (vI (5 * ((0 : Nat) : Int)))]) := by
    rw [hXe]; exact lv_sub hl [3, 2, 1, 0] rfl
  have hRV : ∀ v, some v ∈ [some (vR 52), some (vR 0), some (vR 29), some (vI (5 * ((0 : Nat) : Int)))] → RV v := by
    intro v hv
    simp only [List.mem_cons, List.not_mem_nil, or_false, Option.some.injEq] at hv
    rcases hv with rfl | rfl | rfl | rfl <;> first | trivial | exact ⟨by decide, by decide⟩
  have J0 := law_loop (X := X) (L := L) (sz := s.heap.size) (xs := xs) hL 513 0 om0 (by omega) (by decide) RR00 p e room_1 s m #[Value.ref b] below meth c 52 7201 (lw_Z below #[Value.ref b] s)
    ⟨hx, hb, hml, hown, hts, hN, by rw [eD, eT]; exact hK, g1, g2⟩ ⟨rfl, rfl, rfl, by rw [eb], by rw [eb], hr, hlocks, rfl, by rw [eb]; exact hX, by rw [eb]; exact hbl⟩ _ _ ls (fun v hv => by cases hv) hRV ROm0 (by rw [eD]; exact hPp) hS hl2
  rw [el] at J0
  exact J0
