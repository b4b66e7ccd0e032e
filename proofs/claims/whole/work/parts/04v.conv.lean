section JV
variable {X : Cx} {A : Nat → Prop} {own : String} {cc : ByteArray} {nL : Nat} {P : PT} {pc : Nat} {lv : List (Option MV)} {st : List MV} {ω : Om}
def push (r : Option MV) (st : List MV) : List MV := match r with
  | none => st
  | some v => v :: st
theorem push_app (r : Option MV) (st : List MV) : r.toList ++ st = push r st := by cases r <;> rfl
theorem J_istore_0 { b : Option MV} {r : List (Option MV)} {z : Int} (hd : decode cc pc = .ok (.istore_n 0, 1)) (hn : 0 < nL) (k : J X A own cc nL P (pc + 1) (some (vI z) :: r) st ω) : J X A own cc nL P pc (b :: r) (vI z :: st) ω := J_istore_n 0 hd hn (Or.inl rfl) rfl k
theorem J_lstore_0 { b b2 : Option MV} {r : List (Option MV)} {z : Int} (hd : decode cc pc = .ok (.lstore_n 0, 1)) (hn : 0 + 1 < nL) (k : J X A own cc nL P (pc + 1) (some (vL z) :: none :: r) st ω) : J X A own cc nL P pc (b :: b2 :: r) (vL z :: st) ω := J_lstore_n 0 hd hn (Or.inl rfl) rfl k
theorem J_iinc_0 {r : List (Option MV)} {z n : Int} (hd : decode cc pc = .ok (.iinc 0 n, 3)) (hn : 0 < nL) (hr : InR (z + n)) (k : J X A own cc nL P (pc + 3) (some (vI (z + n)) :: r) st ω) : J X A own cc nL P pc (some (vI z) :: r) st ω := J_iinc 0 n hd hn rfl hr (Or.inl rfl) rfl k
theorem J_istore_1 {a0 b : Option MV} {r : List (Option MV)} {z : Int} (hd : decode cc pc = .ok (.istore_n 1, 1)) (hn : 1 < nL) (hno : noL (some a0) = true) (k : J X A own cc nL P (pc + 1) (a0 :: some (vI z) :: r) st ω) : J X A own cc nL P pc (a0 :: b :: r) (vI z :: st) ω := J_istore_n 1 hd hn (Or.inr hno) rfl k
theorem J_lstore_1 {a0 b b2 : Option MV} {r : List (Option MV)} {z : Int} (hd : decode cc pc = .ok (.lstore_n 1, 1)) (hn : 1 + 1 < nL) (hno : noL (some a0) = true) (k : J X A own cc nL P (pc + 1) (a0 :: some (vL z) :: none :: r) st ω) : J X A own cc nL P pc (a0 :: b :: b2 :: r) (vL z :: st) ω := J_lstore_n 1 hd hn (Or.inr hno) rfl k
theorem J_iinc_1 {a0 : Option MV} {r : List (Option MV)} {z n : Int} (hd : decode cc pc = .ok (.iinc 1 n, 3)) (hn : 1 < nL) (hr : InR (z + n)) (hno : noL (some a0) = true) (k : J X A own cc nL P (pc + 3) (a0 :: some (vI (z + n)) :: r) st ω) : J X A own cc nL P pc (a0 :: some (vI z) :: r) st ω := J_iinc 1 n hd hn rfl hr (Or.inr hno) rfl k
theorem J_istore_2 {a0 a1 b : Option MV} {r : List (Option MV)} {z : Int} (hd : decode cc pc = .ok (.istore_n 2, 1)) (hn : 2 < nL) (hno : noL (some a1) = true) (k : J X A own cc nL P (pc + 1) (a0 :: a1 :: some (vI z) :: r) st ω) : J X A own cc nL P pc (a0 :: a1 :: b :: r) (vI z :: st) ω := J_istore_n 2 hd hn (Or.inr hno) rfl k
theorem J_lstore_2 {a0 a1 b b2 : Option MV} {r : List (Option MV)} {z : Int} (hd : decode cc pc = .ok (.lstore_n 2, 1)) (hn : 2 + 1 < nL) (hno : noL (some a1) = true) (k : J X A own cc nL P (pc + 1) (a0 :: a1 :: some (vL z) :: none :: r) st ω) : J X A own cc nL P pc (a0 :: a1 :: b :: b2 :: r) (vL z :: st) ω := J_lstore_n 2 hd hn (Or.inr hno) rfl k
theorem J_iinc_2 {a0 a1 : Option MV} {r : List (Option MV)} {z n : Int} (hd : decode cc pc = .ok (.iinc 2 n, 3)) (hn : 2 < nL) (hr : InR (z + n)) (hno : noL (some a1) = true) (k : J X A own cc nL P (pc + 3) (a0 :: a1 :: some (vI (z + n)) :: r) st ω) : J X A own cc nL P pc (a0 :: a1 :: some (vI z) :: r) st ω := J_iinc 2 n hd hn rfl hr (Or.inr hno) rfl k
theorem J_istore_3 {a0 a1 a2 b : Option MV} {r : List (Option MV)} {z : Int} (hd : decode cc pc = .ok (.istore_n 3, 1)) (hn : 3 < nL) (hno : noL (some a2) = true) (k : J X A own cc nL P (pc + 1) (a0 :: a1 :: a2 :: some (vI z) :: r) st ω) : J X A own cc nL P pc (a0 :: a1 :: a2 :: b :: r) (vI z :: st) ω := J_istore_n 3 hd hn (Or.inr hno) rfl k
theorem J_lstore_3 {a0 a1 a2 b b2 : Option MV} {r : List (Option MV)} {z : Int} (hd : decode cc pc = .ok (.lstore_n 3, 1)) (hn : 3 + 1 < nL) (hno : noL (some a2) = true) (k : J X A own cc nL P (pc + 1) (a0 :: a1 :: a2 :: some (vL z) :: none :: r) st ω) : J X A own cc nL P pc (a0 :: a1 :: a2 :: b :: b2 :: r) (vL z :: st) ω := J_lstore_n 3 hd hn (Or.inr hno) rfl k
theorem J_iinc_3 {a0 a1 a2 : Option MV} {r : List (Option MV)} {z n : Int} (hd : decode cc pc = .ok (.iinc 3 n, 3)) (hn : 3 < nL) (hr : InR (z + n)) (hno : noL (some a2) = true) (k : J X A own cc nL P (pc + 3) (a0 :: a1 :: a2 :: some (vI (z + n)) :: r) st ω) : J X A own cc nL P pc (a0 :: a1 :: a2 :: some (vI z) :: r) st ω := J_iinc 3 n hd hn rfl hr (Or.inr hno) rfl k
theorem J_istore_4 {a0 a1 a2 a3 b : Option MV} {r : List (Option MV)} {z : Int} (hd : decode cc pc = .ok (.istore 4, 2)) (hn : 4 < nL) (hno : noL (some a3) = true) (k : J X A own cc nL P (pc + 2) (a0 :: a1 :: a2 :: a3 :: some (vI z) :: r) st ω) : J X A own cc nL P pc (a0 :: a1 :: a2 :: a3 :: b :: r) (vI z :: st) ω := J_istore 4 hd hn (Or.inr hno) rfl k
theorem J_lstore_4 {a0 a1 a2 a3 b b2 : Option MV} {r : List (Option MV)} {z : Int} (hd : decode cc pc = .ok (.lstore 4, 2)) (hn : 4 + 1 < nL) (hno : noL (some a3) = true) (k : J X A own cc nL P (pc + 2) (a0 :: a1 :: a2 :: a3 :: some (vL z) :: none :: r) st ω) : J X A own cc nL P pc (a0 :: a1 :: a2 :: a3 :: b :: b2 :: r) (vL z :: st) ω := J_lstore 4 hd hn (Or.inr hno) rfl k
theorem J_iinc_4 {a0 a1 a2 a3 : Option MV} {r : List (Option MV)} {z n : Int} (hd : decode cc pc = .ok (.iinc 4 n, 3)) (hn : 4 < nL) (hr : InR (z + n)) (hno : noL (some a3) = true) (k : J X A own cc nL P (pc + 3) (a0 :: a1 :: a2 :: a3 :: some (vI (z + n)) :: r) st ω) : J X A own cc nL P pc (a0 :: a1 :: a2 :: a3 :: some (vI z) :: r) st ω := J_iinc 4 n hd hn rfl hr (Or.inr hno) rfl k
theorem J_istore_5 {a0 a1 a2 a3 a4 b : Option MV} {r : List (Option MV)} {z : Int} (hd : decode cc pc = .ok (.istore 5, 2)) (hn : 5 < nL) (hno : noL (some a4) = true) (k : J X A own cc nL P (pc + 2) (a0 :: a1 :: a2 :: a3 :: a4 :: some (vI z) :: r) st ω) : J X A own cc nL P pc (a0 :: a1 :: a2 :: a3 :: a4 :: b :: r) (vI z :: st) ω := J_istore 5 hd hn (Or.inr hno) rfl k
theorem J_lstore_5 {a0 a1 a2 a3 a4 b b2 : Option MV} {r : List (Option MV)} {z : Int} (hd : decode cc pc = .ok (.lstore 5, 2)) (hn : 5 + 1 < nL) (hno : noL (some a4) = true) (k : J X A own cc nL P (pc + 2) (a0 :: a1 :: a2 :: a3 :: a4 :: some (vL z) :: none :: r) st ω) : J X A own cc nL P pc (a0 :: a1 :: a2 :: a3 :: a4 :: b :: b2 :: r) (vL z :: st) ω := J_lstore 5 hd hn (Or.inr hno) rfl k
theorem J_iinc_5 {a0 a1 a2 a3 a4 : Option MV} {r : List (Option MV)} {z n : Int} (hd : decode cc pc = .ok (.iinc 5 n, 3)) (hn : 5 < nL) (hr : InR (z + n)) (hno : noL (some a4) = true) (k : J X A own cc nL P (pc + 3) (a0 :: a1 :: a2 :: a3 :: a4 :: some (vI (z + n)) :: r) st ω) : J X A own cc nL P pc (a0 :: a1 :: a2 :: a3 :: a4 :: some (vI z) :: r) st ω := J_iinc 5 n hd hn rfl hr (Or.inr hno) rfl k
theorem J_istore_6 {a0 a1 a2 a3 a4 a5 b : Option MV} {r : List (Option MV)} {z : Int} (hd : decode cc pc = .ok (.istore 6, 2)) (hn : 6 < nL) (hno : noL (some a5) = true) (k : J X A own cc nL P (pc + 2) (a0 :: a1 :: a2 :: a3 :: a4 :: a5 :: some (vI z) :: r) st ω) : J X A own cc nL P pc (a0 :: a1 :: a2 :: a3 :: a4 :: a5 :: b :: r) (vI z :: st) ω := J_istore 6 hd hn (Or.inr hno) rfl k
theorem J_lstore_6 {a0 a1 a2 a3 a4 a5 b b2 : Option MV} {r : List (Option MV)} {z : Int} (hd : decode cc pc = .ok (.lstore 6, 2)) (hn : 6 + 1 < nL) (hno : noL (some a5) = true) (k : J X A own cc nL P (pc + 2) (a0 :: a1 :: a2 :: a3 :: a4 :: a5 :: some (vL z) :: none :: r) st ω) : J X A own cc nL P pc (a0 :: a1 :: a2 :: a3 :: a4 :: a5 :: b :: b2 :: r) (vL z :: st) ω := J_lstore 6 hd hn (Or.inr hno) rfl k
theorem J_iinc_6 {a0 a1 a2 a3 a4 a5 : Option MV} {r : List (Option MV)} {z n : Int} (hd : decode cc pc = .ok (.iinc 6 n, 3)) (hn : 6 < nL) (hr : InR (z + n)) (hno : noL (some a5) = true) (k : J X A own cc nL P (pc + 3) (a0 :: a1 :: a2 :: a3 :: a4 :: a5 :: some (vI (z + n)) :: r) st ω) : J X A own cc nL P pc (a0 :: a1 :: a2 :: a3 :: a4 :: a5 :: some (vI z) :: r) st ω := J_iinc 6 n hd hn rfl hr (Or.inr hno) rfl k
theorem J_istore_7 {a0 a1 a2 a3 a4 a5 a6 b : Option MV} {r : List (Option MV)} {z : Int} (hd : decode cc pc = .ok (.istore 7, 2)) (hn : 7 < nL) (hno : noL (some a6) = true) (k : J X A own cc nL P (pc + 2) (a0 :: a1 :: a2 :: a3 :: a4 :: a5 :: a6 :: some (vI z) :: r) st ω) : J X A own cc nL P pc (a0 :: a1 :: a2 :: a3 :: a4 :: a5 :: a6 :: b :: r) (vI z :: st) ω := J_istore 7 hd hn (Or.inr hno) rfl k
theorem J_lstore_7 {a0 a1 a2 a3 a4 a5 a6 b b2 : Option MV} {r : List (Option MV)} {z : Int} (hd : decode cc pc = .ok (.lstore 7, 2)) (hn : 7 + 1 < nL) (hno : noL (some a6) = true) (k : J X A own cc nL P (pc + 2) (a0 :: a1 :: a2 :: a3 :: a4 :: a5 :: a6 :: some (vL z) :: none :: r) st ω) : J X A own cc nL P pc (a0 :: a1 :: a2 :: a3 :: a4 :: a5 :: a6 :: b :: b2 :: r) (vL z :: st) ω := J_lstore 7 hd hn (Or.inr hno) rfl k
theorem J_iinc_7 {a0 a1 a2 a3 a4 a5 a6 : Option MV} {r : List (Option MV)} {z n : Int} (hd : decode cc pc = .ok (.iinc 7 n, 3)) (hn : 7 < nL) (hr : InR (z + n)) (hno : noL (some a6) = true) (k : J X A own cc nL P (pc + 3) (a0 :: a1 :: a2 :: a3 :: a4 :: a5 :: a6 :: some (vI (z + n)) :: r) st ω) : J X A own cc nL P pc (a0 :: a1 :: a2 :: a3 :: a4 :: a5 :: a6 :: some (vI z) :: r) st ω := J_iinc 7 n hd hn rfl hr (Or.inr hno) rfl k
theorem J_istore_8 {a0 a1 a2 a3 a4 a5 a6 a7 b : Option MV} {r : List (Option MV)} {z : Int} (hd : decode cc pc = .ok (.istore 8, 2)) (hn : 8 < nL) (hno : noL (some a7) = true) (k : J X A own cc nL P (pc + 2) (a0 :: a1 :: a2 :: a3 :: a4 :: a5 :: a6 :: a7 :: some (vI z) :: r) st ω) : J X A own cc nL P pc (a0 :: a1 :: a2 :: a3 :: a4 :: a5 :: a6 :: a7 :: b :: r) (vI z :: st) ω := J_istore 8 hd hn (Or.inr hno) rfl k
theorem J_lstore_8 {a0 a1 a2 a3 a4 a5 a6 a7 b b2 : Option MV} {r : List (Option MV)} {z : Int} (hd : decode cc pc = .ok (.lstore 8, 2)) (hn : 8 + 1 < nL) (hno : noL (some a7) = true) (k : J X A own cc nL P (pc + 2) (a0 :: a1 :: a2 :: a3 :: a4 :: a5 :: a6 :: a7 :: some (vL z) :: none :: r) st ω) : J X A own cc nL P pc (a0 :: a1 :: a2 :: a3 :: a4 :: a5 :: a6 :: a7 :: b :: b2 :: r) (vL z :: st) ω := J_lstore 8 hd hn (Or.inr hno) rfl k
theorem J_iinc_8 {a0 a1 a2 a3 a4 a5 a6 a7 : Option MV} {r : List (Option MV)} {z n : Int} (hd : decode cc pc = .ok (.iinc 8 n, 3)) (hn : 8 < nL) (hr : InR (z + n)) (hno : noL (some a7) = true) (k : J X A own cc nL P (pc + 3) (a0 :: a1 :: a2 :: a3 :: a4 :: a5 :: a6 :: a7 :: some (vI (z + n)) :: r) st ω) : J X A own cc nL P pc (a0 :: a1 :: a2 :: a3 :: a4 :: a5 :: a6 :: a7 :: some (vI z) :: r) st ω := J_iinc 8 n hd hn rfl hr (Or.inr hno) rfl k
theorem J_istore_9 {a0 a1 a2 a3 a4 a5 a6 a7 a8 b : Option MV} {r : List (Option MV)} {z : Int} (hd : decode cc pc = .ok (.istore 9, 2)) (hn : 9 < nL) (hno : noL (some a8) = true) (k : J X A own cc nL P (pc + 2) (a0 :: a1 :: a2 :: a3 :: a4 :: a5 :: a6 :: a7 :: a8 :: some (vI z) :: r) st ω) : J X A own cc nL P pc (a0 :: a1 :: a2 :: a3 :: a4 :: a5 :: a6 :: a7 :: a8 :: b :: r) (vI z :: st) ω := J_istore 9 hd hn (Or.inr hno) rfl k
theorem J_lstore_9 {a0 a1 a2 a3 a4 a5 a6 a7 a8 b b2 : Option MV} {r : List (Option MV)} {z : Int} (hd : decode cc pc = .ok (.lstore 9, 2)) (hn : 9 + 1 < nL) (hno : noL (some a8) = true) (k : J X A own cc nL P (pc + 2) (a0 :: a1 :: a2 :: a3 :: a4 :: a5 :: a6 :: a7 :: a8 :: some (vL z) :: none :: r) st ω) : J X A own cc nL P pc (a0 :: a1 :: a2 :: a3 :: a4 :: a5 :: a6 :: a7 :: a8 :: b :: b2 :: r) (vL z :: st) ω := J_lstore 9 hd hn (Or.inr hno) rfl k
theorem J_iinc_9 {a0 a1 a2 a3 a4 a5 a6 a7 a8 : Option MV} {r : List (Option MV)} {z n : Int} (hd : decode cc pc = .ok (.iinc 9 n, 3)) (hn : 9 < nL) (hr : InR (z + n)) (hno : noL (some a8) = true) (k : J X A own cc nL P (pc + 3) (a0 :: a1 :: a2 :: a3 :: a4 :: a5 :: a6 :: a7 :: a8 :: some (vI (z + n)) :: r) st ω) : J X A own cc nL P pc (a0 :: a1 :: a2 :: a3 :: a4 :: a5 :: a6 :: a7 :: a8 :: some (vI z) :: r) st ω := J_iinc 9 n hd hn rfl hr (Or.inr hno) rfl k
variable {y : MD} {d : Nat} {Q : Option MV → Om → Prop}
theorem Pm_room {z : MD} (hz : z.2.2.1 ≤ 21) : ∀ p e R s m args below meth c cells slots Qm, Pm X y (d + 1) Q p e R s m args below meth c cells slots Qm → rmOk d z R cells slots := by
  intro p e R s m args below meth c cells slots Qm ⟨_, _, h, h1, h2, _⟩
  subst h; subst h1; subst h2
  refine ⟨?_, ?_, Nat.le_refl 0, Nat.le_refl 0⟩
  · show d + 2 ≤ d + 1 + 1; omega
  · show 8 + (z.2.2.1 + 11) + (40 * d + 12) ≤ 40 * (d + 1) + 12; omega
theorem JM_V0 {z : MD} {idx k : Nat} (lk : MLkV y.1.cls idx z 0) (hk : rcv k z.1.cls) (hd : decode y.2.1 pc = .ok (.invokevirtual idx, 3)) (hz : z.2.2.1 ≤ 21) (hw : wt st ≤ 8) (hM : Mc X z d [vR k] ω (fun r ω' => JM X y (d + 1) Q (pc + 3) lv (push r st) ω')) : JM X y (d + 1) Q pc lv (vR k :: st) ω :=
  J_callV (as := []) (Pm_room hz) lk rfl hk hw hd (by simp only [push_app]; exact hM)
theorem JM_V1 {z : MD} {idx k : Nat} {x0 : MV} (lk : MLkV y.1.cls idx z 1) (hk : rcv k z.1.cls) (hd : decode y.2.1 pc = .ok (.invokevirtual idx, 3)) (hz : z.2.2.1 ≤ 21) (hw : wt st ≤ 8) (hM : Mc X z d [vR k, x0] ω (fun r ω' => JM X y (d + 1) Q (pc + 3) lv (push r st) ω')) : JM X y (d + 1) Q pc lv (x0 :: vR k :: st) ω :=
  J_callV (as := [x0]) (Pm_room hz) lk rfl hk hw hd (by simp only [push_app]; exact hM)
theorem JM_S1 {z : MD} {idx : Nat} {x0 : MV} (lk : MLkS y.1.cls idx z 1) (hd : decode y.2.1 pc = .ok (.invokestatic idx, 3)) (hz : z.2.2.1 ≤ 21) (hw : wt st ≤ 8) (hM : Mc X z d [x0] ω (fun r ω' => JM X y (d + 1) Q (pc + 3) lv (push r st) ω')) : JM X y (d + 1) Q pc lv (x0 :: st) ω :=
  J_callS (as := [x0]) (Pm_room hz) lk rfl hw hd (by simp only [push_app]; exact hM)
theorem JM_V2 {z : MD} {idx k : Nat} {x0 x1 : MV} (lk : MLkV y.1.cls idx z 2) (hk : rcv k z.1.cls) (hd : decode y.2.1 pc = .ok (.invokevirtual idx, 3)) (hz : z.2.2.1 ≤ 21) (hw : wt st ≤ 8) (hM : Mc X z d [vR k, x0, x1] ω (fun r ω' => JM X y (d + 1) Q (pc + 3) lv (push r st) ω')) : JM X y (d + 1) Q pc lv (x1 :: x0 :: vR k :: st) ω :=
  J_callV (as := [x0, x1]) (Pm_room hz) lk rfl hk hw hd (by simp only [push_app]; exact hM)
theorem JM_S2 {z : MD} {idx : Nat} {x0 x1 : MV} (lk : MLkS y.1.cls idx z 2) (hd : decode y.2.1 pc = .ok (.invokestatic idx, 3)) (hz : z.2.2.1 ≤ 21) (hw : wt st ≤ 8) (hM : Mc X z d [x0, x1] ω (fun r ω' => JM X y (d + 1) Q (pc + 3) lv (push r st) ω')) : JM X y (d + 1) Q pc lv (x1 :: x0 :: st) ω :=
  J_callS (as := [x0, x1]) (Pm_room hz) lk rfl hw hd (by simp only [push_app]; exact hM)
theorem JM_V3 {z : MD} {idx k : Nat} {x0 x1 x2 : MV} (lk : MLkV y.1.cls idx z 3) (hk : rcv k z.1.cls) (hd : decode y.2.1 pc = .ok (.invokevirtual idx, 3)) (hz : z.2.2.1 ≤ 21) (hw : wt st ≤ 8) (hM : Mc X z d [vR k, x0, x1, x2] ω (fun r ω' => JM X y (d + 1) Q (pc + 3) lv (push r st) ω')) : JM X y (d + 1) Q pc lv (x2 :: x1 :: x0 :: vR k :: st) ω :=
  J_callV (as := [x0, x1, x2]) (Pm_room hz) lk rfl hk hw hd (by simp only [push_app]; exact hM)
theorem JM_S3 {z : MD} {idx : Nat} {x0 x1 x2 : MV} (lk : MLkS y.1.cls idx z 3) (hd : decode y.2.1 pc = .ok (.invokestatic idx, 3)) (hz : z.2.2.1 ≤ 21) (hw : wt st ≤ 8) (hM : Mc X z d [x0, x1, x2] ω (fun r ω' => JM X y (d + 1) Q (pc + 3) lv (push r st) ω')) : JM X y (d + 1) Q pc lv (x2 :: x1 :: x0 :: st) ω :=
  J_callS (as := [x0, x1, x2]) (Pm_room hz) lk rfl hw hd (by simp only [push_app]; exact hM)
theorem JM_V4 {z : MD} {idx k : Nat} {x0 x1 x2 x3 : MV} (lk : MLkV y.1.cls idx z 4) (hk : rcv k z.1.cls) (hd : decode y.2.1 pc = .ok (.invokevirtual idx, 3)) (hz : z.2.2.1 ≤ 21) (hw : wt st ≤ 8) (hM : Mc X z d [vR k, x0, x1, x2, x3] ω (fun r ω' => JM X y (d + 1) Q (pc + 3) lv (push r st) ω')) : JM X y (d + 1) Q pc lv (x3 :: x2 :: x1 :: x0 :: vR k :: st) ω :=
  J_callV (as := [x0, x1, x2, x3]) (Pm_room hz) lk rfl hk hw hd (by simp only [push_app]; exact hM)
theorem JM_S4 {z : MD} {idx : Nat} {x0 x1 x2 x3 : MV} (lk : MLkS y.1.cls idx z 4) (hd : decode y.2.1 pc = .ok (.invokestatic idx, 3)) (hz : z.2.2.1 ≤ 21) (hw : wt st ≤ 8) (hM : Mc X z d [x0, x1, x2, x3] ω (fun r ω' => JM X y (d + 1) Q (pc + 3) lv (push r st) ω')) : JM X y (d + 1) Q pc lv (x3 :: x2 :: x1 :: x0 :: st) ω :=
  J_callS (as := [x0, x1, x2, x3]) (Pm_room hz) lk rfl hw hd (by simp only [push_app]; exact hM)
theorem JM_V5 {z : MD} {idx k : Nat} {x0 x1 x2 x3 x4 : MV} (lk : MLkV y.1.cls idx z 5) (hk : rcv k z.1.cls) (hd : decode y.2.1 pc = .ok (.invokevirtual idx, 3)) (hz : z.2.2.1 ≤ 21) (hw : wt st ≤ 8) (hM : Mc X z d [vR k, x0, x1, x2, x3, x4] ω (fun r ω' => JM X y (d + 1) Q (pc + 3) lv (push r st) ω')) : JM X y (d + 1) Q pc lv (x4 :: x3 :: x2 :: x1 :: x0 :: vR k :: st) ω :=
  J_callV (as := [x0, x1, x2, x3, x4]) (Pm_room hz) lk rfl hk hw hd (by simp only [push_app]; exact hM)
theorem JM_S5 {z : MD} {idx : Nat} {x0 x1 x2 x3 x4 : MV} (lk : MLkS y.1.cls idx z 5) (hd : decode y.2.1 pc = .ok (.invokestatic idx, 3)) (hz : z.2.2.1 ≤ 21) (hw : wt st ≤ 8) (hM : Mc X z d [x0, x1, x2, x3, x4] ω (fun r ω' => JM X y (d + 1) Q (pc + 3) lv (push r st) ω')) : JM X y (d + 1) Q pc lv (x4 :: x3 :: x2 :: x1 :: x0 :: st) ω :=
  J_callS (as := [x0, x1, x2, x3, x4]) (Pm_room hz) lk rfl hw hd (by simp only [push_app]; exact hM)
end JV
theorem rcv_0 : rcv 0 RX6 := ⟨6, _, _, _, rfl, rfl, rfl⟩
theorem rcv_1 : rcv 1 RX1 := ⟨1, _, _, _, rfl, rfl, rfl⟩
theorem rcv_2 : rcv 2 RX2 := ⟨2, _, _, _, rfl, rfl, rfl⟩
theorem rcv_3 : rcv 3 RX5 := ⟨5, _, _, _, rfl, rfl, rfl⟩
theorem rcv_4 : rcv 4 RX4 := ⟨4, _, _, _, rfl, rfl, rfl⟩
theorem rcv_5 : rcv 5 RX3 := ⟨3, _, _, _, rfl, rfl, rfl⟩
theorem rcv_6 : rcv 6 RX0 := ⟨0, _, _, _, rfl, rfl, rfl⟩
theorem rcv_29 : rcv 29 RX7 := ⟨7, _, _, _, rfl, rfl, rfl⟩
theorem fp_0_6 : fput 0 6 0 := ⟨RX0, TX0, 14, tyX0, clsX0, by decide, rfl, Or.inl ⟨rfl, rfl⟩⟩
theorem fp_0_7 : fput 0 7 0 := ⟨RX0, TX0, 14, tyX0, clsX0, by decide, rfl, Or.inl ⟨rfl, rfl⟩⟩
theorem fp_0_8 : fput 0 8 0 := ⟨RX0, TX0, 14, tyX0, clsX0, by decide, rfl, Or.inl ⟨rfl, rfl⟩⟩
theorem fp_0_9 : fput 0 9 0 := ⟨RX0, TX0, 14, tyX0, clsX0, by decide, rfl, Or.inl ⟨rfl, rfl⟩⟩
theorem fp_0_10 : fput 0 10 0 := ⟨RX0, TX0, 14, tyX0, clsX0, by decide, rfl, Or.inl ⟨rfl, rfl⟩⟩
theorem fp_0_11 : fput 0 11 0 := ⟨RX0, TX0, 14, tyX0, clsX0, by decide, rfl, Or.inl ⟨rfl, rfl⟩⟩
theorem fp_0_12 : fput 0 12 0 := ⟨RX0, TX0, 14, tyX0, clsX0, by decide, rfl, Or.inl ⟨rfl, rfl⟩⟩
theorem fp_0_13 : fput 0 13 0 := ⟨RX0, TX0, 14, tyX0, clsX0, by decide, rfl, Or.inl ⟨rfl, rfl⟩⟩
theorem fp_1_1 : fput 1 1 0 := ⟨RX1, TX1, 2, tyX1, clsX1, by decide, rfl, Or.inl ⟨rfl, rfl⟩⟩
theorem fp_2_3 : fput 2 3 0 := ⟨RX2, TX2, 9, tyX2, clsX2, by decide, rfl, Or.inl ⟨rfl, rfl⟩⟩
theorem fp_2_4 : fput 2 4 0 := ⟨RX2, TX2, 9, tyX2, clsX2, by decide, rfl, Or.inl ⟨rfl, rfl⟩⟩
theorem fp_2_5 : fput 2 5 0 := ⟨RX2, TX2, 9, tyX2, clsX2, by decide, rfl, Or.inl ⟨rfl, rfl⟩⟩
theorem fp_2_6 : fput 2 6 0 := ⟨RX2, TX2, 9, tyX2, clsX2, by decide, rfl, Or.inl ⟨rfl, rfl⟩⟩
theorem fp_2_7 : fput 2 7 0 := ⟨RX2, TX2, 9, tyX2, clsX2, by decide, rfl, Or.inl ⟨rfl, rfl⟩⟩
theorem fp_2_8 : fput 2 8 0 := ⟨RX2, TX2, 9, tyX2, clsX2, by decide, rfl, Or.inl ⟨rfl, rfl⟩⟩
theorem fp_3_5 : fput 3 5 1 := ⟨RX3, TX3, 8, tyX3, clsX3, by decide, rfl, Or.inr ⟨rfl, rfl⟩⟩
theorem fp_3_6 : fput 3 6 0 := ⟨RX3, TX3, 8, tyX3, clsX3, by decide, rfl, Or.inl ⟨rfl, rfl⟩⟩
theorem fp_3_7 : fput 3 7 0 := ⟨RX3, TX3, 8, tyX3, clsX3, by decide, rfl, Or.inl ⟨rfl, rfl⟩⟩
theorem fp_4_5 : fput 4 5 1 := ⟨RX4, TX4, 9, tyX4, clsX4, by decide, rfl, Or.inr ⟨rfl, rfl⟩⟩
theorem fp_4_6 : fput 4 6 0 := ⟨RX4, TX4, 9, tyX4, clsX4, by decide, rfl, Or.inl ⟨rfl, rfl⟩⟩
theorem fp_4_7 : fput 4 7 0 := ⟨RX4, TX4, 9, tyX4, clsX4, by decide, rfl, Or.inl ⟨rfl, rfl⟩⟩
theorem fp_4_8 : fput 4 8 0 := ⟨RX4, TX4, 9, tyX4, clsX4, by decide, rfl, Or.inl ⟨rfl, rfl⟩⟩
theorem fp_5_7 : fput 5 7 0 := ⟨RX5, TX5, 10, tyX5, clsX5, by decide, rfl, Or.inl ⟨rfl, rfl⟩⟩
theorem fp_5_8 : fput 5 8 0 := ⟨RX5, TX5, 10, tyX5, clsX5, by decide, rfl, Or.inl ⟨rfl, rfl⟩⟩
theorem fp_5_9 : fput 5 9 0 := ⟨RX5, TX5, 10, tyX5, clsX5, by decide, rfl, Or.inl ⟨rfl, rfl⟩⟩
theorem fp_6_6 : fput 6 6 0 := ⟨RX6, TX6, 7, tyX6, clsX6, by decide, rfl, Or.inl ⟨rfl, rfl⟩⟩
theorem fp_7_0 : fput 7 0 0 := ⟨RX7, TX7, 45, tyX7, clsX7, by decide, rfl, Or.inl ⟨rfl, rfl⟩⟩
theorem fp_7_2 : fput 7 2 0 := ⟨RX7, TX7, 45, tyX7, clsX7, by decide, rfl, Or.inl ⟨rfl, rfl⟩⟩
theorem fp_7_7 : fput 7 7 0 := ⟨RX7, TX7, 45, tyX7, clsX7, by decide, rfl, Or.inl ⟨rfl, rfl⟩⟩
theorem fp_7_8 : fput 7 8 0 := ⟨RX7, TX7, 45, tyX7, clsX7, by decide, rfl, Or.inl ⟨rfl, rfl⟩⟩
theorem fp_7_12 : fput 7 12 0 := ⟨RX7, TX7, 45, tyX7, clsX7, by decide, rfl, Or.inl ⟨rfl, rfl⟩⟩
theorem fp_7_15 : fput 7 15 0 := ⟨RX7, TX7, 45, tyX7, clsX7, by decide, rfl, Or.inl ⟨rfl, rfl⟩⟩
theorem fp_7_17 : fput 7 17 0 := ⟨RX7, TX7, 45, tyX7, clsX7, by decide, rfl, Or.inl ⟨rfl, rfl⟩⟩
theorem fp_7_18 : fput 7 18 0 := ⟨RX7, TX7, 45, tyX7, clsX7, by decide, rfl, Or.inl ⟨rfl, rfl⟩⟩
theorem fp_7_19 : fput 7 19 0 := ⟨RX7, TX7, 45, tyX7, clsX7, by decide, rfl, Or.inl ⟨rfl, rfl⟩⟩
theorem fp_7_20 : fput 7 20 0 := ⟨RX7, TX7, 45, tyX7, clsX7, by decide, rfl, Or.inl ⟨rfl, rfl⟩⟩
theorem fp_7_21 : fput 7 21 0 := ⟨RX7, TX7, 45, tyX7, clsX7, by decide, rfl, Or.inl ⟨rfl, rfl⟩⟩
theorem fp_7_22 : fput 7 22 0 := ⟨RX7, TX7, 45, tyX7, clsX7, by decide, rfl, Or.inl ⟨rfl, rfl⟩⟩
theorem fp_7_23 : fput 7 23 0 := ⟨RX7, TX7, 45, tyX7, clsX7, by decide, rfl, Or.inl ⟨rfl, rfl⟩⟩
theorem fp_7_27 : fput 7 27 0 := ⟨RX7, TX7, 45, tyX7, clsX7, by decide, rfl, Or.inl ⟨rfl, rfl⟩⟩
theorem fp_7_28 : fput 7 28 0 := ⟨RX7, TX7, 45, tyX7, clsX7, by decide, rfl, Or.inl ⟨rfl, rfl⟩⟩
theorem fp_7_31 : fput 7 31 0 := ⟨RX7, TX7, 45, tyX7, clsX7, by decide, rfl, Or.inl ⟨rfl, rfl⟩⟩
theorem fp_7_32 : fput 7 32 0 := ⟨RX7, TX7, 45, tyX7, clsX7, by decide, rfl, Or.inl ⟨rfl, rfl⟩⟩
theorem fp_7_36 : fput 7 36 0 := ⟨RX7, TX7, 45, tyX7, clsX7, by decide, rfl, Or.inl ⟨rfl, rfl⟩⟩
theorem fp_7_39 : fput 7 39 0 := ⟨RX7, TX7, 45, tyX7, clsX7, by decide, rfl, Or.inl ⟨rfl, rfl⟩⟩
theorem fp_7_40 : fput 7 40 0 := ⟨RX7, TX7, 45, tyX7, clsX7, by decide, rfl, Or.inl ⟨rfl, rfl⟩⟩
theorem fp_7_41 : fput 7 41 0 := ⟨RX7, TX7, 45, tyX7, clsX7, by decide, rfl, Or.inl ⟨rfl, rfl⟩⟩
theorem fp_7_43 : fput 7 43 0 := ⟨RX7, TX7, 45, tyX7, clsX7, by decide, rfl, Or.inl ⟨rfl, rfl⟩⟩
theorem fp_7_44 : fput 7 44 1 := ⟨RX7, TX7, 45, tyX7, clsX7, by decide, rfl, Or.inr ⟨rfl, rfl⟩⟩
