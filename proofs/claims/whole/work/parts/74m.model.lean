/-! THE CONSTRUCTOR OF THE REFERENCE (printed by wip/gen7m.py) -/
def cellsM : List (Nat × Nat) := [(12, 0), (1768, 0), (1769, 0), (1770, 0), (1771, 0), (1772, 0), (1777, 0), (1778, 0), (1779, 0), (1780, 0), (1782, 0), (1783, 0), (1784, 0), (1787, 0), (1789, 0), (1790, 0), (1791, 0), (1792, 0), (1796, 0), (1797, 0), (1798, 0), (1799, 0), (1800, 0), (1801, 0), (1802, 0), (1803, 0), (1804, 0), (1805, 0), (1806, 0), (1807, 0), (1808, 0), (1809, 0), (1811, 0), (1812, 0), (1813, 0)]
section ASTM
variable {D : va_G} {cA : Nat → ClassId} {own : String} {cc : ByteArray} {nL : Nat} {p : Program} {l : Launch} {e : Env} {R : Room} {s : State} {m : MethodId} {args : Array Value} {below : List Frame} {meth : Method} {c : Code} {H : Heap} {locs : List Loc} {cells slots : Nat} {Q : State → Prop} {A : Nat → Prop} {wa wb : va_W} {pc : Nat} {ls : Array Slot} {rest : List Value}
theorem g_astM (X : Cw D cA own cc nL p s m args c) {a n k : Nat} {f : Nat → Int32} (hP : va_P D vwCl (wa ++ (a, .inl (cA k, n, .inl f)) :: wb) H) (hD : va_D A (wa ++ (a, .inl (cA k, n, .inl f)) :: wb)) (hS : va_S A s.heap H locs) (hk : (tysL cA)[k]? = some (cA k, .int)) {i x : Int32} (hin : vp_in i n) (hdg : decode cc pc = .ok (.iastore, 1))
    (kk : ∀ (H1 : Heap) (locs1 : List Loc), va_P D vwCl (wa ++ (a, .inl (cA k, n, .inl (upd f i.toNatClampNeg x))) :: wb) H1 → va_D A (wa ++ (a, .inl (cA k, n, .inl (upd f i.toNatClampNeg x))) :: wb) → va_S A s.heap H1 locs1 → W p l e R s m args below meth c H1 locs1 cells slots Q (F0 m (pc + 1) ls rest)) : W p l e R s m args below meth c H locs cells slots Q (F0 m pc ls (.int x :: .int i :: .ref a :: rest)) := by
  refine va_iast X.1 X.2.1 X.2.2.2.2.2.1 hP hD hS wa.length k (get_mid _ _ _) hk hin hdg (fun H1 locs1 h1 h2 h3 => ?_)
  rw [set_mid] at h1 h2
  exact kk H1 locs1 h1 h2 h3
end ASTM
theorem s0_784 : upd (upd (upd (upd (fun _ => 0) (0 : Int32).toNatClampNeg 2) (1 : Int32).toNatClampNeg 5) (2 : Int32).toNatClampNeg 10) (3 : Int32).toNatClampNeg 5 = (fun j => S0 784 0 j) := s0_709.symm
theorem s0_782 : (fun j : Nat => if j < 10 then iI (90 - 10 * (j : Int)) else 0) = (fun j => S0 782 0 j) := rfl
theorem fsM {q1 q2 q3 q4 q5 q6 q7 q8 q9 q10 q11 q12 q13 q14 q15 q16 q17 q18 q19 q20 q21 q22 q23 q24 q25 q26 q27 q28 q29 q30 q31 q32 q33 q34 : Nat} {f0 f1 f2 f3 f4 f5 f6 f7 f8 f9 f10 f11 f12 f13 f14 f15 f16 f17 f18 f19 f20 f21 f22 f23 f24 f25 f26 f27 f28 f29 f30 f31 f32 f33 f34 f35 : List Value} (hf0 : f0 = [.null, .null, .null, .null, .null, .int 0, .int 0, .int 0, .int 0, .null, .null, .null, .null, .int 0, .null, .null, .null, .int 0, .int 0, .null, .int 0, .null, .null, .null, .null, .int 0, .int 0, .int 0, .null, .null, .null, .null, .null, .null, .null, .null, .null, .null, .null, .null, .null, .null, .int 0, .null, .null, .null, .int 0]) (hf1 : f1 = f0.set 0 (.ref q1)) (hf2 : f2 = f1.set 1 (.ref q2)) (hf3 : f3 = f2.set 2 (.ref q3)) (hf4 : f4 = f3.set 3 (.ref q4)) (hf5 : f5 = f4.set 4 (.ref q5)) (hf6 : f6 = f5.set 9 (.ref q6)) (hf7 : f7 = f6.set 10 (.ref q7)) (hf8 : f8 = f7.set 11 (.ref q8)) (hf9 : f9 = f8.set 12 (.ref q9)) (hf10 : f10 = f9.set 14 (.ref q10)) (hf11 : f11 = f10.set 15 (.ref q11)) (hf12 : f12 = f11.set 16 (.ref q12)) (hf13 : f13 = f12.set 18 (.int 100)) (hf14 : f14 = f13.set 19 (.ref q13)) (hf15 : f15 = f14.set 21 (.ref q14)) (hf16 : f16 = f15.set 22 (.ref q15)) (hf17 : f17 = f16.set 23 (.ref q16)) (hf18 : f18 = f17.set 24 (.ref q17)) (hf19 : f19 = f18.set 28 (.ref q18)) (hf20 : f20 = f19.set 29 (.ref q19)) (hf21 : f21 = f20.set 30 (.ref q20)) (hf22 : f22 = f21.set 31 (.ref q21)) (hf23 : f23 = f22.set 32 (.ref q22)) (hf24 : f24 = f23.set 33 (.ref q23)) (hf25 : f25 = f24.set 34 (.ref q24)) (hf26 : f26 = f25.set 35 (.ref q25)) (hf27 : f27 = f26.set 36 (.ref q26)) (hf28 : f28 = f27.set 37 (.ref q27)) (hf29 : f29 = f28.set 38 (.ref q28)) (hf30 : f30 = f29.set 39 (.ref q29)) (hf31 : f31 = f30.set 40 (.ref q30)) (hf32 : f32 = f31.set 41 (.ref q31)) (hf33 : f33 = f32.set 43 (.ref q32)) (hf34 : f34 = f33.set 44 (.ref q33)) (hf35 : f35 = f34.set 45 (.ref q34)) : f35 = [.ref q1, .ref q2, .ref q3, .ref q4, .ref q5, .int 0, .int 0, .int 0, .int 0, .ref q6, .ref q7, .ref q8, .ref q9, .int 0, .ref q10, .ref q11, .ref q12, .int 0, .int 100, .ref q13, .int 0, .ref q14, .ref q15, .ref q16, .ref q17, .int 0, .int 0, .int 0, .ref q18, .ref q19, .ref q20, .ref q21, .ref q22, .ref q23, .ref q24, .ref q25, .ref q26, .ref q27, .ref q28, .ref q29, .ref q30, .ref q31, .int 0, .ref q32, .ref q33, .ref q34, .int 0] := by
  have x1 : f1 = [.ref q1, .null, .null, .null, .null, .int 0, .int 0, .int 0, .int 0, .null, .null, .null, .null, .int 0, .null, .null, .null, .int 0, .int 0, .null, .int 0, .null, .null, .null, .null, .int 0, .int 0, .int 0, .null, .null, .null, .null, .null, .null, .null, .null, .null, .null, .null, .null, .null, .null, .int 0, .null, .null, .null, .int 0] := by rw [hf1, hf0]; rfl
  have x2 : f2 = [.ref q1, .ref q2, .null, .null, .null, .int 0, .int 0, .int 0, .int 0, .null, .null, .null, .null, .int 0, .null, .null, .null, .int 0, .int 0, .null, .int 0, .null, .null, .null, .null, .int 0, .int 0, .int 0, .null, .null, .null, .null, .null, .null, .null, .null, .null, .null, .null, .null, .null, .null, .int 0, .null, .null, .null, .int 0] := by rw [hf2, x1]; rfl
  have x3 : f3 = [.ref q1, .ref q2, .ref q3, .null, .null, .int 0, .int 0, .int 0, .int 0, .null, .null, .null, .null, .int 0, .null, .null, .null, .int 0, .int 0, .null, .int 0, .null, .null, .null, .null, .int 0, .int 0, .int 0, .null, .null, .null, .null, .null, .null, .null, .null, .null, .null, .null, .null, .null, .null, .int 0, .null, .null, .null, .int 0] := by rw [hf3, x2]; rfl
  have x4 : f4 = [.ref q1, .ref q2, .ref q3, .ref q4, .null, .int 0, .int 0, .int 0, .int 0, .null, .null, .null, .null, .int 0, .null, .null, .null, .int 0, .int 0, .null, .int 0, .null, .null, .null, .null, .int 0, .int 0, .int 0, .null, .null, .null, .null, .null, .null, .null, .null, .null, .null, .null, .null, .null, .null, .int 0, .null, .null, .null, .int 0] := by rw [hf4, x3]; rfl
  have x5 : f5 = [.ref q1, .ref q2, .ref q3, .ref q4, .ref q5, .int 0, .int 0, .int 0, .int 0, .null, .null, .null, .null, .int 0, .null, .null, .null, .int 0, .int 0, .null, .int 0, .null, .null, .null, .null, .int 0, .int 0, .int 0, .null, .null, .null, .null, .null, .null, .null, .null, .null, .null, .null, .null, .null, .null, .int 0, .null, .null, .null, .int 0] := by rw [hf5, x4]; rfl
  have x6 : f6 = [.ref q1, .ref q2, .ref q3, .ref q4, .ref q5, .int 0, .int 0, .int 0, .int 0, .ref q6, .null, .null, .null, .int 0, .null, .null, .null, .int 0, .int 0, .null, .int 0, .null, .null, .null, .null, .int 0, .int 0, .int 0, .null, .null, .null, .null, .null, .null, .null, .null, .null, .null, .null, .null, .null, .null, .int 0, .null, .null, .null, .int 0] := by rw [hf6, x5]; rfl
  have x7 : f7 = [.ref q1, .ref q2, .ref q3, .ref q4, .ref q5, .int 0, .int 0, .int 0, .int 0, .ref q6, .ref q7, .null, .null, .int 0, .null, .null, .null, .int 0, .int 0, .null, .int 0, .null, .null, .null, .null, .int 0, .int 0, .int 0, .null, .null, .null, .null, .null, .null, .null, .null, .null, .null, .null, .null, .null, .null, .int 0, .null, .null, .null, .int 0] := by rw [hf7, x6]; rfl
  have x8 : f8 = [.ref q1, .ref q2, .ref q3, .ref q4, .ref q5, .int 0, .int 0, .int 0, .int 0, .ref q6, .ref q7, .ref q8, .null, .int 0, .null, .null, .null, .int 0, .int 0, .null, .int 0, .null, .null, .null, .null, .int 0, .int 0, .int 0, .null, .null, .null, .null, .null, .null, .null, .null, .null, .null, .null, .null, .null, .null, .int 0, .null, .null, .null, .int 0] := by rw [hf8, x7]; rfl
  have x9 : f9 = [.ref q1, .ref q2, .ref q3, .ref q4, .ref q5, .int 0, .int 0, .int 0, .int 0, .ref q6, .ref q7, .ref q8, .ref q9, .int 0, .null, .null, .null, .int 0, .int 0, .null, .int 0, .null, .null, .null, .null, .int 0, .int 0, .int 0, .null, .null, .null, .null, .null, .null, .null, .null, .null, .null, .null, .null, .null, .null, .int 0, .null, .null, .null, .int 0] := by rw [hf9, x8]; rfl
  have x10 : f10 = [.ref q1, .ref q2, .ref q3, .ref q4, .ref q5, .int 0, .int 0, .int 0, .int 0, .ref q6, .ref q7, .ref q8, .ref q9, .int 0, .ref q10, .null, .null, .int 0, .int 0, .null, .int 0, .null, .null, .null, .null, .int 0, .int 0, .int 0, .null, .null, .null, .null, .null, .null, .null, .null, .null, .null, .null, .null, .null, .null, .int 0, .null, .null, .null, .int 0] := by rw [hf10, x9]; rfl
  have x11 : f11 = [.ref q1, .ref q2, .ref q3, .ref q4, .ref q5, .int 0, .int 0, .int 0, .int 0, .ref q6, .ref q7, .ref q8, .ref q9, .int 0, .ref q10, .ref q11, .null, .int 0, .int 0, .null, .int 0, .null, .null, .null, .null, .int 0, .int 0, .int 0, .null, .null, .null, .null, .null, .null, .null, .null, .null, .null, .null, .null, .null, .null, .int 0, .null, .null, .null, .int 0] := by rw [hf11, x10]; rfl
  have x12 : f12 = [.ref q1, .ref q2, .ref q3, .ref q4, .ref q5, .int 0, .int 0, .int 0, .int 0, .ref q6, .ref q7, .ref q8, .ref q9, .int 0, .ref q10, .ref q11, .ref q12, .int 0, .int 0, .null, .int 0, .null, .null, .null, .null, .int 0, .int 0, .int 0, .null, .null, .null, .null, .null, .null, .null, .null, .null, .null, .null, .null, .null, .null, .int 0, .null, .null, .null, .int 0] := by rw [hf12, x11]; rfl
  have x13 : f13 = [.ref q1, .ref q2, .ref q3, .ref q4, .ref q5, .int 0, .int 0, .int 0, .int 0, .ref q6, .ref q7, .ref q8, .ref q9, .int 0, .ref q10, .ref q11, .ref q12, .int 0, .int 100, .null, .int 0, .null, .null, .null, .null, .int 0, .int 0, .int 0, .null, .null, .null, .null, .null, .null, .null, .null, .null, .null, .null, .null, .null, .null, .int 0, .null, .null, .null, .int 0] := by rw [hf13, x12]; rfl
  have x14 : f14 = [.ref q1, .ref q2, .ref q3, .ref q4, .ref q5, .int 0, .int 0, .int 0, .int 0, .ref q6, .ref q7, .ref q8, .ref q9, .int 0, .ref q10, .ref q11, .ref q12, .int 0, .int 100, .ref q13, .int 0, .null, .null, .null, .null, .int 0, .int 0, .int 0, .null, .null, .null, .null, .null, .null, .null, .null, .null, .null, .null, .null, .null, .null, .int 0, .null, .null, .null, .int 0] := by rw [hf14, x13]; rfl
  have x15 : f15 = [.ref q1, .ref q2, .ref q3, .ref q4, .ref q5, .int 0, .int 0, .int 0, .int 0, .ref q6, .ref q7, .ref q8, .ref q9, .int 0, .ref q10, .ref q11, .ref q12, .int 0, .int 100, .ref q13, .int 0, .ref q14, .null, .null, .null, .int 0, .int 0, .int 0, .null, .null, .null, .null, .null, .null, .null, .null, .null, .null, .null, .null, .null, .null, .int 0, .null, .null, .null, .int 0] := by rw [hf15, x14]; rfl
  have x16 : f16 = [.ref q1, .ref q2, .ref q3, .ref q4, .ref q5, .int 0, .int 0, .int 0, .int 0, .ref q6, .ref q7, .ref q8, .ref q9, .int 0, .ref q10, .ref q11, .ref q12, .int 0, .int 100, .ref q13, .int 0, .ref q14, .ref q15, .null, .null, .int 0, .int 0, .int 0, .null, .null, .null, .null, .null, .null, .null, .null, .null, .null, .null, .null, .null, .null, .int 0, .null, .null, .null, .int 0] := by rw [hf16, x15]; rfl
  have x17 : f17 = [.ref q1, .ref q2, .ref q3, .ref q4, .ref q5, .int 0, .int 0, .int 0, .int 0, .ref q6, .ref q7, .ref q8, .ref q9, .int 0, .ref q10, .ref q11, .ref q12, .int 0, .int 100, .ref q13, .int 0, .ref q14, .ref q15, .ref q16, .null, .int 0, .int 0, .int 0, .null, .null, .null, .null, .null, .null, .null, .null, .null, .null, .null, .null, .null, .null, .int 0, .null, .null, .null, .int 0] := by rw [hf17, x16]; rfl
  have x18 : f18 = [.ref q1, .ref q2, .ref q3, .ref q4, .ref q5, .int 0, .int 0, .int 0, .int 0, .ref q6, .ref q7, .ref q8, .ref q9, .int 0, .ref q10, .ref q11, .ref q12, .int 0, .int 100, .ref q13, .int 0, .ref q14, .ref q15, .ref q16, .ref q17, .int 0, .int 0, .int 0, .null, .null, .null, .null, .null, .null, .null, .null, .null, .null, .null, .null, .null, .null, .int 0, .null, .null, .null, .int 0] := by rw [hf18, x17]; rfl
  have x19 : f19 = [.ref q1, .ref q2, .ref q3, .ref q4, .ref q5, .int 0, .int 0, .int 0, .int 0, .ref q6, .ref q7, .ref q8, .ref q9, .int 0, .ref q10, .ref q11, .ref q12, .int 0, .int 100, .ref q13, .int 0, .ref q14, .ref q15, .ref q16, .ref q17, .int 0, .int 0, .int 0, .ref q18, .null, .null, .null, .null, .null, .null, .null, .null, .null, .null, .null, .null, .null, .int 0, .null, .null, .null, .int 0] := by rw [hf19, x18]; rfl
  have x20 : f20 = [.ref q1, .ref q2, .ref q3, .ref q4, .ref q5, .int 0, .int 0, .int 0, .int 0, .ref q6, .ref q7, .ref q8, .ref q9, .int 0, .ref q10, .ref q11, .ref q12, .int 0, .int 100, .ref q13, .int 0, .ref q14, .ref q15, .ref q16, .ref q17, .int 0, .int 0, .int 0, .ref q18, .ref q19, .null, .null, .null, .null, .null, .null, .null, .null, .null, .null, .null, .null, .int 0, .null, .null, .null, .int 0] := by rw [hf20, x19]; rfl
  have x21 : f21 = [.ref q1, .ref q2, .ref q3, .ref q4, .ref q5, .int 0, .int 0, .int 0, .int 0, .ref q6, .ref q7, .ref q8, .ref q9, .int 0, .ref q10, .ref q11, .ref q12, .int 0, .int 100, .ref q13, .int 0, .ref q14, .ref q15, .ref q16, .ref q17, .int 0, .int 0, .int 0, .ref q18, .ref q19, .ref q20, .null, .null, .null, .null, .null, .null, .null, .null, .null, .null, .null, .int 0, .null, .null, .null, .int 0] := by rw [hf21, x20]; rfl
  have x22 : f22 = [.ref q1, .ref q2, .ref q3, .ref q4, .ref q5, .int 0, .int 0, .int 0, .int 0, .ref q6, .ref q7, .ref q8, .ref q9, .int 0, .ref q10, .ref q11, .ref q12, .int 0, .int 100, .ref q13, .int 0, .ref q14, .ref q15, .ref q16, .ref q17, .int 0, .int 0, .int 0, .ref q18, .ref q19, .ref q20, .ref q21, .null, .null, .null, .null, .null, .null, .null, .null, .null, .null, .int 0, .null, .null, .null, .int 0] := by rw [hf22, x21]; rfl
  have x23 : f23 = [.ref q1, .ref q2, .ref q3, .ref q4, .ref q5, .int 0, .int 0, .int 0, .int 0, .ref q6, .ref q7, .ref q8, .ref q9, .int 0, .ref q10, .ref q11, .ref q12, .int 0, .int 100, .ref q13, .int 0, .ref q14, .ref q15, .ref q16, .ref q17, .int 0, .int 0, .int 0, .ref q18, .ref q19, .ref q20, .ref q21, .ref q22, .null, .null, .null, .null, .null, .null, .null, .null, .null, .int 0, .null, .null, .null, .int 0] := by rw [hf23, x22]; rfl
  have x24 : f24 = [.ref q1, .ref q2, .ref q3, .ref q4, .ref q5, .int 0, .int 0, .int 0, .int 0, .ref q6, .ref q7, .ref q8, .ref q9, .int 0, .ref q10, .ref q11, .ref q12, .int 0, .int 100, .ref q13, .int 0, .ref q14, .ref q15, .ref q16, .ref q17, .int 0, .int 0, .int 0, .ref q18, .ref q19, .ref q20, .ref q21, .ref q22, .ref q23, .null, .null, .null, .null, .null, .null, .null, .null, .int 0, .null, .null, .null, .int 0] := by rw [hf24, x23]; rfl
  have x25 : f25 = [.ref q1, .ref q2, .ref q3, .ref q4, .ref q5, .int 0, .int 0, .int 0, .int 0, .ref q6, .ref q7, .ref q8, .ref q9, .int 0, .ref q10, .ref q11, .ref q12, .int 0, .int 100, .ref q13, .int 0, .ref q14, .ref q15, .ref q16, .ref q17, .int 0, .int 0, .int 0, .ref q18, .ref q19, .ref q20, .ref q21, .ref q22, .ref q23, .ref q24, .null, .null, .null, .null, .null, .null, .null, .int 0, .null, .null, .null, .int 0] := by rw [hf25, x24]; rfl
  have x26 : f26 = [.ref q1, .ref q2, .ref q3, .ref q4, .ref q5, .int 0, .int 0, .int 0, .int 0, .ref q6, .ref q7, .ref q8, .ref q9, .int 0, .ref q10, .ref q11, .ref q12, .int 0, .int 100, .ref q13, .int 0, .ref q14, .ref q15, .ref q16, .ref q17, .int 0, .int 0, .int 0, .ref q18, .ref q19, .ref q20, .ref q21, .ref q22, .ref q23, .ref q24, .ref q25, .null, .null, .null, .null, .null, .null, .int 0, .null, .null, .null, .int 0] := by rw [hf26, x25]; rfl
  have x27 : f27 = [.ref q1, .ref q2, .ref q3, .ref q4, .ref q5, .int 0, .int 0, .int 0, .int 0, .ref q6, .ref q7, .ref q8, .ref q9, .int 0, .ref q10, .ref q11, .ref q12, .int 0, .int 100, .ref q13, .int 0, .ref q14, .ref q15, .ref q16, .ref q17, .int 0, .int 0, .int 0, .ref q18, .ref q19, .ref q20, .ref q21, .ref q22, .ref q23, .ref q24, .ref q25, .ref q26, .null, .null, .null, .null, .null, .int 0, .null, .null, .null, .int 0] := by rw [hf27, x26]; rfl
  have x28 : f28 = [.ref q1, .ref q2, .ref q3, .ref q4, .ref q5, .int 0, .int 0, .int 0, .int 0, .ref q6, .ref q7, .ref q8, .ref q9, .int 0, .ref q10, .ref q11, .ref q12, .int 0, .int 100, .ref q13, .int 0, .ref q14, .ref q15, .ref q16, .ref q17, .int 0, .int 0, .int 0, .ref q18, .ref q19, .ref q20, .ref q21, .ref q22, .ref q23, .ref q24, .ref q25, .ref q26, .ref q27, .null, .null, .null, .null, .int 0, .null, .null, .null, .int 0] := by rw [hf28, x27]; rfl
  have x29 : f29 = [.ref q1, .ref q2, .ref q3, .ref q4, .ref q5, .int 0, .int 0, .int 0, .int 0, .ref q6, .ref q7, .ref q8, .ref q9, .int 0, .ref q10, .ref q11, .ref q12, .int 0, .int 100, .ref q13, .int 0, .ref q14, .ref q15, .ref q16, .ref q17, .int 0, .int 0, .int 0, .ref q18, .ref q19, .ref q20, .ref q21, .ref q22, .ref q23, .ref q24, .ref q25, .ref q26, .ref q27, .ref q28, .null, .null, .null, .int 0, .null, .null, .null, .int 0] := by rw [hf29, x28]; rfl
  have x30 : f30 = [.ref q1, .ref q2, .ref q3, .ref q4, .ref q5, .int 0, .int 0, .int 0, .int 0, .ref q6, .ref q7, .ref q8, .ref q9, .int 0, .ref q10, .ref q11, .ref q12, .int 0, .int 100, .ref q13, .int 0, .ref q14, .ref q15, .ref q16, .ref q17, .int 0, .int 0, .int 0, .ref q18, .ref q19, .ref q20, .ref q21, .ref q22, .ref q23, .ref q24, .ref q25, .ref q26, .ref q27, .ref q28, .ref q29, .null, .null, .int 0, .null, .null, .null, .int 0] := by rw [hf30, x29]; rfl
  have x31 : f31 = [.ref q1, .ref q2, .ref q3, .ref q4, .ref q5, .int 0, .int 0, .int 0, .int 0, .ref q6, .ref q7, .ref q8, .ref q9, .int 0, .ref q10, .ref q11, .ref q12, .int 0, .int 100, .ref q13, .int 0, .ref q14, .ref q15, .ref q16, .ref q17, .int 0, .int 0, .int 0, .ref q18, .ref q19, .ref q20, .ref q21, .ref q22, .ref q23, .ref q24, .ref q25, .ref q26, .ref q27, .ref q28, .ref q29, .ref q30, .null, .int 0, .null, .null, .null, .int 0] := by rw [hf31, x30]; rfl
  have x32 : f32 = [.ref q1, .ref q2, .ref q3, .ref q4, .ref q5, .int 0, .int 0, .int 0, .int 0, .ref q6, .ref q7, .ref q8, .ref q9, .int 0, .ref q10, .ref q11, .ref q12, .int 0, .int 100, .ref q13, .int 0, .ref q14, .ref q15, .ref q16, .ref q17, .int 0, .int 0, .int 0, .ref q18, .ref q19, .ref q20, .ref q21, .ref q22, .ref q23, .ref q24, .ref q25, .ref q26, .ref q27, .ref q28, .ref q29, .ref q30, .ref q31, .int 0, .null, .null, .null, .int 0] := by rw [hf32, x31]; rfl
  have x33 : f33 = [.ref q1, .ref q2, .ref q3, .ref q4, .ref q5, .int 0, .int 0, .int 0, .int 0, .ref q6, .ref q7, .ref q8, .ref q9, .int 0, .ref q10, .ref q11, .ref q12, .int 0, .int 100, .ref q13, .int 0, .ref q14, .ref q15, .ref q16, .ref q17, .int 0, .int 0, .int 0, .ref q18, .ref q19, .ref q20, .ref q21, .ref q22, .ref q23, .ref q24, .ref q25, .ref q26, .ref q27, .ref q28, .ref q29, .ref q30, .ref q31, .int 0, .ref q32, .null, .null, .int 0] := by rw [hf33, x32]; rfl
  have x34 : f34 = [.ref q1, .ref q2, .ref q3, .ref q4, .ref q5, .int 0, .int 0, .int 0, .int 0, .ref q6, .ref q7, .ref q8, .ref q9, .int 0, .ref q10, .ref q11, .ref q12, .int 0, .int 100, .ref q13, .int 0, .ref q14, .ref q15, .ref q16, .ref q17, .int 0, .int 0, .int 0, .ref q18, .ref q19, .ref q20, .ref q21, .ref q22, .ref q23, .ref q24, .ref q25, .ref q26, .ref q27, .ref q28, .ref q29, .ref q30, .ref q31, .int 0, .ref q32, .ref q33, .null, .int 0] := by rw [hf34, x33]; rfl
  have x35 : f35 = [.ref q1, .ref q2, .ref q3, .ref q4, .ref q5, .int 0, .int 0, .int 0, .int 0, .ref q6, .ref q7, .ref q8, .ref q9, .int 0, .ref q10, .ref q11, .ref q12, .int 0, .int 100, .ref q13, .int 0, .ref q14, .ref q15, .ref q16, .ref q17, .int 0, .int 0, .int 0, .ref q18, .ref q19, .ref q20, .ref q21, .ref q22, .ref q23, .ref q24, .ref q25, .ref q26, .ref q27, .ref q28, .ref q29, .ref q30, .ref q31, .int 0, .ref q32, .ref q33, .ref q34, .int 0] := by rw [hf35, x34]; rfl
  exact x35
set_option maxHeartbeats 1500000 in
set_option maxRecDepth 100000 in
theorem c_X12 {D : va_G} {cA : Nat → ClassId} {l : Launch} : MetC D cA l yi_12 prog_14_method_1_code 2 12 [.null, .null, .null, .null, .null, .int 0, .int 0, .int 0, .int 0, .null, .null, .null, .null, .int 0, .null, .null, .null, .int 0, .int 0, .null, .int 0, .null, .null, .null, .null, .int 0, .int 0, .int 0, .null, .null, .null, .null, .null, .null, .null, .null, .null, .null, .null, .null, .null, .null, .int 0, .null, .null, .null, .int 0] 1 34 30135 (PostK cA 12 0 cellsM) := by
  refine MetC_of (by decide) rfl (by decide) (fun p e s m args below meth c h0 A ls Q X hin hA hl hP hD kr => ?_)
  have hS : va_S A s.heap s.heap [] := va_S.rf
  refine g_init X hl mi_12_1 obI obC (by decide +kernel) (by decide +kernel) (Nat.le_of_ble_eq_true rfl) (Nat.le_of_ble_eq_true rfl) ?_
  obtain ⟨f0, hf0⟩ : ∃ f : List Value, f = [.null, .null, .null, .null, .null, .int 0, .int 0, .int 0, .int 0, .null, .null, .null, .null, .int 0, .null, .null, .null, .int 0, .int 0, .null, .int 0, .null, .null, .null, .null, .int 0, .int 0, .int 0, .null, .null, .null, .null, .null, .null, .null, .null, .null, .null, .null, .null, .null, .null, .int 0, .null, .null, .null, .int 0] := ⟨_, rfl⟩
  have n0 : f0.length = 47 := by rw [hf0]; rfl
  obtain ⟨t0, ht0⟩ : ∃ t : va_W, t = [] := ⟨_, rfl⟩
  have hP : va_P D vwCl ((h0, .inr (12, f0)) :: t0) s.heap := by rw [hf0, ht0]; exact hP
  have hD : va_D A ((h0, .inr (12, f0)) :: t0) := by rw [hf0, ht0]; exact hD
  refine lv_aload_n (k := 0) (i := 0) X.1 X.2.1 (by decide +kernel) rfl (lv_at hl 0 rfl) ?_
  refine lv_bipush (n := 8) (v := 8) X.1 X.2.1 (by decide +kernel) (by decide) ?_
  refine g_newa (N := 8) X arI hA hP hD hS (by decide) (by decide) (Nat.le_of_ble_eq_true rfl) (Nat.le_of_ble_eq_true rfl) (Nat.le_of_ble_eq_true rfl) (by decide +kernel) (fun q1 H hP hD hS => ?_)
  refine W.widen (k := 1) (n := 8) (Nat.le_of_ble_eq_true rfl) (Nat.le_of_ble_eq_true rfl) ?_
  obtain ⟨t1, ht1⟩ : ∃ t : va_W, t = t0 ++ [(q1, .inl (cA 0, 8, .inl (fun _ => 0)))] := ⟨_, rfl⟩
  have hP : va_P D vwCl ((h0, .inr (12, f0)) :: t1) H := by rw [ht1]; exact hP
  have hD : va_D A ((h0, .inr (12, f0)) :: t1) := by rw [ht1]; exact hD
  refine g_putF (k := 12) (j := 0) X hin rfl wsi_12 tyX12_ok nmX12 hP hD hS (by decide) fi_12_0 rfl rfl rfl rfl (by rw [n0]; decide) (by decide +kernel) (fun H locs hP hD hS => ?_)
  obtain ⟨f1, hf1⟩ : ∃ f : List Value, f = f0.set 0 (.ref q1) := ⟨_, rfl⟩
  have n1 : f1.length = 47 := by rw [hf1, List.length_set]; exact n0
  rw [← hf1] at hP hD
  refine lv_aload_n (k := 0) (i := 0) X.1 X.2.1 (by decide +kernel) rfl (lv_at hl 0 rfl) ?_
  refine lv_bipush (n := 60) (v := 60) X.1 X.2.1 (by decide +kernel) (by decide) ?_
  refine g_newa (N := 60) X arI hA hP hD hS (by decide) (by decide) (Nat.le_of_ble_eq_true rfl) (Nat.le_of_ble_eq_true rfl) (Nat.le_of_ble_eq_true rfl) (by decide +kernel) (fun q2 H hP hD hS => ?_)
  refine W.widen (k := 2) (n := 68) (Nat.le_of_ble_eq_true rfl) (Nat.le_of_ble_eq_true rfl) ?_
  obtain ⟨t2, ht2⟩ : ∃ t : va_W, t = t1 ++ [(q2, .inl (cA 0, 60, .inl (fun _ => 0)))] := ⟨_, rfl⟩
  have hP : va_P D vwCl ((h0, .inr (12, f1)) :: t2) H := by rw [ht2]; exact hP
  have hD : va_D A ((h0, .inr (12, f1)) :: t2) := by rw [ht2]; exact hD
  refine g_putF (k := 12) (j := 1) X hin rfl wsi_12 tyX12_ok nmX12 hP hD hS (by decide) fi_12_1 rfl rfl rfl rfl (by rw [n1]; decide) (by decide +kernel) (fun H locs hP hD hS => ?_)
  obtain ⟨f2, hf2⟩ : ∃ f : List Value, f = f1.set 1 (.ref q2) := ⟨_, rfl⟩
  have n2 : f2.length = 47 := by rw [hf2, List.length_set]; exact n1
  rw [← hf2] at hP hD
  refine lv_aload_n (k := 0) (i := 0) X.1 X.2.1 (by decide +kernel) rfl (lv_at hl 0 rfl) ?_
  refine lv_bipush (n := 30) (v := 30) X.1 X.2.1 (by decide +kernel) (by decide) ?_
  refine g_newa (N := 30) X arI hA hP hD hS (by decide) (by decide) (Nat.le_of_ble_eq_true rfl) (Nat.le_of_ble_eq_true rfl) (Nat.le_of_ble_eq_true rfl) (by decide +kernel) (fun q3 H hP hD hS => ?_)
  refine W.widen (k := 3) (n := 98) (Nat.le_of_ble_eq_true rfl) (Nat.le_of_ble_eq_true rfl) ?_
  obtain ⟨t3, ht3⟩ : ∃ t : va_W, t = t2 ++ [(q3, .inl (cA 0, 30, .inl (fun _ => 0)))] := ⟨_, rfl⟩
  have hP : va_P D vwCl ((h0, .inr (12, f2)) :: t3) H := by rw [ht3]; exact hP
  have hD : va_D A ((h0, .inr (12, f2)) :: t3) := by rw [ht3]; exact hD
  refine g_putF (k := 12) (j := 2) X hin rfl wsi_12 tyX12_ok nmX12 hP hD hS (by decide) fi_12_2 rfl rfl rfl rfl (by rw [n2]; decide) (by decide +kernel) (fun H locs hP hD hS => ?_)
  obtain ⟨f3, hf3⟩ : ∃ f : List Value, f = f2.set 2 (.ref q3) := ⟨_, rfl⟩
  have n3 : f3.length = 47 := by rw [hf3, List.length_set]; exact n2
  rw [← hf3] at hP hD
  refine lv_aload_n (k := 0) (i := 0) X.1 X.2.1 (by decide +kernel) rfl (lv_at hl 0 rfl) ?_
  refine lv_bipush (n := 64) (v := 64) X.1 X.2.1 (by decide +kernel) (by decide) ?_
  refine g_newa (N := 64) X arI hA hP hD hS (by decide) (by decide) (Nat.le_of_ble_eq_true rfl) (Nat.le_of_ble_eq_true rfl) (Nat.le_of_ble_eq_true rfl) (by decide +kernel) (fun q4 H hP hD hS => ?_)
  refine W.widen (k := 4) (n := 162) (Nat.le_of_ble_eq_true rfl) (Nat.le_of_ble_eq_true rfl) ?_
  obtain ⟨t4, ht4⟩ : ∃ t : va_W, t = t3 ++ [(q4, .inl (cA 0, 64, .inl (fun _ => 0)))] := ⟨_, rfl⟩
  have hP : va_P D vwCl ((h0, .inr (12, f3)) :: t4) H := by rw [ht4]; exact hP
  have hD : va_D A ((h0, .inr (12, f3)) :: t4) := by rw [ht4]; exact hD
  refine g_putF (k := 12) (j := 3) X hin rfl wsi_12 tyX12_ok nmX12 hP hD hS (by decide) fi_12_3 rfl rfl rfl rfl (by rw [n3]; decide) (by decide +kernel) (fun H locs hP hD hS => ?_)
  obtain ⟨f4, hf4⟩ : ∃ f : List Value, f = f3.set 3 (.ref q4) := ⟨_, rfl⟩
  have n4 : f4.length = 47 := by rw [hf4, List.length_set]; exact n3
  rw [← hf4] at hP hD
  refine lv_aload_n (k := 0) (i := 0) X.1 X.2.1 (by decide +kernel) rfl (lv_at hl 0 rfl) ?_
  refine lv_iconst (n := 4) (v := 4) X.1 X.2.1 (by decide +kernel) (by decide) ?_
  refine g_newa (N := 4) X arI hA hP hD hS (by decide) (by decide) (Nat.le_of_ble_eq_true rfl) (Nat.le_of_ble_eq_true rfl) (Nat.le_of_ble_eq_true rfl) (by decide +kernel) (fun q5 H hP hD hS => ?_)
  refine W.widen (k := 5) (n := 166) (Nat.le_of_ble_eq_true rfl) (Nat.le_of_ble_eq_true rfl) ?_
  obtain ⟨t5, ht5⟩ : ∃ t : va_W, t = t4 ++ [(q5, .inl (cA 0, 4, .inl (fun _ => 0)))] := ⟨_, rfl⟩
  have hP : va_P D vwCl ((h0, .inr (12, f4)) :: t5) H := by rw [ht5]; exact hP
  have hD : va_D A ((h0, .inr (12, f4)) :: t5) := by rw [ht5]; exact hD
  refine g_putF (k := 12) (j := 4) X hin rfl wsi_12 tyX12_ok nmX12 hP hD hS (by decide) fi_12_4 rfl rfl rfl rfl (by rw [n4]; decide) (by decide +kernel) (fun H locs hP hD hS => ?_)
  obtain ⟨f5, hf5⟩ : ∃ f : List Value, f = f4.set 4 (.ref q5) := ⟨_, rfl⟩
  have n5 : f5.length = 47 := by rw [hf5, List.length_set]; exact n4
  rw [← hf5] at hP hD
  refine lv_aload_n (k := 0) (i := 0) X.1 X.2.1 (by decide +kernel) rfl (lv_at hl 0 rfl) ?_
  refine lv_iconst (n := 5) (v := 5) X.1 X.2.1 (by decide +kernel) (by decide) ?_
  refine g_newa (N := 5) X arI hA hP hD hS (by decide) (by decide) (Nat.le_of_ble_eq_true rfl) (Nat.le_of_ble_eq_true rfl) (Nat.le_of_ble_eq_true rfl) (by decide +kernel) (fun q6 H hP hD hS => ?_)
  refine W.widen (k := 6) (n := 171) (Nat.le_of_ble_eq_true rfl) (Nat.le_of_ble_eq_true rfl) ?_
  obtain ⟨t6, ht6⟩ : ∃ t : va_W, t = t5 ++ [(q6, .inl (cA 0, 5, .inl (fun _ => 0)))] := ⟨_, rfl⟩
  have hP : va_P D vwCl ((h0, .inr (12, f5)) :: t6) H := by rw [ht6]; exact hP
  have hD : va_D A ((h0, .inr (12, f5)) :: t6) := by rw [ht6]; exact hD
  refine g_putF (k := 12) (j := 9) X hin rfl wsi_12 tyX12_ok nmX12 hP hD hS (by decide) fi_12_9 rfl rfl rfl rfl (by rw [n5]; decide) (by decide +kernel) (fun H locs hP hD hS => ?_)
  obtain ⟨f6, hf6⟩ : ∃ f : List Value, f = f5.set 9 (.ref q6) := ⟨_, rfl⟩
  have n6 : f6.length = 47 := by rw [hf6, List.length_set]; exact n5
  rw [← hf6] at hP hD
  refine lv_aload_n (k := 0) (i := 0) X.1 X.2.1 (by decide +kernel) rfl (lv_at hl 0 rfl) ?_
  refine lv_iconst (n := 5) (v := 5) X.1 X.2.1 (by decide +kernel) (by decide) ?_
  refine g_newa (N := 5) X arI hA hP hD hS (by decide) (by decide) (Nat.le_of_ble_eq_true rfl) (Nat.le_of_ble_eq_true rfl) (Nat.le_of_ble_eq_true rfl) (by decide +kernel) (fun q7 H hP hD hS => ?_)
  refine W.widen (k := 7) (n := 176) (Nat.le_of_ble_eq_true rfl) (Nat.le_of_ble_eq_true rfl) ?_
  obtain ⟨t7, ht7⟩ : ∃ t : va_W, t = t6 ++ [(q7, .inl (cA 0, 5, .inl (fun _ => 0)))] := ⟨_, rfl⟩
  have hP : va_P D vwCl ((h0, .inr (12, f6)) :: t7) H := by rw [ht7]; exact hP
  have hD : va_D A ((h0, .inr (12, f6)) :: t7) := by rw [ht7]; exact hD
  refine g_putF (k := 12) (j := 10) X hin rfl wsi_12 tyX12_ok nmX12 hP hD hS (by decide) fi_12_10 rfl rfl rfl rfl (by rw [n6]; decide) (by decide +kernel) (fun H locs hP hD hS => ?_)
  obtain ⟨f7, hf7⟩ : ∃ f : List Value, f = f6.set 10 (.ref q7) := ⟨_, rfl⟩
  have n7 : f7.length = 47 := by rw [hf7, List.length_set]; exact n6
  rw [← hf7] at hP hD
  refine lv_aload_n (k := 0) (i := 0) X.1 X.2.1 (by decide +kernel) rfl (lv_at hl 0 rfl) ?_
  refine lv_iconst (n := 5) (v := 5) X.1 X.2.1 (by decide +kernel) (by decide) ?_
  refine g_newa (N := 5) X arI hA hP hD hS (by decide) (by decide) (Nat.le_of_ble_eq_true rfl) (Nat.le_of_ble_eq_true rfl) (Nat.le_of_ble_eq_true rfl) (by decide +kernel) (fun q8 H hP hD hS => ?_)
  refine W.widen (k := 8) (n := 181) (Nat.le_of_ble_eq_true rfl) (Nat.le_of_ble_eq_true rfl) ?_
  obtain ⟨t8, ht8⟩ : ∃ t : va_W, t = t7 ++ [(q8, .inl (cA 0, 5, .inl (fun _ => 0)))] := ⟨_, rfl⟩
  have hP : va_P D vwCl ((h0, .inr (12, f7)) :: t8) H := by rw [ht8]; exact hP
  have hD : va_D A ((h0, .inr (12, f7)) :: t8) := by rw [ht8]; exact hD
  refine g_putF (k := 12) (j := 11) X hin rfl wsi_12 tyX12_ok nmX12 hP hD hS (by decide) fi_12_11 rfl rfl rfl rfl (by rw [n7]; decide) (by decide +kernel) (fun H locs hP hD hS => ?_)
  obtain ⟨f8, hf8⟩ : ∃ f : List Value, f = f7.set 11 (.ref q8) := ⟨_, rfl⟩
  have n8 : f8.length = 47 := by rw [hf8, List.length_set]; exact n7
  rw [← hf8] at hP hD
  refine lv_aload_n (k := 0) (i := 0) X.1 X.2.1 (by decide +kernel) rfl (lv_at hl 0 rfl) ?_
  refine lv_sipush (n := 680) (v := 680) X.1 X.2.1 (by decide +kernel) (by decide) ?_
  refine g_newa (N := 680) X arI hA hP hD hS (by decide) (by decide) (Nat.le_of_ble_eq_true rfl) (Nat.le_of_ble_eq_true rfl) (Nat.le_of_ble_eq_true rfl) (by decide +kernel) (fun q9 H hP hD hS => ?_)
  refine W.widen (k := 9) (n := 861) (Nat.le_of_ble_eq_true rfl) (Nat.le_of_ble_eq_true rfl) ?_
  obtain ⟨t9, ht9⟩ : ∃ t : va_W, t = t8 ++ [(q9, .inl (cA 0, 680, .inl (fun _ => 0)))] := ⟨_, rfl⟩
  have hP : va_P D vwCl ((h0, .inr (12, f8)) :: t9) H := by rw [ht9]; exact hP
  have hD : va_D A ((h0, .inr (12, f8)) :: t9) := by rw [ht9]; exact hD
  refine g_putF (k := 12) (j := 12) X hin rfl wsi_12 tyX12_ok nmX12 hP hD hS (by decide) fi_12_12 rfl rfl rfl rfl (by rw [n8]; decide) (by decide +kernel) (fun H locs hP hD hS => ?_)
  obtain ⟨f9, hf9⟩ : ∃ f : List Value, f = f8.set 12 (.ref q9) := ⟨_, rfl⟩
  have n9 : f9.length = 47 := by rw [hf9, List.length_set]; exact n8
  rw [← hf9] at hP hD
  refine lv_aload_n (k := 0) (i := 0) X.1 X.2.1 (by decide +kernel) rfl (lv_at hl 0 rfl) ?_
  refine lv_bipush (n := 10) (v := 10) X.1 X.2.1 (by decide +kernel) (by decide) ?_
  refine g_newa (N := 10) X arI hA hP hD hS (by decide) (by decide) (Nat.le_of_ble_eq_true rfl) (Nat.le_of_ble_eq_true rfl) (Nat.le_of_ble_eq_true rfl) (by decide +kernel) (fun q10 H hP hD hS => ?_)
  refine W.widen (k := 10) (n := 871) (Nat.le_of_ble_eq_true rfl) (Nat.le_of_ble_eq_true rfl) ?_
  obtain ⟨t10, ht10⟩ : ∃ t : va_W, t = t9 ++ [(q10, .inl (cA 0, 10, .inl (fun _ => 0)))] := ⟨_, rfl⟩
  have hP : va_P D vwCl ((h0, .inr (12, f9)) :: t10) H := by rw [ht10]; exact hP
  have hD : va_D A ((h0, .inr (12, f9)) :: t10) := by rw [ht10]; exact hD
  refine g_putF (k := 12) (j := 14) X hin rfl wsi_12 tyX12_ok nmX12 hP hD hS (by decide) fi_12_14 rfl rfl rfl rfl (by rw [n9]; decide) (by decide +kernel) (fun H locs hP hD hS => ?_)
  obtain ⟨f10, hf10⟩ : ∃ f : List Value, f = f9.set 14 (.ref q10) := ⟨_, rfl⟩
  have n10 : f10.length = 47 := by rw [hf10, List.length_set]; exact n9
  rw [← hf10] at hP hD
  refine lv_aload_n (k := 0) (i := 0) X.1 X.2.1 (by decide +kernel) rfl (lv_at hl 0 rfl) ?_
  refine lv_sipush (n := 136) (v := 136) X.1 X.2.1 (by decide +kernel) (by decide) ?_
  refine g_newa (N := 136) X arI hA hP hD hS (by decide) (by decide) (Nat.le_of_ble_eq_true rfl) (Nat.le_of_ble_eq_true rfl) (Nat.le_of_ble_eq_true rfl) (by decide +kernel) (fun q11 H hP hD hS => ?_)
  refine W.widen (k := 11) (n := 1007) (Nat.le_of_ble_eq_true rfl) (Nat.le_of_ble_eq_true rfl) ?_
  obtain ⟨t11, ht11⟩ : ∃ t : va_W, t = t10 ++ [(q11, .inl (cA 0, 136, .inl (fun _ => 0)))] := ⟨_, rfl⟩
  have hP : va_P D vwCl ((h0, .inr (12, f10)) :: t11) H := by rw [ht11]; exact hP
  have hD : va_D A ((h0, .inr (12, f10)) :: t11) := by rw [ht11]; exact hD
  refine g_putF (k := 12) (j := 15) X hin rfl wsi_12 tyX12_ok nmX12 hP hD hS (by decide) fi_12_15 rfl rfl rfl rfl (by rw [n10]; decide) (by decide +kernel) (fun H locs hP hD hS => ?_)
  obtain ⟨f11, hf11⟩ : ∃ f : List Value, f = f10.set 15 (.ref q11) := ⟨_, rfl⟩
  have n11 : f11.length = 47 := by rw [hf11, List.length_set]; exact n10
  rw [← hf11] at hP hD
  refine lv_aload_n (k := 0) (i := 0) X.1 X.2.1 (by decide +kernel) rfl (lv_at hl 0 rfl) ?_
  refine lv_iconst (n := 4) (v := 4) X.1 X.2.1 (by decide +kernel) (by decide) ?_
  refine g_newa (N := 4) X arI hA hP hD hS (by decide) (by decide) (Nat.le_of_ble_eq_true rfl) (Nat.le_of_ble_eq_true rfl) (Nat.le_of_ble_eq_true rfl) (by decide +kernel) (fun q12 H hP hD hS => ?_)
  refine W.widen (k := 12) (n := 1011) (Nat.le_of_ble_eq_true rfl) (Nat.le_of_ble_eq_true rfl) ?_
  refine lv_dup X.1 X.2.1 (by decide +kernel) rfl ?_
  refine lv_iconst (n := 0) (v := 0) X.1 X.2.1 (by decide +kernel) (by decide) ?_
  refine lv_iconst (n := 2) (v := 2) X.1 X.2.1 (by decide +kernel) (by decide) ?_
  refine g_ast X hP hD hS (k := 0) rfl (by decide) (by decide +kernel) (fun H locs hP hD hS => ?_)
  refine lv_dup X.1 X.2.1 (by decide +kernel) rfl ?_
  refine lv_iconst (n := 1) (v := 1) X.1 X.2.1 (by decide +kernel) (by decide) ?_
  refine lv_iconst (n := 5) (v := 5) X.1 X.2.1 (by decide +kernel) (by decide) ?_
  refine g_ast X hP hD hS (k := 0) rfl (by decide) (by decide +kernel) (fun H locs hP hD hS => ?_)
  refine lv_dup X.1 X.2.1 (by decide +kernel) rfl ?_
  refine lv_iconst (n := 2) (v := 2) X.1 X.2.1 (by decide +kernel) (by decide) ?_
  refine lv_bipush (n := 10) (v := 10) X.1 X.2.1 (by decide +kernel) (by decide) ?_
  refine g_ast X hP hD hS (k := 0) rfl (by decide) (by decide +kernel) (fun H locs hP hD hS => ?_)
  refine lv_dup X.1 X.2.1 (by decide +kernel) rfl ?_
  refine lv_iconst (n := 3) (v := 3) X.1 X.2.1 (by decide +kernel) (by decide) ?_
  refine lv_iconst (n := 5) (v := 5) X.1 X.2.1 (by decide +kernel) (by decide) ?_
  refine g_ast X hP hD hS (k := 0) rfl (by decide) (by decide +kernel) (fun H locs hP hD hS => ?_)
  rw [s0_784] at hP hD
  obtain ⟨t12, ht12⟩ : ∃ t : va_W, t = t11 ++ [(q12, .inl (cA 0, 4, .inl (fun j => S0 784 0 j)))] := ⟨_, rfl⟩
  have hP : va_P D vwCl ((h0, .inr (12, f11)) :: t12) H := by rw [ht12]; exact hP
  have hD : va_D A ((h0, .inr (12, f11)) :: t12) := by rw [ht12]; exact hD
  refine g_putF (k := 12) (j := 16) X hin rfl wsi_12 tyX12_ok nmX12 hP hD hS (by decide) fi_12_16 rfl rfl rfl rfl (by rw [n11]; decide) (by decide +kernel) (fun H locs hP hD hS => ?_)
  obtain ⟨f12, hf12⟩ : ∃ f : List Value, f = f11.set 16 (.ref q12) := ⟨_, rfl⟩
  have n12 : f12.length = 47 := by rw [hf12, List.length_set]; exact n11
  rw [← hf12] at hP hD
  refine lv_aload_n (k := 0) (i := 0) X.1 X.2.1 (by decide +kernel) rfl (lv_at hl 0 rfl) ?_
  refine lv_bipush (n := 100) (v := 100) X.1 X.2.1 (by decide +kernel) (by decide) ?_
  refine g_putN (k := 12) (j := 18) X rfl wsi_12 tyX12_ok nmX12 hP hD hS (by decide) fi_12_18 rfl rfl rfl (by rw [n12]; decide) (by decide +kernel) (fun H locs hP hD hS => ?_)
  obtain ⟨f13, hf13⟩ : ∃ f : List Value, f = f12.set 18 (.int 100) := ⟨_, rfl⟩
  have n13 : f13.length = 47 := by rw [hf13, List.length_set]; exact n12
  rw [← hf13] at hP hD
  refine lv_aload_n (k := 0) (i := 0) X.1 X.2.1 (by decide +kernel) rfl (lv_at hl 0 rfl) ?_
  refine lv_bipush (n := 6) (v := 6) X.1 X.2.1 (by decide +kernel) (by decide) ?_
  refine g_newa (N := 6) X arI hA hP hD hS (by decide) (by decide) (Nat.le_of_ble_eq_true rfl) (Nat.le_of_ble_eq_true rfl) (Nat.le_of_ble_eq_true rfl) (by decide +kernel) (fun q13 H hP hD hS => ?_)
  refine W.widen (k := 13) (n := 1017) (Nat.le_of_ble_eq_true rfl) (Nat.le_of_ble_eq_true rfl) ?_
  obtain ⟨t13, ht13⟩ : ∃ t : va_W, t = t12 ++ [(q13, .inl (cA 0, 6, .inl (fun _ => 0)))] := ⟨_, rfl⟩
  have hP : va_P D vwCl ((h0, .inr (12, f13)) :: t13) H := by rw [ht13]; exact hP
  have hD : va_D A ((h0, .inr (12, f13)) :: t13) := by rw [ht13]; exact hD
  refine g_putF (k := 12) (j := 19) X hin rfl wsi_12 tyX12_ok nmX12 hP hD hS (by decide) fi_12_19 rfl rfl rfl rfl (by rw [n13]; decide) (by decide +kernel) (fun H locs hP hD hS => ?_)
  obtain ⟨f14, hf14⟩ : ∃ f : List Value, f = f13.set 19 (.ref q13) := ⟨_, rfl⟩
  have n14 : f14.length = 47 := by rw [hf14, List.length_set]; exact n13
  rw [← hf14] at hP hD
  refine lv_aload_n (k := 0) (i := 0) X.1 X.2.1 (by decide +kernel) rfl (lv_at hl 0 rfl) ?_
  refine lv_bipush (n := 40) (v := 40) X.1 X.2.1 (by decide +kernel) (by decide) ?_
  refine g_newa (N := 40) X arI hA hP hD hS (by decide) (by decide) (Nat.le_of_ble_eq_true rfl) (Nat.le_of_ble_eq_true rfl) (Nat.le_of_ble_eq_true rfl) (by decide +kernel) (fun q14 H hP hD hS => ?_)
  refine W.widen (k := 14) (n := 1057) (Nat.le_of_ble_eq_true rfl) (Nat.le_of_ble_eq_true rfl) ?_
  obtain ⟨t14, ht14⟩ : ∃ t : va_W, t = t13 ++ [(q14, .inl (cA 0, 40, .inl (fun _ => 0)))] := ⟨_, rfl⟩
  have hP : va_P D vwCl ((h0, .inr (12, f14)) :: t14) H := by rw [ht14]; exact hP
  have hD : va_D A ((h0, .inr (12, f14)) :: t14) := by rw [ht14]; exact hD
  refine g_putF (k := 12) (j := 21) X hin rfl wsi_12 tyX12_ok nmX12 hP hD hS (by decide) fi_12_21 rfl rfl rfl rfl (by rw [n14]; decide) (by decide +kernel) (fun H locs hP hD hS => ?_)
  obtain ⟨f15, hf15⟩ : ∃ f : List Value, f = f14.set 21 (.ref q14) := ⟨_, rfl⟩
  have n15 : f15.length = 47 := by rw [hf15, List.length_set]; exact n14
  rw [← hf15] at hP hD
  refine lv_aload_n (k := 0) (i := 0) X.1 X.2.1 (by decide +kernel) rfl (lv_at hl 0 rfl) ?_
  refine lv_bipush (n := 40) (v := 40) X.1 X.2.1 (by decide +kernel) (by decide) ?_
  refine g_newa (N := 40) X arI hA hP hD hS (by decide) (by decide) (Nat.le_of_ble_eq_true rfl) (Nat.le_of_ble_eq_true rfl) (Nat.le_of_ble_eq_true rfl) (by decide +kernel) (fun q15 H hP hD hS => ?_)
  refine W.widen (k := 15) (n := 1097) (Nat.le_of_ble_eq_true rfl) (Nat.le_of_ble_eq_true rfl) ?_
  obtain ⟨t15, ht15⟩ : ∃ t : va_W, t = t14 ++ [(q15, .inl (cA 0, 40, .inl (fun _ => 0)))] := ⟨_, rfl⟩
  have hP : va_P D vwCl ((h0, .inr (12, f15)) :: t15) H := by rw [ht15]; exact hP
  have hD : va_D A ((h0, .inr (12, f15)) :: t15) := by rw [ht15]; exact hD
  refine g_putF (k := 12) (j := 22) X hin rfl wsi_12 tyX12_ok nmX12 hP hD hS (by decide) fi_12_22 rfl rfl rfl rfl (by rw [n15]; decide) (by decide +kernel) (fun H locs hP hD hS => ?_)
  obtain ⟨f16, hf16⟩ : ∃ f : List Value, f = f15.set 22 (.ref q15) := ⟨_, rfl⟩
  have n16 : f16.length = 47 := by rw [hf16, List.length_set]; exact n15
  rw [← hf16] at hP hD
  refine lv_aload_n (k := 0) (i := 0) X.1 X.2.1 (by decide +kernel) rfl (lv_at hl 0 rfl) ?_
  refine lv_bipush (n := 40) (v := 40) X.1 X.2.1 (by decide +kernel) (by decide) ?_
  refine g_newa (N := 40) X arI hA hP hD hS (by decide) (by decide) (Nat.le_of_ble_eq_true rfl) (Nat.le_of_ble_eq_true rfl) (Nat.le_of_ble_eq_true rfl) (by decide +kernel) (fun q16 H hP hD hS => ?_)
  refine W.widen (k := 16) (n := 1137) (Nat.le_of_ble_eq_true rfl) (Nat.le_of_ble_eq_true rfl) ?_
  obtain ⟨t16, ht16⟩ : ∃ t : va_W, t = t15 ++ [(q16, .inl (cA 0, 40, .inl (fun _ => 0)))] := ⟨_, rfl⟩
  have hP : va_P D vwCl ((h0, .inr (12, f16)) :: t16) H := by rw [ht16]; exact hP
  have hD : va_D A ((h0, .inr (12, f16)) :: t16) := by rw [ht16]; exact hD
  refine g_putF (k := 12) (j := 23) X hin rfl wsi_12 tyX12_ok nmX12 hP hD hS (by decide) fi_12_23 rfl rfl rfl rfl (by rw [n16]; decide) (by decide +kernel) (fun H locs hP hD hS => ?_)
  obtain ⟨f17, hf17⟩ : ∃ f : List Value, f = f16.set 23 (.ref q16) := ⟨_, rfl⟩
  have n17 : f17.length = 47 := by rw [hf17, List.length_set]; exact n16
  rw [← hf17] at hP hD
  refine lv_aload_n (k := 0) (i := 0) X.1 X.2.1 (by decide +kernel) rfl (lv_at hl 0 rfl) ?_
  refine lv_bipush (n := 40) (v := 40) X.1 X.2.1 (by decide +kernel) (by decide) ?_
  refine g_newa (N := 40) X arI hA hP hD hS (by decide) (by decide) (Nat.le_of_ble_eq_true rfl) (Nat.le_of_ble_eq_true rfl) (Nat.le_of_ble_eq_true rfl) (by decide +kernel) (fun q17 H hP hD hS => ?_)
  refine W.widen (k := 17) (n := 1177) (Nat.le_of_ble_eq_true rfl) (Nat.le_of_ble_eq_true rfl) ?_
  obtain ⟨t17, ht17⟩ : ∃ t : va_W, t = t16 ++ [(q17, .inl (cA 0, 40, .inl (fun _ => 0)))] := ⟨_, rfl⟩
  have hP : va_P D vwCl ((h0, .inr (12, f17)) :: t17) H := by rw [ht17]; exact hP
  have hD : va_D A ((h0, .inr (12, f17)) :: t17) := by rw [ht17]; exact hD
  refine g_putF (k := 12) (j := 24) X hin rfl wsi_12 tyX12_ok nmX12 hP hD hS (by decide) fi_12_24 rfl rfl rfl rfl (by rw [n17]; decide) (by decide +kernel) (fun H locs hP hD hS => ?_)
  obtain ⟨f18, hf18⟩ : ∃ f : List Value, f = f17.set 24 (.ref q17) := ⟨_, rfl⟩
  have n18 : f18.length = 47 := by rw [hf18, List.length_set]; exact n17
  rw [← hf18] at hP hD
  refine lv_aload_n (k := 0) (i := 0) X.1 X.2.1 (by decide +kernel) rfl (lv_at hl 0 rfl) ?_
  refine lv_iconst (n := 5) (v := 5) X.1 X.2.1 (by decide +kernel) (by decide) ?_
  refine g_newa (N := 5) X arI hA hP hD hS (by decide) (by decide) (Nat.le_of_ble_eq_true rfl) (Nat.le_of_ble_eq_true rfl) (Nat.le_of_ble_eq_true rfl) (by decide +kernel) (fun q18 H hP hD hS => ?_)
  refine W.widen (k := 18) (n := 1182) (Nat.le_of_ble_eq_true rfl) (Nat.le_of_ble_eq_true rfl) ?_
  obtain ⟨t18, ht18⟩ : ∃ t : va_W, t = t17 ++ [(q18, .inl (cA 0, 5, .inl (fun _ => 0)))] := ⟨_, rfl⟩
  have hP : va_P D vwCl ((h0, .inr (12, f18)) :: t18) H := by rw [ht18]; exact hP
  have hD : va_D A ((h0, .inr (12, f18)) :: t18) := by rw [ht18]; exact hD
  refine g_putF (k := 12) (j := 28) X hin rfl wsi_12 tyX12_ok nmX12 hP hD hS (by decide) fi_12_28 rfl rfl rfl rfl (by rw [n18]; decide) (by decide +kernel) (fun H locs hP hD hS => ?_)
  obtain ⟨f19, hf19⟩ : ∃ f : List Value, f = f18.set 28 (.ref q18) := ⟨_, rfl⟩
  have n19 : f19.length = 47 := by rw [hf19, List.length_set]; exact n18
  rw [← hf19] at hP hD
  refine lv_aload_n (k := 0) (i := 0) X.1 X.2.1 (by decide +kernel) rfl (lv_at hl 0 rfl) ?_
  refine lv_bipush (n := 30) (v := 30) X.1 X.2.1 (by decide +kernel) (by decide) ?_
  refine g_newa (N := 30) X arI hA hP hD hS (by decide) (by decide) (Nat.le_of_ble_eq_true rfl) (Nat.le_of_ble_eq_true rfl) (Nat.le_of_ble_eq_true rfl) (by decide +kernel) (fun q19 H hP hD hS => ?_)
  refine W.widen (k := 19) (n := 1212) (Nat.le_of_ble_eq_true rfl) (Nat.le_of_ble_eq_true rfl) ?_
  obtain ⟨t19, ht19⟩ : ∃ t : va_W, t = t18 ++ [(q19, .inl (cA 0, 30, .inl (fun _ => 0)))] := ⟨_, rfl⟩
  have hP : va_P D vwCl ((h0, .inr (12, f19)) :: t19) H := by rw [ht19]; exact hP
  have hD : va_D A ((h0, .inr (12, f19)) :: t19) := by rw [ht19]; exact hD
  refine g_putF (k := 12) (j := 29) X hin rfl wsi_12 tyX12_ok nmX12 hP hD hS (by decide) fi_12_29 rfl rfl rfl rfl (by rw [n19]; decide) (by decide +kernel) (fun H locs hP hD hS => ?_)
  obtain ⟨f20, hf20⟩ : ∃ f : List Value, f = f19.set 29 (.ref q19) := ⟨_, rfl⟩
  have n20 : f20.length = 47 := by rw [hf20, List.length_set]; exact n19
  rw [← hf20] at hP hD
  refine lv_aload_n (k := 0) (i := 0) X.1 X.2.1 (by decide +kernel) rfl (lv_at hl 0 rfl) ?_
  refine lv_bipush (n := 30) (v := 30) X.1 X.2.1 (by decide +kernel) (by decide) ?_
  refine g_newa (N := 30) X arI hA hP hD hS (by decide) (by decide) (Nat.le_of_ble_eq_true rfl) (Nat.le_of_ble_eq_true rfl) (Nat.le_of_ble_eq_true rfl) (by decide +kernel) (fun q20 H hP hD hS => ?_)
  refine W.widen (k := 20) (n := 1242) (Nat.le_of_ble_eq_true rfl) (Nat.le_of_ble_eq_true rfl) ?_
  obtain ⟨t20, ht20⟩ : ∃ t : va_W, t = t19 ++ [(q20, .inl (cA 0, 30, .inl (fun _ => 0)))] := ⟨_, rfl⟩
  have hP : va_P D vwCl ((h0, .inr (12, f20)) :: t20) H := by rw [ht20]; exact hP
  have hD : va_D A ((h0, .inr (12, f20)) :: t20) := by rw [ht20]; exact hD
  refine g_putF (k := 12) (j := 30) X hin rfl wsi_12 tyX12_ok nmX12 hP hD hS (by decide) fi_12_30 rfl rfl rfl rfl (by rw [n20]; decide) (by decide +kernel) (fun H locs hP hD hS => ?_)
  obtain ⟨f21, hf21⟩ : ∃ f : List Value, f = f20.set 30 (.ref q20) := ⟨_, rfl⟩
  have n21 : f21.length = 47 := by rw [hf21, List.length_set]; exact n20
  rw [← hf21] at hP hD
  refine lv_aload_n (k := 0) (i := 0) X.1 X.2.1 (by decide +kernel) rfl (lv_at hl 0 rfl) ?_
  refine lv_bipush (n := 30) (v := 30) X.1 X.2.1 (by decide +kernel) (by decide) ?_
  refine g_newa (N := 30) X arI hA hP hD hS (by decide) (by decide) (Nat.le_of_ble_eq_true rfl) (Nat.le_of_ble_eq_true rfl) (Nat.le_of_ble_eq_true rfl) (by decide +kernel) (fun q21 H hP hD hS => ?_)
  refine W.widen (k := 21) (n := 1272) (Nat.le_of_ble_eq_true rfl) (Nat.le_of_ble_eq_true rfl) ?_
  obtain ⟨t21, ht21⟩ : ∃ t : va_W, t = t20 ++ [(q21, .inl (cA 0, 30, .inl (fun _ => 0)))] := ⟨_, rfl⟩
  have hP : va_P D vwCl ((h0, .inr (12, f21)) :: t21) H := by rw [ht21]; exact hP
  have hD : va_D A ((h0, .inr (12, f21)) :: t21) := by rw [ht21]; exact hD
  refine g_putF (k := 12) (j := 31) X hin rfl wsi_12 tyX12_ok nmX12 hP hD hS (by decide) fi_12_31 rfl rfl rfl rfl (by rw [n21]; decide) (by decide +kernel) (fun H locs hP hD hS => ?_)
  obtain ⟨f22, hf22⟩ : ∃ f : List Value, f = f21.set 31 (.ref q21) := ⟨_, rfl⟩
  have n22 : f22.length = 47 := by rw [hf22, List.length_set]; exact n21
  rw [← hf22] at hP hD
  refine lv_aload_n (k := 0) (i := 0) X.1 X.2.1 (by decide +kernel) rfl (lv_at hl 0 rfl) ?_
  refine lv_bipush (n := 30) (v := 30) X.1 X.2.1 (by decide +kernel) (by decide) ?_
  refine g_newa (N := 30) X arI hA hP hD hS (by decide) (by decide) (Nat.le_of_ble_eq_true rfl) (Nat.le_of_ble_eq_true rfl) (Nat.le_of_ble_eq_true rfl) (by decide +kernel) (fun q22 H hP hD hS => ?_)
  refine W.widen (k := 22) (n := 1302) (Nat.le_of_ble_eq_true rfl) (Nat.le_of_ble_eq_true rfl) ?_
  obtain ⟨t22, ht22⟩ : ∃ t : va_W, t = t21 ++ [(q22, .inl (cA 0, 30, .inl (fun _ => 0)))] := ⟨_, rfl⟩
  have hP : va_P D vwCl ((h0, .inr (12, f22)) :: t22) H := by rw [ht22]; exact hP
  have hD : va_D A ((h0, .inr (12, f22)) :: t22) := by rw [ht22]; exact hD
  refine g_putF (k := 12) (j := 32) X hin rfl wsi_12 tyX12_ok nmX12 hP hD hS (by decide) fi_12_32 rfl rfl rfl rfl (by rw [n22]; decide) (by decide +kernel) (fun H locs hP hD hS => ?_)
  obtain ⟨f23, hf23⟩ : ∃ f : List Value, f = f22.set 32 (.ref q22) := ⟨_, rfl⟩
  have n23 : f23.length = 47 := by rw [hf23, List.length_set]; exact n22
  rw [← hf23] at hP hD
  refine lv_aload_n (k := 0) (i := 0) X.1 X.2.1 (by decide +kernel) rfl (lv_at hl 0 rfl) ?_
  refine lv_bipush (n := 30) (v := 30) X.1 X.2.1 (by decide +kernel) (by decide) ?_
  refine g_newa (N := 30) X arI hA hP hD hS (by decide) (by decide) (Nat.le_of_ble_eq_true rfl) (Nat.le_of_ble_eq_true rfl) (Nat.le_of_ble_eq_true rfl) (by decide +kernel) (fun q23 H hP hD hS => ?_)
  refine W.widen (k := 23) (n := 1332) (Nat.le_of_ble_eq_true rfl) (Nat.le_of_ble_eq_true rfl) ?_
  obtain ⟨t23, ht23⟩ : ∃ t : va_W, t = t22 ++ [(q23, .inl (cA 0, 30, .inl (fun _ => 0)))] := ⟨_, rfl⟩
  have hP : va_P D vwCl ((h0, .inr (12, f23)) :: t23) H := by rw [ht23]; exact hP
  have hD : va_D A ((h0, .inr (12, f23)) :: t23) := by rw [ht23]; exact hD
  refine g_putF (k := 12) (j := 33) X hin rfl wsi_12 tyX12_ok nmX12 hP hD hS (by decide) fi_12_33 rfl rfl rfl rfl (by rw [n23]; decide) (by decide +kernel) (fun H locs hP hD hS => ?_)
  obtain ⟨f24, hf24⟩ : ∃ f : List Value, f = f23.set 33 (.ref q23) := ⟨_, rfl⟩
  have n24 : f24.length = 47 := by rw [hf24, List.length_set]; exact n23
  rw [← hf24] at hP hD
  refine lv_aload_n (k := 0) (i := 0) X.1 X.2.1 (by decide +kernel) rfl (lv_at hl 0 rfl) ?_
  refine lv_bipush (n := 12) (v := 12) X.1 X.2.1 (by decide +kernel) (by decide) ?_
  refine g_newa (N := 12) X arI hA hP hD hS (by decide) (by decide) (Nat.le_of_ble_eq_true rfl) (Nat.le_of_ble_eq_true rfl) (Nat.le_of_ble_eq_true rfl) (by decide +kernel) (fun q24 H hP hD hS => ?_)
  refine W.widen (k := 24) (n := 1344) (Nat.le_of_ble_eq_true rfl) (Nat.le_of_ble_eq_true rfl) ?_
  obtain ⟨t24, ht24⟩ : ∃ t : va_W, t = t23 ++ [(q24, .inl (cA 0, 12, .inl (fun _ => 0)))] := ⟨_, rfl⟩
  have hP : va_P D vwCl ((h0, .inr (12, f24)) :: t24) H := by rw [ht24]; exact hP
  have hD : va_D A ((h0, .inr (12, f24)) :: t24) := by rw [ht24]; exact hD
  refine g_putF (k := 12) (j := 34) X hin rfl wsi_12 tyX12_ok nmX12 hP hD hS (by decide) fi_12_34 rfl rfl rfl rfl (by rw [n24]; decide) (by decide +kernel) (fun H locs hP hD hS => ?_)
  obtain ⟨f25, hf25⟩ : ∃ f : List Value, f = f24.set 34 (.ref q24) := ⟨_, rfl⟩
  have n25 : f25.length = 47 := by rw [hf25, List.length_set]; exact n24
  rw [← hf25] at hP hD
  refine lv_aload_n (k := 0) (i := 0) X.1 X.2.1 (by decide +kernel) rfl (lv_at hl 0 rfl) ?_
  refine lv_iconst (n := 5) (v := 5) X.1 X.2.1 (by decide +kernel) (by decide) ?_
  refine g_newa (N := 5) X arI hA hP hD hS (by decide) (by decide) (Nat.le_of_ble_eq_true rfl) (Nat.le_of_ble_eq_true rfl) (Nat.le_of_ble_eq_true rfl) (by decide +kernel) (fun q25 H hP hD hS => ?_)
  refine W.widen (k := 25) (n := 1349) (Nat.le_of_ble_eq_true rfl) (Nat.le_of_ble_eq_true rfl) ?_
  obtain ⟨t25, ht25⟩ : ∃ t : va_W, t = t24 ++ [(q25, .inl (cA 0, 5, .inl (fun _ => 0)))] := ⟨_, rfl⟩
  have hP : va_P D vwCl ((h0, .inr (12, f25)) :: t25) H := by rw [ht25]; exact hP
  have hD : va_D A ((h0, .inr (12, f25)) :: t25) := by rw [ht25]; exact hD
  refine g_putF (k := 12) (j := 35) X hin rfl wsi_12 tyX12_ok nmX12 hP hD hS (by decide) fi_12_35 rfl rfl rfl rfl (by rw [n25]; decide) (by decide +kernel) (fun H locs hP hD hS => ?_)
  obtain ⟨f26, hf26⟩ : ∃ f : List Value, f = f25.set 35 (.ref q25) := ⟨_, rfl⟩
  have n26 : f26.length = 47 := by rw [hf26, List.length_set]; exact n25
  rw [← hf26] at hP hD
  refine lv_aload_n (k := 0) (i := 0) X.1 X.2.1 (by decide +kernel) rfl (lv_at hl 0 rfl) ?_
  refine lv_bipush (n := 30) (v := 30) X.1 X.2.1 (by decide +kernel) (by decide) ?_
  refine g_newa (N := 30) X arI hA hP hD hS (by decide) (by decide) (Nat.le_of_ble_eq_true rfl) (Nat.le_of_ble_eq_true rfl) (Nat.le_of_ble_eq_true rfl) (by decide +kernel) (fun q26 H hP hD hS => ?_)
  refine W.widen (k := 26) (n := 1379) (Nat.le_of_ble_eq_true rfl) (Nat.le_of_ble_eq_true rfl) ?_
  obtain ⟨t26, ht26⟩ : ∃ t : va_W, t = t25 ++ [(q26, .inl (cA 0, 30, .inl (fun _ => 0)))] := ⟨_, rfl⟩
  have hP : va_P D vwCl ((h0, .inr (12, f26)) :: t26) H := by rw [ht26]; exact hP
  have hD : va_D A ((h0, .inr (12, f26)) :: t26) := by rw [ht26]; exact hD
  refine g_putF (k := 12) (j := 36) X hin rfl wsi_12 tyX12_ok nmX12 hP hD hS (by decide) fi_12_36 rfl rfl rfl rfl (by rw [n26]; decide) (by decide +kernel) (fun H locs hP hD hS => ?_)
  obtain ⟨f27, hf27⟩ : ∃ f : List Value, f = f26.set 36 (.ref q26) := ⟨_, rfl⟩
  have n27 : f27.length = 47 := by rw [hf27, List.length_set]; exact n26
  rw [← hf27] at hP hD
  refine lv_aload_n (k := 0) (i := 0) X.1 X.2.1 (by decide +kernel) rfl (lv_at hl 0 rfl) ?_
  refine lv_iconst (n := 5) (v := 5) X.1 X.2.1 (by decide +kernel) (by decide) ?_
  refine g_newa (N := 5) X arI hA hP hD hS (by decide) (by decide) (Nat.le_of_ble_eq_true rfl) (Nat.le_of_ble_eq_true rfl) (Nat.le_of_ble_eq_true rfl) (by decide +kernel) (fun q27 H hP hD hS => ?_)
  refine W.widen (k := 27) (n := 1384) (Nat.le_of_ble_eq_true rfl) (Nat.le_of_ble_eq_true rfl) ?_
  obtain ⟨t27, ht27⟩ : ∃ t : va_W, t = t26 ++ [(q27, .inl (cA 0, 5, .inl (fun _ => 0)))] := ⟨_, rfl⟩
  have hP : va_P D vwCl ((h0, .inr (12, f27)) :: t27) H := by rw [ht27]; exact hP
  have hD : va_D A ((h0, .inr (12, f27)) :: t27) := by rw [ht27]; exact hD
  refine g_putF (k := 12) (j := 37) X hin rfl wsi_12 tyX12_ok nmX12 hP hD hS (by decide) fi_12_37 rfl rfl rfl rfl (by rw [n27]; decide) (by decide +kernel) (fun H locs hP hD hS => ?_)
  obtain ⟨f28, hf28⟩ : ∃ f : List Value, f = f27.set 37 (.ref q27) := ⟨_, rfl⟩
  have n28 : f28.length = 47 := by rw [hf28, List.length_set]; exact n27
  rw [← hf28] at hP hD
  refine lv_aload_n (k := 0) (i := 0) X.1 X.2.1 (by decide +kernel) rfl (lv_at hl 0 rfl) ?_
  refine lv_iconst (n := 5) (v := 5) X.1 X.2.1 (by decide +kernel) (by decide) ?_
  refine g_newa (N := 5) X arI hA hP hD hS (by decide) (by decide) (Nat.le_of_ble_eq_true rfl) (Nat.le_of_ble_eq_true rfl) (Nat.le_of_ble_eq_true rfl) (by decide +kernel) (fun q28 H hP hD hS => ?_)
  refine W.widen (k := 28) (n := 1389) (Nat.le_of_ble_eq_true rfl) (Nat.le_of_ble_eq_true rfl) ?_
  obtain ⟨t28, ht28⟩ : ∃ t : va_W, t = t27 ++ [(q28, .inl (cA 0, 5, .inl (fun _ => 0)))] := ⟨_, rfl⟩
  have hP : va_P D vwCl ((h0, .inr (12, f28)) :: t28) H := by rw [ht28]; exact hP
  have hD : va_D A ((h0, .inr (12, f28)) :: t28) := by rw [ht28]; exact hD
  refine g_putF (k := 12) (j := 38) X hin rfl wsi_12 tyX12_ok nmX12 hP hD hS (by decide) fi_12_38 rfl rfl rfl rfl (by rw [n28]; decide) (by decide +kernel) (fun H locs hP hD hS => ?_)
  obtain ⟨f29, hf29⟩ : ∃ f : List Value, f = f28.set 38 (.ref q28) := ⟨_, rfl⟩
  have n29 : f29.length = 47 := by rw [hf29, List.length_set]; exact n28
  rw [← hf29] at hP hD
  refine lv_aload_n (k := 0) (i := 0) X.1 X.2.1 (by decide +kernel) rfl (lv_at hl 0 rfl) ?_
  refine lv_iconst (n := 5) (v := 5) X.1 X.2.1 (by decide +kernel) (by decide) ?_
  refine g_newa (N := 5) X arI hA hP hD hS (by decide) (by decide) (Nat.le_of_ble_eq_true rfl) (Nat.le_of_ble_eq_true rfl) (Nat.le_of_ble_eq_true rfl) (by decide +kernel) (fun q29 H hP hD hS => ?_)
  refine W.widen (k := 29) (n := 1394) (Nat.le_of_ble_eq_true rfl) (Nat.le_of_ble_eq_true rfl) ?_
  obtain ⟨t29, ht29⟩ : ∃ t : va_W, t = t28 ++ [(q29, .inl (cA 0, 5, .inl (fun _ => 0)))] := ⟨_, rfl⟩
  have hP : va_P D vwCl ((h0, .inr (12, f29)) :: t29) H := by rw [ht29]; exact hP
  have hD : va_D A ((h0, .inr (12, f29)) :: t29) := by rw [ht29]; exact hD
  refine g_putF (k := 12) (j := 39) X hin rfl wsi_12 tyX12_ok nmX12 hP hD hS (by decide) fi_12_39 rfl rfl rfl rfl (by rw [n29]; decide) (by decide +kernel) (fun H locs hP hD hS => ?_)
  obtain ⟨f30, hf30⟩ : ∃ f : List Value, f = f29.set 39 (.ref q29) := ⟨_, rfl⟩
  have n30 : f30.length = 47 := by rw [hf30, List.length_set]; exact n29
  rw [← hf30] at hP hD
  refine lv_aload_n (k := 0) (i := 0) X.1 X.2.1 (by decide +kernel) rfl (lv_at hl 0 rfl) ?_
  refine lv_iconst (n := 5) (v := 5) X.1 X.2.1 (by decide +kernel) (by decide) ?_
  refine g_newa (N := 5) X arI hA hP hD hS (by decide) (by decide) (Nat.le_of_ble_eq_true rfl) (Nat.le_of_ble_eq_true rfl) (Nat.le_of_ble_eq_true rfl) (by decide +kernel) (fun q30 H hP hD hS => ?_)
  refine W.widen (k := 30) (n := 1399) (Nat.le_of_ble_eq_true rfl) (Nat.le_of_ble_eq_true rfl) ?_
  obtain ⟨t30, ht30⟩ : ∃ t : va_W, t = t29 ++ [(q30, .inl (cA 0, 5, .inl (fun _ => 0)))] := ⟨_, rfl⟩
  have hP : va_P D vwCl ((h0, .inr (12, f30)) :: t30) H := by rw [ht30]; exact hP
  have hD : va_D A ((h0, .inr (12, f30)) :: t30) := by rw [ht30]; exact hD
  refine g_putF (k := 12) (j := 40) X hin rfl wsi_12 tyX12_ok nmX12 hP hD hS (by decide) fi_12_40 rfl rfl rfl rfl (by rw [n30]; decide) (by decide +kernel) (fun H locs hP hD hS => ?_)
  obtain ⟨f31, hf31⟩ : ∃ f : List Value, f = f30.set 40 (.ref q30) := ⟨_, rfl⟩
  have n31 : f31.length = 47 := by rw [hf31, List.length_set]; exact n30
  rw [← hf31] at hP hD
  refine lv_aload_n (k := 0) (i := 0) X.1 X.2.1 (by decide +kernel) rfl (lv_at hl 0 rfl) ?_
  refine lv_sipush (n := 136) (v := 136) X.1 X.2.1 (by decide +kernel) (by decide) ?_
  refine g_newa (N := 136) X arI hA hP hD hS (by decide) (by decide) (Nat.le_of_ble_eq_true rfl) (Nat.le_of_ble_eq_true rfl) (Nat.le_of_ble_eq_true rfl) (by decide +kernel) (fun q31 H hP hD hS => ?_)
  refine W.widen (k := 31) (n := 1535) (Nat.le_of_ble_eq_true rfl) (Nat.le_of_ble_eq_true rfl) ?_
  obtain ⟨t31, ht31⟩ : ∃ t : va_W, t = t30 ++ [(q31, .inl (cA 0, 136, .inl (fun _ => 0)))] := ⟨_, rfl⟩
  have hP : va_P D vwCl ((h0, .inr (12, f31)) :: t31) H := by rw [ht31]; exact hP
  have hD : va_D A ((h0, .inr (12, f31)) :: t31) := by rw [ht31]; exact hD
  refine g_putF (k := 12) (j := 41) X hin rfl wsi_12 tyX12_ok nmX12 hP hD hS (by decide) fi_12_41 rfl rfl rfl rfl (by rw [n31]; decide) (by decide +kernel) (fun H locs hP hD hS => ?_)
  obtain ⟨f32, hf32⟩ : ∃ f : List Value, f = f31.set 41 (.ref q31) := ⟨_, rfl⟩
  have n32 : f32.length = 47 := by rw [hf32, List.length_set]; exact n31
  rw [← hf32] at hP hD
  refine lv_aload_n (k := 0) (i := 0) X.1 X.2.1 (by decide +kernel) rfl (lv_at hl 0 rfl) ?_
  refine lv_sipush (n := 200) (v := 200) X.1 X.2.1 (by decide +kernel) (by decide) ?_
  refine g_newa (N := 200) X arI hA hP hD hS (by decide) (by decide) (Nat.le_of_ble_eq_true rfl) (Nat.le_of_ble_eq_true rfl) (Nat.le_of_ble_eq_true rfl) (by decide +kernel) (fun q32 H hP hD hS => ?_)
  refine W.widen (k := 32) (n := 1735) (Nat.le_of_ble_eq_true rfl) (Nat.le_of_ble_eq_true rfl) ?_
  obtain ⟨t32, ht32⟩ : ∃ t : va_W, t = t31 ++ [(q32, .inl (cA 0, 200, .inl (fun _ => 0)))] := ⟨_, rfl⟩
  have hP : va_P D vwCl ((h0, .inr (12, f32)) :: t32) H := by rw [ht32]; exact hP
  have hD : va_D A ((h0, .inr (12, f32)) :: t32) := by rw [ht32]; exact hD
  refine g_putF (k := 12) (j := 43) X hin rfl wsi_12 tyX12_ok nmX12 hP hD hS (by decide) fi_12_43 rfl rfl rfl rfl (by rw [n32]; decide) (by decide +kernel) (fun H locs hP hD hS => ?_)
  obtain ⟨f33, hf33⟩ : ∃ f : List Value, f = f32.set 43 (.ref q32) := ⟨_, rfl⟩
  have n33 : f33.length = 47 := by rw [hf33, List.length_set]; exact n32
  rw [← hf33] at hP hD
  refine lv_aload_n (k := 0) (i := 0) X.1 X.2.1 (by decide +kernel) rfl (lv_at hl 0 rfl) ?_
  refine lv_sipush (n := 27200) (v := 27200) X.1 X.2.1 (by decide +kernel) (by decide) ?_
  refine g_newa (N := 27200) X arI hA hP hD hS (by decide) (by decide) (Nat.le_of_ble_eq_true rfl) (Nat.le_of_ble_eq_true rfl) (Nat.le_of_ble_eq_true rfl) (by decide +kernel) (fun q33 H hP hD hS => ?_)
  refine W.widen (k := 33) (n := 28935) (Nat.le_of_ble_eq_true rfl) (Nat.le_of_ble_eq_true rfl) ?_
  obtain ⟨t33, ht33⟩ : ∃ t : va_W, t = t32 ++ [(q33, .inl (cA 0, 27200, .inl (fun _ => 0)))] := ⟨_, rfl⟩
  have hP : va_P D vwCl ((h0, .inr (12, f33)) :: t33) H := by rw [ht33]; exact hP
  have hD : va_D A ((h0, .inr (12, f33)) :: t33) := by rw [ht33]; exact hD
  refine g_putF (k := 12) (j := 44) X hin rfl wsi_12 tyX12_ok nmX12 hP hD hS (by decide) fi_12_44 rfl rfl rfl rfl (by rw [n33]; decide) (by decide +kernel) (fun H locs hP hD hS => ?_)
  obtain ⟨f34, hf34⟩ : ∃ f : List Value, f = f33.set 44 (.ref q33) := ⟨_, rfl⟩
  have n34 : f34.length = 47 := by rw [hf34, List.length_set]; exact n33
  rw [← hf34] at hP hD
  refine lv_aload_n (k := 0) (i := 0) X.1 X.2.1 (by decide +kernel) rfl (lv_at hl 0 rfl) ?_
  refine lv_sipush (n := 1200) (v := 1200) X.1 X.2.1 (by decide +kernel) (by decide) ?_
  refine g_newa (N := 1200) X arI hA hP hD hS (by decide) (by decide) (Nat.le_of_ble_eq_true rfl) (Nat.le_of_ble_eq_true rfl) (Nat.le_of_ble_eq_true rfl) (by decide +kernel) (fun q34 H hP hD hS => ?_)
  refine W.widen (k := 34) (n := 30135) (Nat.le_of_ble_eq_true rfl) (Nat.le_of_ble_eq_true rfl) ?_
  obtain ⟨t34, ht34⟩ : ∃ t : va_W, t = t33 ++ [(q34, .inl (cA 0, 1200, .inl (fun _ => 0)))] := ⟨_, rfl⟩
  have hP : va_P D vwCl ((h0, .inr (12, f34)) :: t34) H := by rw [ht34]; exact hP
  have hD : va_D A ((h0, .inr (12, f34)) :: t34) := by rw [ht34]; exact hD
  refine g_putF (k := 12) (j := 45) X hin rfl wsi_12 tyX12_ok nmX12 hP hD hS (by decide) fi_12_45 rfl rfl rfl rfl (by rw [n34]; decide) (by decide +kernel) (fun H locs hP hD hS => ?_)
  obtain ⟨f35, hf35⟩ : ∃ f : List Value, f = f34.set 45 (.ref q34) := ⟨_, rfl⟩
  have n35 : f35.length = 47 := by rw [hf35, List.length_set]; exact n34
  rw [← hf35] at hP hD
  obtain ⟨WB, hWB⟩ : ∃ w : va_W, w = [(q11, .inl (cA 0, 136, .inl (fun _ => 0))), (q12, .inl (cA 0, 4, .inl (fun j => S0 784 0 j))), (q13, .inl (cA 0, 6, .inl (fun _ => 0))), (q14, .inl (cA 0, 40, .inl (fun _ => 0))), (q15, .inl (cA 0, 40, .inl (fun _ => 0))), (q16, .inl (cA 0, 40, .inl (fun _ => 0))), (q17, .inl (cA 0, 40, .inl (fun _ => 0))), (q18, .inl (cA 0, 5, .inl (fun _ => 0))), (q19, .inl (cA 0, 30, .inl (fun _ => 0))), (q20, .inl (cA 0, 30, .inl (fun _ => 0))), (q21, .inl (cA 0, 30, .inl (fun _ => 0))), (q22, .inl (cA 0, 30, .inl (fun _ => 0))), (q23, .inl (cA 0, 30, .inl (fun _ => 0))), (q24, .inl (cA 0, 12, .inl (fun _ => 0))), (q25, .inl (cA 0, 5, .inl (fun _ => 0))), (q26, .inl (cA 0, 30, .inl (fun _ => 0))), (q27, .inl (cA 0, 5, .inl (fun _ => 0))), (q28, .inl (cA 0, 5, .inl (fun _ => 0))), (q29, .inl (cA 0, 5, .inl (fun _ => 0))), (q30, .inl (cA 0, 5, .inl (fun _ => 0))), (q31, .inl (cA 0, 136, .inl (fun _ => 0))), (q32, .inl (cA 0, 200, .inl (fun _ => 0))), (q33, .inl (cA 0, 27200, .inl (fun _ => 0))), (q34, .inl (cA 0, 1200, .inl (fun _ => 0)))] := ⟨_, rfl⟩
  have eW : t34 = t9 ++ (q10, Sum.inl (cA 0, 10, Sum.inl (fun _ => 0))) :: WB := by
    rw [hWB, ht34, ht33, ht32, ht31, ht30, ht29, ht28, ht27, ht26, ht25, ht24, ht23, ht22, ht21, ht20, ht19, ht18, ht17, ht16, ht15, ht14, ht13, ht12, ht11, ht10]
    simp only [List.append_assoc, List.cons_append, List.nil_append]
  have xF := fsM hf0 hf1 hf2 hf3 hf4 hf5 hf6 hf7 hf8 hf9 hf10 hf11 hf12 hf13 hf14 hf15 hf16 hf17 hf18 hf19 hf20 hf21 hf22 hf23 hf24 hf25 hf26 hf27 hf28 hf29 hf30 hf31 hf32 hf33 hf34 hf35
  have hg : f35[14]? = some (.ref q10) := by
    rw [xF]
    rfl
  have loop : ∀ (r i : Nat), i + r = 10 → ∀ (H : Heap) (locs : List Loc) (ls : Array Slot), lv_has ls 2 [(1, .int (iI (i : Int))), (0, .ref h0)] → va_P D vwCl (((h0, .inr (12, f35)) :: t9) ++ (q10, .inl (cA 0, 10, .inl (fun j => if j < i then iI (90 - 10 * (j : Int)) else 0))) :: WB) H → va_D A (((h0, .inr (12, f35)) :: t9) ++ (q10, .inl (cA 0, 10, .inl (fun j => if j < i then iI (90 - 10 * (j : Int)) else 0))) :: WB) → va_S A s.heap H locs → W p l e (rmC 1 34 30135) s m args below meth c H locs 34 30135 Q (F0 m 296 ls []) := by
    intro r
    induction r with
    | zero =>
      intro i hi H locs ls hl hP hD hS
      have hi : i = 10 := by omega
      subst hi
      refine lv_iload_n (k := 1) (i := 1) X.1 X.2.1 (by decide +kernel) rfl (lv_at hl 0 rfl) ?_
      refine lv_bipush (n := 10) (v := iI 10) X.1 X.2.1 (by decide +kernel) (by decide) ?_
      refine lv_icmp_ge (off := 22) (tgt := 321) X.1 X.2.1 (by decide +kernel) (by decide) (fun h => ?_) (fun h => ?_)
      · rw [s0_782] at hP hD
        refine kr _ _ _ _ _ (by decide +kernel) ⟨fun k _ => if k = 12 then h0 else if k = 1768 then q1 else if k = 1769 then q2 else if k = 1770 then q3 else if k = 1771 then q4 else if k = 1772 then q5 else if k = 1777 then q6 else if k = 1778 then q7 else if k = 1779 then q8 else if k = 1780 then q9 else if k = 1782 then q10 else if k = 1783 then q11 else if k = 1784 then q12 else if k = 1787 then q13 else if k = 1789 then q14 else if k = 1790 then q15 else if k = 1791 then q16 else if k = 1792 then q17 else if k = 1796 then q18 else if k = 1797 then q19 else if k = 1798 then q20 else if k = 1799 then q21 else if k = 1800 then q22 else if k = 1801 then q23 else if k = 1802 then q24 else if k = 1803 then q25 else if k = 1804 then q26 else if k = 1805 then q27 else if k = 1806 then q28 else if k = 1807 then q29 else if k = 1808 then q30 else if k = 1809 then q31 else if k = 1811 then q32 else if k = 1812 then q33 else q34, rfl, ?_⟩ hP hD hS
        rw [hWB, ht9, ht8, ht7, ht6, ht5, ht4, ht3, ht2, ht1, ht0, xF]
        simp only [List.append_assoc, List.cons_append, List.nil_append]
        rfl
      · exact absurd ((iI_le (by omega) (by omega)).mpr (by omega)) h
    | succ r ih =>
      intro i hi H locs ls hl hP hD hS
      refine lv_iload_n (k := 1) (i := 1) X.1 X.2.1 (by decide +kernel) rfl (lv_at hl 0 rfl) ?_
      refine lv_bipush (n := 10) (v := iI 10) X.1 X.2.1 (by decide +kernel) (by decide) ?_
      refine lv_icmp_ge (off := 22) (tgt := 321) X.1 X.2.1 (by decide +kernel) (by decide) (fun h => ?_) (fun h => ?_)
      · have h := (iI_le (by omega) (by omega)).mp h
        omega
      refine lv_aload_n (k := 0) (i := 0) X.1 X.2.1 (by decide +kernel) rfl (lv_at hl 1 rfl) ?_
      refine g_getF (k := 12) (j := 14) (ws := t9 ++ (q10, .inl (cA 0, 10, .inl (fun j => if j < i then iI (90 - 10 * (j : Int)) else 0))) :: WB) X rfl wsi_12 hP (by decide) fi_12_14 hg (by decide +kernel) ?_
      refine lv_iload_n (k := 1) (i := 1) X.1 X.2.1 (by decide +kernel) rfl (lv_at hl 0 rfl) ?_
      refine lv_bipush (n := 90) (v := iI 90) X.1 X.2.1 (by decide +kernel) (by decide) ?_
      refine lv_bipush (n := 10) (v := iI 10) X.1 X.2.1 (by decide +kernel) (by decide) ?_
      refine lv_iload_n (k := 1) (i := 1) X.1 X.2.1 (by decide +kernel) rfl (lv_at hl 0 rfl) ?_
      refine lv_imul X.1 X.2.1 (by decide +kernel) ?_
      refine lv_isub X.1 X.2.1 (by decide +kernel) ?_
      have hcl2 : (iI (i : Int)).toNatClampNeg = i := by rw [iI_cl (by omega)]; omega
      refine g_astM (k := 0) X hP hD hS rfl (by
        refine fun q => ?_
        rcases q with q | q
        · rw [li_0, iI_lt (by omega) (by omega)] at q
          omega
        · rw [hcl2] at q
          omega) (by decide +kernel) (fun H locs hP hD hS => ?_)
      have eu : upd (fun j => if j < i then iI (90 - 10 * (j : Int)) else 0) (iI (i : Int)).toNatClampNeg (iI 90 - iI 10 * iI (i : Int)) = (fun j => if j < i + 1 then iI (90 - 10 * (j : Int)) else 0) := by
        funext j
        rw [hcl2, iI_mul, iI_sub]
        unfold upd
        by_cases h1 : j = i
        · subst h1
          rw [if_pos rfl, if_pos (Nat.lt_succ_self _)]
        · by_cases h2 : j < i
          · rw [if_neg h1, if_pos (by omega)]
            exact if_pos h2
          · rw [if_neg h1, if_neg (by omega)]
            exact if_neg h2
      rw [eu] at hP hD
      refine lv_iinc (i := 1) (n := 1) (k := 0) (v := iI ((i + 1 : Nat) : Int)) (lv' := [(1, .int (iI ((i + 1 : Nat) : Int))), (0, .ref h0)]) X.1 X.2.1 (by decide +kernel) hl rfl (by
        have : Int32.ofInt 1 = iI 1 := by decide
        rw [this, iI_add]
        rfl) (by decide) rfl (fun ls hl => ?_)
      refine lv_goto (off := (-22)) (tgt := 296) X.1 X.2.1 (by decide +kernel) (by decide) ?_
      exact ih (i + 1) (by omega) H locs ls hl hP hD hS
  refine lv_iconst (n := 0) (v := iI ((0 : Nat) : Int)) X.1 X.2.1 (by decide +kernel) (by decide) ?_
  refine lv_istore_n (k := 1) (i := 1) (lv' := [(1, .int (iI ((0 : Nat) : Int))), (0, .ref h0)]) X.1 X.2.1 (by decide +kernel) rfl hl (by decide) rfl (fun ls hl => ?_)
  have e0 : (fun _ : Nat => (0 : Int32)) = (fun j : Nat => if j < 0 then iI (90 - 10 * (j : Int)) else 0) := by
    funext j
    rw [if_neg (by omega)]
  rw [eW, e0] at hP hD
  exact loop 10 0 rfl H locs ls hl hP hD hS
