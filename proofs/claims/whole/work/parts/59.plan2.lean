section PM
variable {X0 M0 : St} {cnt c P m : Nat} {W V N Am : Nat → Int} {a b Fm pl : Int} {A B Pp : Nat → Int} {Z : Nat → Int → Int}
/-- one choice at depth d, in both: it can't be (for every way through it), or it leads on -/
theorem one_c {S X M : St} {d p i : Nat} (hc : c < 5) (hI : PlI X0 M0 c P m W V N Am) (hD : CvDs X M cnt pl A B Pp Z) (hcc : c < cnt) (ea : A c = a ∧ B c = b) (hXM : ∀ f, (777 ≤ f ∧ f ≤ 779) ∨ f = 781 ∨ f = 784 → M0 f 0 = M f 0) (hXM2 : ∀ (c' : Nat) (k : Int), c' < 5 → c' ≠ c → 0 ≤ k → k < 30 → rw_ M0 c' k = rw_ M c' k) (hL : ∀ j : Int, 0 ≤ j ∧ j < 30 → LmP X0 cnt c pl A B Pp Z j) (hB : BLR X0 M0) (m1 : M0 778 0 c = iI a) (m2 : M0 779 0 c = iI b) (hF : Fm ≤ 100000000) (hd : d < m) (hi : i < P) (hp : p < P ^ d) (hS : PgX X0 S) (hR : RpI M0 c P m a b Fm S d p) (hT0 : Ag M0 c M0) : ∃ S3, (∀ f j, ¬ (j = 7 + d ∧ 512 ≤ f ∧ f ≤ 521) → S3 f j = S f j) ∧ ((lfF d (iI d) (iI m) (7 + d) (iI i) S = lfF d (iI d) (iI m) (7 + d) (iI ((i + 1 : Nat) : Int)) S3 ∧ ∀ w : Nat, w < P ^ m → w / P ^ (m - (d + 1)) = p * P + i → ∀ T, Ag M0 c T → ∃ T', f_m_offBy (iI c) (iI m) (iI w) T = some (iI (-1), T') ∧ AgF M0 c T') ∨ (lfF d (iI d) (iI m) (7 + d) (iI i) S = ((sfF (d + 1) (iI ((d + 1 : Nat) : Int)) (iI m) (st_wr S3 326 0 d (iI i))).bind fun S7 => lfF d (iI d) (iI m) (7 + d) (iI ((i + 1 : Nat) : Int)) S7) ∧ RpI M0 c P m a b Fm S3 (d + 1) (p * P + i))) := by
  obtain ⟨i1, i2, i3, i4, i5, i6, i7⟩ := id hI
  obtain ⟨w1, w2, v1, v2, n1, n2, wb, vb, nb⟩ := i5 i hi
  have hpw := pw_b i1 i2.2
  have hPd : 0 < P := by omega
  -- the digit that every such way has here
  have dig : ∀ w : Nat, w / P ^ (m - (d + 1)) = p * P + i → w / P ^ (m - d) = p ∧ w / P ^ (m - 1 - d) % P = i := fun w hw => by
    refine ⟨?_, ?_⟩
    · rw [show m - d = (m - (d + 1)) + 1 by omega, Nat.pow_succ, ← Nat.div_div_eq_div_mul, hw, Nat.mul_comm p P, Nat.mul_add_div hPd, Nat.div_eq_of_lt hi, Nat.add_zero]
    · rw [show m - 1 - d = m - (d + 1) by omega, hw, Nat.mul_comm p P, Nat.mul_add_mod, Nat.mod_eq_of_lt hi]
  have xS : ∀ f, f = 321 ∨ f = 322 ∨ f = 323 ∨ f = 324 → S f 0 = X0 f 0 := fun f hf => hS f 0 (by omega)
  have x324 : S 324 0 0 = iI P := by rw [xS 324 (by omega), i3]
  have xW : S 321 0 i = iI (W i) := by rw [xS 321 (by omega), w1]
  have xV : S 322 0 i = iI (V i) := by rw [xS 322 (by omega), v1]
  have xN : S 323 0 i = iI (N i) := by rw [xS 323 (by omega), n1]
  have fr1 := shCp_fr (S := S) (i := 7 + d) (j := 6 + d)
  have ei7 : d + 6 = 6 + d := by omega
  -- some way through p gives the class's view of the shape
  have hw0 : p * P ^ (m - d) < P ^ m := by
    have : P ^ d * P ^ (m - d) = P ^ m := by rw [← Nat.pow_add]; congr 1; omega
    rw [← this]
    exact Nat.mul_lt_mul_of_pos_right hp (Nat.pow_pos hPd)
  obtain ⟨T0, -, -, u, F, ww, vv, ss, z, k0⟩ := hR M0 hT0 (p * P ^ (m - d)) hw0 (Nat.mul_div_cancel p (Nat.pow_pos hPd))
  have hab := k0.1
  have k1 : SPk (shCp S (7 + d) (6 + d)) (7 + d) (rw_ T0 c) (Fm + 3000 * d) a b u F ww vv ss z := spk_shCp k0
  obtain ⟨⟨h1, h2, h3, h4⟩, h5, h6, h7, h8, h9, h10, h11, h12, h13, h14, h15, h16, h17, h18, h19, h20, h21, h22, h23⟩ := id k1
  have eo : ∀ l : Int, -2147483648 ≤ l ∧ l < 2147483648 → f_Sh_isOpen (7 + d) (iI l) (shCp S (7 + d) (6 + d)) = some (bI (a ≤ l ∧ l ≤ b ∧ l < u), shCp S (7 + d) (6 + d)) := fun l hl => Sh_isOpen hl (by omega) (by omega) (by omega) h5 h6 h7
  have y321 : shCp S (7 + d) (6 + d) 321 0 i = iI (W i) := by rw [fr1 321 0 (by unfold cpX; omega), xW]
  have y322 : shCp S (7 + d) (6 + d) 322 0 i = iI (V i) := by rw [fr1 322 0 (by unfold cpX; omega), xV]
  have y323 : shCp S (7 + d) (6 + d) 323 0 i = iI (N i) := by rw [fr1 323 0 (by unfold cpX; omega), xN]
  have frC : ∀ f j, ¬ (j = 7 + d ∧ 512 ≤ f ∧ f ≤ 521) → shCp S (7 + d) (6 + d) f j = S f j := fun f j q => fr1 f j (by unfold cpX; omega)
  have hlf : lfF d (iI d) (iI m) (7 + d) (iI i) S = ((f_Sh_isOpen (7 + d) (iI (W i)) (shCp S (7 + d) (6 + d))).bind fun q2 => (bif decide (q2.1 = 0) then lfF d (iI d) (iI m) (7 + d) (iI i + 1) q2.2 else (bif inb (iI i) 5 then ((f_Sh_isOpen (7 + d) (q2.2 322 0 (iI i).toNatClampNeg) q2.2).bind fun q3 => (bif !decide (q3.1 = 0) then (bif inb (iI i) 5 then (bif inb (iI i) 5 then ((f_Sh_hang (7 + d) (q3.2 321 0 (iI i).toNatClampNeg) (q3.2 322 0 (iI i).toNatClampNeg) (q3.2 521 (7 + d) 0) q3.2).bind fun S4 => (bif inb (iI i) 5 then ((f_Sh_wash (7 + d) (S4 323 0 (iI i).toNatClampNeg) S4).bind fun q5 => ((f_Sh_isWithin (7 + d) q5.2).bind fun q6 => (bif decide (q6.1 = 0) then lfF d (iI d) (iI m) (7 + d) (iI i + 1) q6.2 else (bif inb (iI d) 5 then ((sfF (d + 1) (iI d + 1) (iI m) (st_wr q6.2 326 0 (iI d).toNatClampNeg (iI i))).bind fun S7 => lfF d (iI d) (iI m) (7 + d) (iI i + 1) S7) else none)))) else none)) else none) else none) else lfF d (iI d) (iI m) (7 + d) (iI i + 1) q3.2)) else none))) := by
    have ci : (iI (i : Int)).toNatClampNeg = i := by rw [iI_cl (by omega)]; omega
    have cd : (iI (d : Int)).toNatClampNeg = d := by rw [iI_cl (by omega)]; omega
    rw [ulf (by omega), x324, bif_d, if_neg (fun q => absurd ((iI_le (by omega) (by omega)).mp q) (by omega)), bif_d, li_5, if_neg (fun q => absurd ((iI_le (a := 5) (by omega) (by omega)).mp q) (by omega)), inb_t (by omega) (by omega), cond_true, inb_t (by omega) (by omega)]
    simp only [cond_true]
    rw [cd, ei7, Sh_copy, Option.bind_some, ci, y321]
  -- the reference at this place
  have hoff : ∀ w : Nat, w < P ^ m → w / P ^ (m - (d + 1)) = p * P + i → ∀ T, Ag M0 c T → ∃ T1, AgF M0 c T1 ∧ (∃ F ww vv s z, SPk (shCp S (7 + d) (6 + d)) (7 + d) (rw_ T1 c) (Fm + 3000 * d) a b u F ww vv s z) ∧ f_m_offBy (iI c) (iI m) (iI w) T = ((f_m_isFree (iI c) (iI (W i)) T1).bind fun q2 => (bif decide (q2.1 = 0) then some (iI (-1), q2.2) else ((f_m_isFree (iI c) (iI (V i)) q2.2).bind fun q3 => (bif decide (q3.1 = 0) then some (iI (-1), q3.2) else ((f_m_set (iI c) (iI 121) (iI (W i)) q3.2).bind fun S4 => ((f_m_set (iI c) (iI 122) (iI (V i)) S4).bind fun S5 => ((f_m_washes (iI c) (iI (N i)) S5).bind fun q6 => ((f_m_isThin (iI c) q6.2).bind fun q7 => (bif decide (q7.1 = 0) then l_m_offBy_3 (iI c) (iI m) (iI w) (iI ((d + 1 : Nat) : Int)) q7.2 else some (iI (-1), q7.2)))))))))) ∧ l_m_offBy_3 (iI c) (iI m) (iI w) (iI 0) T = f_m_offBy (iI c) (iI m) (iI w) T := fun w hwP hw T hT => by
    obtain ⟨dg1, dg2⟩ := dig w hw
    obtain ⟨T1, q1, q2, u', F', ww', vv', s', z', k'⟩ := hR T hT w hwP dg1
    have eu : u' - 1 = u - 1 := (iI_eq (by have := k'.1; omega) (by omega)).mp (k'.2.2.2.1.symm.trans k0.2.2.2.1)
    have eu : u = u' := by omega
    subst eu
    have e810 : T1 810 0 0 = iI P := by rw [q2.1 810 0 (by omega), i4]
    have eW : T1 805 0 i = iI (W i) := by rw [q2.1 805 0 (by omega), w2]
    have eV : T1 806 0 i = iI (V i) := by rw [q2.1 806 0 (by omega), v2]
    have eN : T1 807 0 i = iI (N i) := by rw [q2.1 807 0 (by omega), n2]
    have f0 : f_m_offBy (iI c) (iI m) (iI w) T = l_m_offBy_3 (iI c) (iI m) (iI w) (iI 0) T := by rw [uf_m_offBy]; simp (maxSteps := 2000000) (disch := omega) only [Int.toNat_natCast, bif_d, bif_n, cond_true, cond_false, Option.bind_some, Option.bind_none, Option.elim_some, Option.elim_none, iI_add, iI_sub, iI_mul, iI_neg, iI_lt, iI_le, iI_eq, inb_t, iI_cl, bI_0, bI_1, zn_b, zn_i0, zn_i1, if_pos, if_neg, if_true, if_false, reduceIte, not_true_eq_false, not_false_eq_true, and_true, true_and, and_self, li_0, li_1, li_2, li_3, li_4, li_5, li_6, li_7, li_8, li_9, li_10, li_11, li_12, li_13, li_14, li_15, li_16, li_17, li_18, li_19, li_20, li_21, li_22, li_23, li_24, li_25, li_26, li_27, li_28, li_29, li_30, li_31, li_32, li_33, li_34, li_35, li_36, li_37, li_38, li_39, li_40, li_41, li_42, li_43, li_44, li_45, li_46, li_47, li_48, li_49, li_50, li_51, li_52, li_53, li_54, li_55, li_56, li_57, li_58, li_59, li_60, li_61, li_62, li_63, li_64, li_90, li_99, li_100, li_104, li_115, li_120, li_121, li_122, li_123, li_124, li_125, li_126, li_127, li_128, li_129, li_130, li_131, li_132, li_133, li_134, li_135, li_136, li_199, li_200, li_255, li_256, li_512, li_680, li_999, li_1000, li_1194, li_1199, li_1200, li_9999, li_10000, li_27064, li_27200, li_99999, li_1000000000, li_2000000000, iL_of, lL_0, lL_1, lL_3, lL_5, lL_8, lL_9, lL_11, lL_17, lL_29, lL_60, lL_99, lL_999, lL_9999, lL_99999, m_isInL, m_outL, x_out, x_ref, m_no, oI_l, oI_g, oI_i, wr_s, wr_f, wr_j, wr_i, rs_f, rw_rs]
    refine ⟨T1, q2, ⟨F', ww', vv', s', z', spk_shCp k'⟩, ?_, f0.symm⟩
    rw [f0, q1]
    have hpd : P ^ (m - 1 - d) ≤ 3125 := pw_b i1 (by omega)
    have hpd0 : 0 < P ^ (m - 1 - d) := Nat.pow_pos hPd
    have epw : f_m_power (iI P) (iI ((m : Int) - 1 - d)) T1 = some (iI ((P ^ (m - 1 - d) : Nat) : Int), T1) := by
      rw [show (m : Int) - 1 - d = ((m - 1 - d : Nat) : Int) by omega]
      exact m_pow i1 (by omega)
    have eix : iI (w : Int) / iI ((P ^ (m - 1 - d) : Nat) : Int) - iI (w : Int) / iI ((P ^ (m - 1 - d) : Nat) : Int) / iI P * iI P = iI i := by
      rw [iN_div (by omega) (by omega), iN_mod (by have := Nat.div_le_self w (P ^ (m - 1 - d)); omega) (by omega), dg2]
    have ci : (iI (i : Int)).toNatClampNeg = i := by rw [iI_cl (by omega)]; omega
    have n0 : ¬ (iI ((P ^ (m - 1 - d) : Nat) : Int) = 0) := fun q => absurd ((iI_eq (by omega) (by omega)).mp (q.trans li_0)) (by omega)
    have n1' : ¬ (iI (P : Int) = 0) := fun q => absurd ((iI_eq (by omega) (by omega)).mp (q.trans li_0)) (by omega)
    have inbi : inb (iI (i : Int)) 5 = true := inb_t (by omega) (by omega)
    have fr4 : ∀ (T : St) (f j : Nat) (k : Int) (x : Int32), f ≠ 780 → rs_ T c k x f j = T f j := fun T f j k x hf => rs_f hf
    rw [ul_m_offBy_3, bif_d, if_neg (fun q => absurd ((iI_le (by omega) (by omega)).mp q) (by omega)), e810, li_1, iI_sub, iI_sub, epw, Option.bind_some]
    simp only [bif_n, if_neg n0, e810, if_neg n1', eix, inbi, cond_true, ci, eW, eV, li_121, li_122, iI_neg]
    rw [m_isFree (M := T1) (c := c) (l := W i) (a := a) (b := b) (u := u) (by omega) (by omega) (by omega) (by omega) (by omega) (by rw [q2.1 778 0 (by omega)]; exact m1) (by rw [q2.1 779 0 (by omega)]; exact m2) k'.2.2.2.2.1, Option.bind_some, Option.bind_some]
    congr 1
    simp only [eV]
    rw [m_isFree (M := T1) (c := c) (l := V i) (a := a) (b := b) (u := u) (by omega) (by omega) (by omega) (by omega) (by omega) (by rw [q2.1 778 0 (by omega), Int.toNat_natCast, m1]) (by rw [q2.1 779 0 (by omega), Int.toNat_natCast, m2]) k'.2.2.2.2.1, Option.bind_some, Option.bind_some]
    simp only [eW, m_set (M := T1) (c := c) (k := 121) (v := iI (W i)) (by omega) (by omega), Option.bind_some, rs_f (M := T1) (c := c) (k := 121) (v := iI (W i)) (f := 806) (i := 0) (by omega), eV, m_set (M := rs_ T1 c 121 (iI (W i))) (c := c) (k := 122) (v := iI (V i)) (by omega) (by omega), rs_f (M := rs_ T1 c 121 (iI (W i))) (c := c) (k := 122) (v := iI (V i)) (f := 807) (i := 0) (by omega), rs_f (M := T1) (c := c) (k := 121) (v := iI (W i)) (f := 807) (i := 0) (by omega), eN, iI_add]
    by_cases g : a ≤ V i ∧ V i ≤ b ∧ V i < u
    · rw [bI_t g, if_neg (show ¬ (iI 1 = 0) by decide), bif_d, if_neg (show ¬ (iI 1 = 0) by decide)]
      rfl
    · rw [bI_f g, if_pos (show iI 0 = 0 by decide), bif_d, if_pos (show iI 0 = 0 by decide)]
  have e1 : iI (i : Int) + 1 = iI ((i + 1 : Nat) : Int) := by rw [li_1, iI_add]; rfl
  have e1d : iI (d : Int) + 1 = iI ((d + 1 : Nat) : Int) := by rw [li_1, iI_add]; rfl
  have hfree : ∀ T1, AgF M0 c T1 → (∃ F ww vv s z, SPk (shCp S (7 + d) (6 + d)) (7 + d) (rw_ T1 c) (Fm + 3000 * d) a b u F ww vv s z) → ∀ l : Int, -2147483648 ≤ l ∧ l < 2147483648 → f_m_isFree (iI c) (iI l) T1 = some (bI (a ≤ l ∧ l ≤ b ∧ l < u), T1) := fun T1 hA ⟨F, ww, vv, s, z, k⟩ l hl => m_isFree (by omega) hl (by omega) (by omega) (by omega) (by rw [hA.1 778 0 (by omega)]; exact m1) (by rw [hA.1 779 0 (by omega)]; exact m2) k.2.2.2.2.1
  by_cases gW : a ≤ W i ∧ W i ≤ b ∧ W i < u
  · by_cases gV : a ≤ V i ∧ V i ≤ b ∧ V i < u
    · -- washed
      have kH : ∀ T1, AgF M0 c T1 → (∃ F ww vv s z, SPk (shCp S (7 + d) (6 + d)) (7 + d) (rw_ T1 c) (Fm + 3000 * d) a b u F ww vv s z) → ∃ F s z, SPk (st_wr (st_wr (st_wr (shCp S (7 + d) (6 + d)) 519 (7 + d) 0 (iI (W i))) 520 (7 + d) 0 (iI (V i))) 521 (7 + d) 0 (shCp S (7 + d) (6 + d) 521 (7 + d) 0)) (7 + d) (rw_ (rs_ (rs_ T1 c 121 (iI (W i))) c 122 (iI (V i))) c) (Fm + 3000 * d) a b u F (W i) (V i) s z := fun T1 hA ⟨F, ww, vv, s, z, k⟩ => by
        obtain ⟨⟨h1, h2, h3, h4⟩, h5, h6, h7, h8, h9, h10, h11, h12, h13, h14, h15, h16, h17, h18, h19, h20, h21, h22, h23⟩ := k
        have nx : ∀ f, ¬ (519 ≤ f ∧ f ≤ 521) → (st_wr (st_wr (st_wr (shCp S (7 + d) (6 + d)) 519 (7 + d) 0 (iI (W i))) 520 (7 + d) 0 (iI (V i))) 521 (7 + d) 0 (shCp S (7 + d) (6 + d) 521 (7 + d) 0)) f (7 + d) = shCp S (7 + d) (6 + d) f (7 + d) := fun f q => by rw [wr_f (by omega), wr_f (by omega), wr_f (by omega)]
        have nr : ∀ k, 0 ≤ k ∧ k < 136 → k ≠ 121 → k ≠ 122 → rw_ (rs_ (rs_ T1 c 121 (iI (W i))) c 122 (iI (V i))) c k = rw_ T1 c k := fun k q1 q2 q3 => by rw [rs_n hc (by omega) q1 q3, rs_n hc (by omega) q1 q2]
        refine ⟨F, s, z, ⟨h1, h2, h3, h4⟩, ?_, ?_, ?_, ?_, h9, ?_, ?_, by omega, ?_, ?_, by omega, ?_, ?_, h18, ?_, ?_, ?_, ?_, fun l hl => ?_⟩
        · rw [nx 513 (by omega), h5]
        · rw [nx 514 (by omega), h6]
        · rw [nx 515 (by omega), h7]
        · rw [nr 135 (by omega) (by omega) (by omega), h8]
        · rw [nx 516 (by omega), h10]
        · rw [nr 120 (by omega) (by omega) (by omega), h11]
        · rw [wr_f (by omega), wr_f (by omega), wr_s]
        · rw [rs_n hc (by omega) (by omega) (by omega), rs_s hc (by omega)]
        · rw [wr_f (by omega), wr_s]
        · rw [rs_s hc (by omega)]
        · rw [wr_s, h19]
        · rw [nr 123 (by omega) (by omega) (by omega), h20]
        · rw [nx 517 (by omega), nr 125 (by omega) (by omega) (by omega), h21]
        · rw [nx 518 (by omega), nr 126 (by omega) (by omega) (by omega), h22]
        · rw [nx 512 (by omega), nr l (by omega) (by omega) (by omega)]; exact h23 l hl
      obtain ⟨Tq, hTq, kq, -, -⟩ := hoff ((p * P + i) * P ^ (m - (d + 1))) (by
        have e2 : P ^ (d + 1) * P ^ (m - (d + 1)) = P ^ m := by rw [← Nat.pow_add]; congr 1; omega
        rw [← e2]
        refine Nat.mul_lt_mul_of_pos_right ?_ (Nat.pow_pos hPd)
        rw [Nat.pow_succ]
        have : (p + 1) * P ≤ P ^ d * P := Nat.mul_le_mul_right P hp
        rw [Nat.add_mul, Nat.one_mul] at this
        omega) (Nat.mul_div_cancel _ (Nat.pow_pos hPd)) M0 hT0
      generalize hS2 : st_wr (st_wr (st_wr (shCp S (7 + d) (6 + d)) 519 (7 + d) 0 (iI (W i))) 520 (7 + d) 0 (iI (V i))) 521 (7 + d) 0 (shCp S (7 + d) (6 + d) 521 (7 + d) 0) = S2 at *
      have frS2 : ∀ f j, ¬ (j = 7 + d ∧ 512 ≤ f ∧ f ≤ 521) → S2 f j = S f j := fun f j q => by rw [← hS2, st_wr_ne (by omega), st_wr_ne (by omega), st_wr_ne (by omega), frC f j q]
      have hang : f_Sh_hang (7 + d) (iI (W i)) (iI (V i)) (shCp S (7 + d) (6 + d) 521 (7 + d) 0) (shCp S (7 + d) (6 + d)) = some S2 := by rw [uf_Sh_hang, hS2]
      have s323 : S2 323 0 i = iI (N i) := by rw [frS2 323 0 (by omega), xN]
      have bl : ∀ T1, AgF M0 c T1 → BLR S2 (rs_ (rs_ T1 c 121 (iI (W i))) c 122 (iI (V i))) := fun T1 hA => hB.fr (by rw [frS2 448 0 (by omega), hS 448 0 (by omega)]) (by rw [frS2 449 0 (by omega), hS 449 0 (by omega)]) (by rw [rs_f (by omega), rs_f (by omega), hA.1 770 0 (by omega)]) (by rw [rs_f (by omega), rs_f (by omega), hA.1 782 0 (by omega)])
      have wsh : ∀ T1, AgF M0 c T1 → (∃ F ww vv s z, SPk (shCp S (7 + d) (6 + d)) (7 + d) (rw_ T1 c) (Fm + 3000 * d) a b u F ww vv s z) → ∃ o X' M' u' F' w' v' s' z', f_Sh_wash (7 + d) (iI (N i)) S2 = some (iI o, X') ∧ f_m_washes (iI c) (iI (N i)) (rs_ (rs_ T1 c 121 (iI (W i))) c 122 (iI (V i))) = some (iI o, M') ∧ 0 ≤ o ∧ SPk X' (7 + d) (rw_ M' c) (Fm + 3000 * d + 3000) a b u' F' w' v' s' z' ∧ FxS shX (7 + d) S2 X' ∧ AgF M0 c M' := fun T1 hA hk => by
        obtain ⟨F2, s2, z2, k2⟩ := kH T1 hA hk
        obtain ⟨o, X', M', u', F', w', v', s', z', e1, e2, e3, e4, e5, e6, -⟩ := wash_b hc k2 (by omega) (by rw [rs_f (by omega), rs_f (by omega), hA.1 778 0 (by omega), m1]) (bl T1 hA) (n := N i) nb
        exact ⟨o, X', M', u', F', w', v', s', z', e1, e2, e3, e4, e5, (hA.fm (Q := fun _ => True) ((FmS.wr hc (by omega) trivial).tr (FmS.wr hc (by omega) trivial))).fm e6⟩
      obtain ⟨o, X', Mq, uq, Fq, wq, vq, sq, zq, g1, g2, g3, g4, g5, g6⟩ := wsh Tq hTq kq
      have frX' : ∀ f j, ¬ (j = 7 + d ∧ 512 ≤ f ∧ f ≤ 521) → X' f j = S f j := fun f j q => by rw [g5 f j (fun y => q ⟨y.1, by have := y.2; unfold shX at this; omega⟩), frS2 f j q]
      have hLX : ∀ j : Int, 0 ≤ j ∧ j < 30 → LmP X' cnt c pl A B Pp Z j := fun j hj => by
        obtain ⟨mm, r1, r2, r3⟩ := hL j hj
        exact ⟨mm, r1, by rw [frX' 719 0 (by omega), hS 719 0 (by omega), r2], r3⟩
      have wt : ∀ M', AgF M0 c M' → (∃ u F w v s z, SPk X' (7 + d) (rw_ M' c) (Fm + 3000 * d + 3000) a b u F w v s z) → ∃ q : Int, (0 ≤ q ∧ q ≤ 1) ∧ f_Sh_isWithin (7 + d) X' = some (iI q, X') ∧ f_m_isThin (iI c) M' = some (iI (1 - q), M') := fun M' hA ⟨u, F, w, v, s, z, k⟩ => wt_b hD hcc k ea hLX (fun f hf => by rw [hA.1 f 0 (by omega), hXM f hf]) (fun c' k h1 h2 h3 h4 => by rw [hA.2 c' k h1 h3 (by omega) h2, hXM2 c' k h1 h2 h3 h4])
      obtain ⟨q, t1, t2, t3⟩ := wt Mq g6 ⟨uq, Fq, wq, vq, sq, zq, g4⟩
      have ci : (iI (i : Int)).toNatClampNeg = i := by rw [iI_cl (by omega)]; omega
      have cd : (iI (d : Int)).toNatClampNeg = d := by rw [iI_cl (by omega)]; omega
      have nz : ¬ (iI 1 = (0 : Int32)) := by decide
      have hlf2 : lfF d (iI d) (iI m) (7 + d) (iI i) S = (bif decide (iI q = 0) then lfF d (iI d) (iI m) (7 + d) (iI i + 1) X' else ((sfF (d + 1) (iI d + 1) (iI m) (st_wr X' 326 0 d (iI i))).bind fun S7 => lfF d (iI d) (iI m) (7 + d) (iI i + 1) S7)) := by
        rw [hlf, eo (W i) (by omega), bI_t gW, Option.bind_some, bif_d, if_neg nz, inb_t (by omega) (by omega), cond_true, ci]
        simp only [y322]
        rw [eo (V i) (by omega), bI_t gV, Option.bind_some, bif_n, if_neg nz]
        simp only [cond_true, y321, y322]
        rw [hang, Option.bind_some]
        simp only [s323]
        rw [g1, Option.bind_some]
        simp only []
        rw [t2, Option.bind_some, inb_t (by omega) (by omega), cd]
        simp only [cond_true]
      -- the reference, the same way
      have moff : ∀ w : Nat, w < P ^ m → w / P ^ (m - (d + 1)) = p * P + i → ∀ T, Ag M0 c T → ∃ M', AgF M0 c M' ∧ (∃ u F w v s z, SPk X' (7 + d) (rw_ M' c) (Fm + 3000 * d + 3000) a b u F w v s z) ∧ f_m_offBy (iI c) (iI m) (iI w) T = (bif decide (iI (1 - q) = 0) then l_m_offBy_3 (iI c) (iI m) (iI w) (iI ((d + 1 : Nat) : Int)) M' else some (iI (-1), M')) ∧ l_m_offBy_3 (iI c) (iI m) (iI w) (iI 0) T = f_m_offBy (iI c) (iI m) (iI w) T := fun w hwP hw T hT => by
        obtain ⟨T1, a1, a2, a3, a4⟩ := hoff w hwP hw T hT
        obtain ⟨o', X2, M', u', F', w', v', s', z', e1, e2, e3, e4, e5, e6⟩ := wsh T1 a1 a2
        have ex : X2 = X' := congrArg Prod.snd (Option.some.inj (e1.symm.trans g1))
        subst ex
        obtain ⟨q', b1, b2, b3⟩ := wt M' e6 ⟨u', F', w', v', s', z', e4⟩
        have eq' : q' = q := (iI_eq (by omega) (by omega)).mp (congrArg Prod.fst (Option.some.inj (b2.symm.trans t2)))
        subst eq'
        refine ⟨M', e6, ⟨u', F', w', v', s', z', e4⟩, ?_, a4⟩
        rw [a3, hfree T1 a1 a2 (W i) (by omega), bI_t gW, Option.bind_some, bif_d, if_neg nz]
        simp only []
        rw [hfree T1 a1 a2 (V i) (by omega), bI_t gV, Option.bind_some, bif_d, if_neg nz]
        simp only []
        rw [m_set (M := T1) (by omega) (by omega), Option.bind_some, m_set (by omega) (by omega), Option.bind_some, e2, Option.bind_some]
        simp only []
        rw [b3, Option.bind_some]
      by_cases gq : q = 0
      · subst gq
        refine ⟨X', frX', Or.inl ⟨?_, fun w hwP hw T hT => ?_⟩⟩
        · rw [hlf2, bif_d, if_pos (show iI 0 = 0 by decide), e1]
        · obtain ⟨M', a1, a2, a3, -⟩ := moff w hwP hw T hT
          refine ⟨M', ?_, a1⟩
          rw [a3, show (1 : Int) - 0 = 1 by omega, bif_d, if_neg nz]
      · have gq1 : q = 1 := by omega
        subst gq1
        refine ⟨X', frX', Or.inr ⟨?_, fun T hT w hwP hw => ?_⟩⟩
        · rw [hlf2, bif_d, if_neg nz, e1, e1d]
        · obtain ⟨M', a1, ⟨u', F', w', v', s', z', a2⟩, a3, a4⟩ := moff w hwP hw T hT
          refine ⟨M', ?_, a1, u', F', w', v', s', z', ?_⟩
          · rw [a4, a3, show (1 : Int) - 1 = 0 by omega, bif_d, if_pos (show iI 0 = 0 by decide)]
          · rw [show 6 + (d + 1) = 7 + d by omega, show Fm + 3000 * ((d + 1 : Nat) : Int) = Fm + 3000 * (d : Int) + 3000 by omega]
            exact a2
    · refine ⟨shCp S (7 + d) (6 + d), frC, Or.inl ⟨?_, fun w hwP hw T hT => ?_⟩⟩
      · have ci : (iI (i : Int)).toNatClampNeg = i := by rw [iI_cl (by omega)]; omega
        rw [hlf, eo (W i) (by omega), bI_t gW, Option.bind_some, bif_d, if_neg (show ¬ (iI 1 = (0 : Int32)) by decide), inb_t (by omega) (by omega), cond_true, ci]
        simp only [y322]
        rw [eo (V i) (by omega), bI_f gV, Option.bind_some, bif_n, if_pos (show iI 0 = 0 by decide), e1]
      · obtain ⟨T1, a1, a2, a3, a4⟩ := hoff w hwP hw T hT
        refine ⟨T1, ?_, a1⟩
        rw [a3, hfree T1 a1 a2 (W i) (by omega), bI_t gW, Option.bind_some, bif_d, if_neg (show ¬ (iI 1 = (0 : Int32)) by decide)]
        simp only []
        rw [hfree T1 a1 a2 (V i) (by omega), bI_f gV, Option.bind_some, bif_d, if_pos (show iI 0 = 0 by decide)]
  · refine ⟨shCp S (7 + d) (6 + d), frC, Or.inl ⟨?_, fun w hwP hw T hT => ?_⟩⟩
    · rw [hlf, eo (W i) (by omega), bI_f gW, Option.bind_some, bif_d, if_pos (show iI 0 = 0 by decide), e1]
    · obtain ⟨T1, a1, a2, a3, a4⟩ := hoff w hwP hw T hT
      refine ⟨T1, ?_, a1⟩
      rw [a3, hfree T1 a1 a2 (W i) (by omega), bI_f gW, Option.bind_some, bif_d, if_pos (show iI 0 = 0 by decide)]
end PM
