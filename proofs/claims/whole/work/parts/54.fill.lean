/-! WHAT COMES IN, WHAT IS DRAWN -/
theorem fill_end {n cnt c : Nat} {X M X2 M2 : St} {s : Int} (h : Rel n X M) (r1 : CvR X M n cnt) (hc : c < cnt) (hX : ∀ f i, ¬ (i = c ∧ ((576 ≤ f ∧ f ≤ 580) ∨ f = 198)) → f ≠ 711 → X2 f i = X f i) (hM : ∀ f i, f ≠ 780 → f ≠ 787 → M2 f i = M f i) (hr : ∀ (c' : Nat) (k : Int), c' < 5 → 0 ≤ k → k < 136 → ¬ (c' = c ∧ (skK k ∨ k = 132)) → rw_ M2 c' k = rw_ M c' k) (hS : SkR X2 c (rw_ M2 c)) (h198 : X2 198 c 0 = iI 2) (h132 : rw_ M2 c 132 = iI 1) (hs : 0 ≤ s ∧ s ≤ 2) (es : stF (rw_ M c) = iI s) (hD : DrR X2 M2) : Rel (n + 1) X2 M2 := by
  obtain ⟨c5, c1, c2, cK, cM, cN⟩ := id r1
  have hc5 : c < 5 := by omega
  obtain ⟨K1, ⟨f1, f2, f3, f4, f5, f6⟩, K3, K4, K5, K6, K7, -⟩ := id (cK c hc5)
  obtain ⟨s', s1, s2, s3, s4, s5, s6, -⟩ := stF_ex (rw_ M c)
  have e : s' = s := (iI_eq (by omega) (by omega)).mp (s3.symm.trans es)
  subst e
  have nr : ∀ k, 0 ≤ k → k < 136 → ¬ skK k → k ≠ 132 → rw_ M2 c k = rw_ M c k := fun k q1 q2 q3 q4 => hr c k hc5 q1 q2 (fun z => z.2.elim q3 q4)
  have nX : ∀ f, ¬ ((576 ≤ f ∧ f ≤ 580) ∨ f = 198) → f ≠ 711 → X2 f c = X f c := fun f q1 q2 => hX f c (fun z => q1 z.2) q2
  refine rel_cav h r1 hc (fun f i q1 q2 => hX f i (fun z => q1 ⟨z.1, by unfold caF; omega⟩) q2) hM (fun c' k q1 q2 q3 q4 => hr c' k q1 q2 q3 (fun z => q4 ⟨z.1, z.2.elim (fun w => Or.inr (Or.inl w)) (fun w => Or.inr (Or.inr (by unfold flK; omega)))⟩)) ?_ ?_ hD
  · refine (cK c hc5).ch hS ⟨?_, ?_, ?_, ?_, ?_, ?_⟩ ?_ ?_ (fun l hl => ?_) ?_ ?_ (fun f hf => nX f (by omega) (by omega)) (fun f _ _ _ => hM f 0 (by omega) (by omega))
    · rw [h198]
      unfold stF
      rw [nr 134 (by omega) (by omega) (by unfold skK; omega) (by omega), nr 133 (by omega) (by omega) (by unfold skK; omega) (by omega), if_neg (fun z => absurd (s4.mpr z) (by omega)), if_neg (s6 (by omega)), if_pos h132]
    · rw [nr 131 (by omega) (by omega) (by unfold skK; omega) (by omega)]; exact f2
    · rw [h132]; exact ⟨1, by omega, by omega, rfl⟩
    · rw [nr 133 (by omega) (by omega) (by unfold skK; omega) (by omega)]; exact f4
    · rw [nr 134 (by omega) (by omega) (by unfold skK; omega) (by omega)]; exact f5
    · intro q; exact absurd h132 q
    · rw [nX 199 (by omega) (by omega), nr 124 (by omega) (by omega) (by unfold skK; omega) (by omega)]; exact K3
    · rw [nX 199 (by omega) (by omega)]; exact K4
    · rw [nX 195 (by omega) (by omega), nr _ (by omega) (by omega) (by unfold skK; omega) (by omega)]; exact K5 l hl
    · rw [nX 200 (by omega) (by omega), nr 129 (by omega) (by omega) (by unfold skK; omega) (by omega)]; exact K6
    · rw [nX 200 (by omega) (by omega)]; exact K7
  · obtain ⟨a, b, u, F, w, v, sl, z, p, k, m1, m2, m3, m4, m5⟩ := cav_pk (cM c hc)
    exact CvM.of (spk_fr k (by omega) (fun f _ _ => nX f (by omega) (by omega)) (fun k hk => nr k (by unfold shK at hk; omega) (by unfold shK at hk; omega) (by unfold skK; unfold shK at hk; omega) (by unfold shK at hk; omega))) (by rw [hM 778 0 (by omega) (by omega), m1]) (by rw [hM 779 0 (by omega) (by omega), m2]) m3 (by rw [nX 197 (by omega) (by omega), m4]) (by rw [hM 777 0 (by omega) (by omega), m5])
/-- the marks hold -/
theorem x_marks {X : St} {i : Nat} {r : Int → Int32} {Fm a b u F w v s : Int} {z : Int → Int} (h : SPk X i r Fm a b u F w v s z) (hF : Fm ≤ 100000000) {o g d : Int} (ho : 0 ≤ o ∧ o ≤ 99999) (hg : 0 ≤ g ∧ g ≤ 99999) (hd : -2147483648 ≤ d ∧ d < 2147483648) : f_Cav_marksHold i (iI g) (iI o) (iI d) X = some (if pshI (romI z a u F) g o ≤ max a 1 ∧ (d ≠ 0 ∨ g = 0 ∨ a / 5 ≤ pshI (romI z a u F) g o) then iI 1 else iI 0, X) := by
  have hR := rom_b h hF
  have hp := psh_b hR ho hg
  have ha := h.1
  have e1 := Cav_pushOf h hF ho hg
  have e2 := Cav_most (X := X) (i := i) h.2.1 (by omega)
  have e3 := Cav_least (X := X) (i := i) h.2.1 (by omega)
  rw [uf_Cav_marksHold]
  by_cases g1 : max a 1 < pshI (romI z a u F) g o
  · rw [if_neg (fun q => absurd q.1 (by omega))]; simp (maxSteps := 2000000) (disch := omega) only [Int.toNat_natCast, bif_d, bif_n, cond_true, cond_false, Option.bind_some, Option.bind_none, Option.elim_some, Option.elim_none, iI_add, iI_sub, iI_mul, iI_neg, iI_lt, iI_le, iI_eq, inb_t, iI_cl, bI_0, bI_1, zn_b, zn_i0, zn_i1, if_pos, if_neg, if_true, if_false, reduceIte, not_true_eq_false, not_false_eq_true, and_true, true_and, and_self, li_0, li_1, li_2, li_3, li_4, li_5, li_6, li_7, li_8, li_9, li_10, li_11, li_12, li_13, li_14, li_15, li_16, li_17, li_18, li_19, li_20, li_21, li_22, li_23, li_24, li_25, li_26, li_27, li_28, li_29, li_30, li_31, li_32, li_33, li_34, li_35, li_36, li_37, li_38, li_39, li_40, li_41, li_42, li_43, li_44, li_45, li_46, li_47, li_48, li_49, li_50, li_51, li_52, li_53, li_54, li_55, li_56, li_57, li_58, li_59, li_60, li_61, li_62, li_63, li_64, li_90, li_99, li_100, li_104, li_115, li_120, li_121, li_122, li_123, li_124, li_125, li_126, li_127, li_128, li_129, li_130, li_131, li_132, li_133, li_134, li_135, li_136, li_199, li_200, li_255, li_256, li_512, li_680, li_999, li_1000, li_1194, li_1199, li_1200, li_9999, li_10000, li_27064, li_27200, li_99999, li_1000000000, li_2000000000, iL_of, lL_0, lL_1, lL_3, lL_5, lL_8, lL_9, lL_11, lL_17, lL_29, lL_60, lL_99, lL_999, lL_9999, lL_99999, m_isInL, m_outL, x_out, x_ref, m_no, oI_l, oI_g, oI_i, wr_s, wr_f, wr_j, wr_i, rs_f, rw_rs, e1, e2]
  · by_cases g2 : d = 0
    · by_cases g3 : g = 0
      · rw [if_pos ⟨by omega, Or.inr (Or.inl g3)⟩]; simp (maxSteps := 2000000) (disch := omega) only [Int.toNat_natCast, bif_d, bif_n, cond_true, cond_false, Option.bind_some, Option.bind_none, Option.elim_some, Option.elim_none, iI_add, iI_sub, iI_mul, iI_neg, iI_lt, iI_le, iI_eq, inb_t, iI_cl, bI_0, bI_1, zn_b, zn_i0, zn_i1, if_pos, if_neg, if_true, if_false, reduceIte, not_true_eq_false, not_false_eq_true, and_true, true_and, and_self, li_0, li_1, li_2, li_3, li_4, li_5, li_6, li_7, li_8, li_9, li_10, li_11, li_12, li_13, li_14, li_15, li_16, li_17, li_18, li_19, li_20, li_21, li_22, li_23, li_24, li_25, li_26, li_27, li_28, li_29, li_30, li_31, li_32, li_33, li_34, li_35, li_36, li_37, li_38, li_39, li_40, li_41, li_42, li_43, li_44, li_45, li_46, li_47, li_48, li_49, li_50, li_51, li_52, li_53, li_54, li_55, li_56, li_57, li_58, li_59, li_60, li_61, li_62, li_63, li_64, li_90, li_99, li_100, li_104, li_115, li_120, li_121, li_122, li_123, li_124, li_125, li_126, li_127, li_128, li_129, li_130, li_131, li_132, li_133, li_134, li_135, li_136, li_199, li_200, li_255, li_256, li_512, li_680, li_999, li_1000, li_1194, li_1199, li_1200, li_9999, li_10000, li_27064, li_27200, li_99999, li_1000000000, li_2000000000, iL_of, lL_0, lL_1, lL_3, lL_5, lL_8, lL_9, lL_11, lL_17, lL_29, lL_60, lL_99, lL_999, lL_9999, lL_99999, m_isInL, m_outL, x_out, x_ref, m_no, oI_l, oI_g, oI_i, wr_s, wr_f, wr_j, wr_i, rs_f, rw_rs, e1, e2]
      · by_cases g4 : pshI (romI z a u F) g o < a / 5
        · rw [if_neg (fun q => by have := q.2; omega)]; simp (maxSteps := 2000000) (disch := omega) only [Int.toNat_natCast, bif_d, bif_n, cond_true, cond_false, Option.bind_some, Option.bind_none, Option.elim_some, Option.elim_none, iI_add, iI_sub, iI_mul, iI_neg, iI_lt, iI_le, iI_eq, inb_t, iI_cl, bI_0, bI_1, zn_b, zn_i0, zn_i1, if_pos, if_neg, if_true, if_false, reduceIte, not_true_eq_false, not_false_eq_true, and_true, true_and, and_self, li_0, li_1, li_2, li_3, li_4, li_5, li_6, li_7, li_8, li_9, li_10, li_11, li_12, li_13, li_14, li_15, li_16, li_17, li_18, li_19, li_20, li_21, li_22, li_23, li_24, li_25, li_26, li_27, li_28, li_29, li_30, li_31, li_32, li_33, li_34, li_35, li_36, li_37, li_38, li_39, li_40, li_41, li_42, li_43, li_44, li_45, li_46, li_47, li_48, li_49, li_50, li_51, li_52, li_53, li_54, li_55, li_56, li_57, li_58, li_59, li_60, li_61, li_62, li_63, li_64, li_90, li_99, li_100, li_104, li_115, li_120, li_121, li_122, li_123, li_124, li_125, li_126, li_127, li_128, li_129, li_130, li_131, li_132, li_133, li_134, li_135, li_136, li_199, li_200, li_255, li_256, li_512, li_680, li_999, li_1000, li_1194, li_1199, li_1200, li_9999, li_10000, li_27064, li_27200, li_99999, li_1000000000, li_2000000000, iL_of, lL_0, lL_1, lL_3, lL_5, lL_8, lL_9, lL_11, lL_17, lL_29, lL_60, lL_99, lL_999, lL_9999, lL_99999, m_isInL, m_outL, x_out, x_ref, m_no, oI_l, oI_g, oI_i, wr_s, wr_f, wr_j, wr_i, rs_f, rw_rs, e1, e2, e3]
        · rw [if_pos ⟨by omega, Or.inr (Or.inr (by omega))⟩]; simp (maxSteps := 2000000) (disch := omega) only [Int.toNat_natCast, bif_d, bif_n, cond_true, cond_false, Option.bind_some, Option.bind_none, Option.elim_some, Option.elim_none, iI_add, iI_sub, iI_mul, iI_neg, iI_lt, iI_le, iI_eq, inb_t, iI_cl, bI_0, bI_1, zn_b, zn_i0, zn_i1, if_pos, if_neg, if_true, if_false, reduceIte, not_true_eq_false, not_false_eq_true, and_true, true_and, and_self, li_0, li_1, li_2, li_3, li_4, li_5, li_6, li_7, li_8, li_9, li_10, li_11, li_12, li_13, li_14, li_15, li_16, li_17, li_18, li_19, li_20, li_21, li_22, li_23, li_24, li_25, li_26, li_27, li_28, li_29, li_30, li_31, li_32, li_33, li_34, li_35, li_36, li_37, li_38, li_39, li_40, li_41, li_42, li_43, li_44, li_45, li_46, li_47, li_48, li_49, li_50, li_51, li_52, li_53, li_54, li_55, li_56, li_57, li_58, li_59, li_60, li_61, li_62, li_63, li_64, li_90, li_99, li_100, li_104, li_115, li_120, li_121, li_122, li_123, li_124, li_125, li_126, li_127, li_128, li_129, li_130, li_131, li_132, li_133, li_134, li_135, li_136, li_199, li_200, li_255, li_256, li_512, li_680, li_999, li_1000, li_1194, li_1199, li_1200, li_9999, li_10000, li_27064, li_27200, li_99999, li_1000000000, li_2000000000, iL_of, lL_0, lL_1, lL_3, lL_5, lL_8, lL_9, lL_11, lL_17, lL_29, lL_60, lL_99, lL_999, lL_9999, lL_99999, m_isInL, m_outL, x_out, x_ref, m_no, oI_l, oI_g, oI_i, wr_s, wr_f, wr_j, wr_i, rs_f, rw_rs, e1, e2, e3]
    · rw [if_pos ⟨by omega, Or.inl g2⟩]; simp (maxSteps := 2000000) (disch := omega) only [Int.toNat_natCast, bif_d, bif_n, cond_true, cond_false, Option.bind_some, Option.bind_none, Option.elim_some, Option.elim_none, iI_add, iI_sub, iI_mul, iI_neg, iI_lt, iI_le, iI_eq, inb_t, iI_cl, bI_0, bI_1, zn_b, zn_i0, zn_i1, if_pos, if_neg, if_true, if_false, reduceIte, not_true_eq_false, not_false_eq_true, and_true, true_and, and_self, li_0, li_1, li_2, li_3, li_4, li_5, li_6, li_7, li_8, li_9, li_10, li_11, li_12, li_13, li_14, li_15, li_16, li_17, li_18, li_19, li_20, li_21, li_22, li_23, li_24, li_25, li_26, li_27, li_28, li_29, li_30, li_31, li_32, li_33, li_34, li_35, li_36, li_37, li_38, li_39, li_40, li_41, li_42, li_43, li_44, li_45, li_46, li_47, li_48, li_49, li_50, li_51, li_52, li_53, li_54, li_55, li_56, li_57, li_58, li_59, li_60, li_61, li_62, li_63, li_64, li_90, li_99, li_100, li_104, li_115, li_120, li_121, li_122, li_123, li_124, li_125, li_126, li_127, li_128, li_129, li_130, li_131, li_132, li_133, li_134, li_135, li_136, li_199, li_200, li_255, li_256, li_512, li_680, li_999, li_1000, li_1194, li_1199, li_1200, li_9999, li_10000, li_27064, li_27200, li_99999, li_1000000000, li_2000000000, iL_of, lL_0, lL_1, lL_3, lL_5, lL_8, lL_9, lL_11, lL_17, lL_29, lL_60, lL_99, lL_999, lL_9999, lL_99999, m_isInL, m_outL, x_out, x_ref, m_no, oI_l, oI_g, oI_i, wr_s, wr_f, wr_j, wr_i, rs_f, rw_rs, e1, e2]
theorem m_marks {X M : St} {c : Nat} {Fm a b u F w v s : Int} {z : Int → Int} (hc : c < 5) (h : SPk X c (rw_ M c) Fm a b u F w v s z) (hF : Fm ≤ 100000000) (m1 : M 778 0 c = iI a) {o g d k y t nn hs : Int} (ho : 0 ≤ o ∧ o ≤ 99999) (hg : 0 ≤ g ∧ g ≤ 99999) (hd : -2147483648 ≤ d ∧ d < 2147483648) (hk : k = 127 ∨ k = 128) (e1 : rw_ (rs_ M c k (iI y)) c 127 = iI o) (e2 : rw_ (rs_ M c k (iI y)) c 128 = iI g) : l_m_fill_197 (iI c) (iI t) (iI nn) (iI d) (iI k) (iI hs) (iI c) (iI k) (iI y) M = l_m_fill_248 (iI c) (iI t) (iI nn) (iI d) (iI k) (iI hs) (if pshI (romI z a u F) g o ≤ max a 1 ∧ (d ≠ 0 ∨ g = 0 ∨ a / 5 ≤ pshI (romI z a u F) g o) then iI 0 else iI 1) (rs_ M c k (iI y)) := by
  have h2 : SPk X c (rw_ (rs_ M c k (iI y)) c) Fm a b u F w v s z := spk_fr h (Int.le_refl _) (fun _ _ _ => rfl) (fun j hj => rs_n hc (by omega) (by unfold shK at hj; omega) (by unfold shK at hj; omega))
  have m1' : (rs_ M c k (iI y)) 778 0 c = iI a := by rw [rs_f (by omega), m1]
  have hR := rom_b h hF
  have hp := psh_b hR ho hg
  have ha := h.1
  have p1 := m_push hc h2 hF m1' ho hg e1 e2
  have p2 := m_most hc m1' (by omega)
  have p3 := m_least hc m1' (by omega)
  have ps : f_m_set (iI c) (iI k) (iI y) M = some (rs_ M c k (iI y)) := m_set (by omega) (by omega)
  rw [ul_m_fill_197]
  by_cases g1 : max a 1 < pshI (romI z a u F) g o
  · rw [if_neg (fun q => absurd q.1 (by omega))]; simp (maxSteps := 2000000) (disch := omega) only [Int.toNat_natCast, bif_d, bif_n, cond_true, cond_false, Option.bind_some, Option.bind_none, Option.elim_some, Option.elim_none, iI_add, iI_sub, iI_mul, iI_neg, iI_lt, iI_le, iI_eq, inb_t, iI_cl, bI_0, bI_1, zn_b, zn_i0, zn_i1, if_pos, if_neg, if_true, if_false, reduceIte, not_true_eq_false, not_false_eq_true, and_true, true_and, and_self, li_0, li_1, li_2, li_3, li_4, li_5, li_6, li_7, li_8, li_9, li_10, li_11, li_12, li_13, li_14, li_15, li_16, li_17, li_18, li_19, li_20, li_21, li_22, li_23, li_24, li_25, li_26, li_27, li_28, li_29, li_30, li_31, li_32, li_33, li_34, li_35, li_36, li_37, li_38, li_39, li_40, li_41, li_42, li_43, li_44, li_45, li_46, li_47, li_48, li_49, li_50, li_51, li_52, li_53, li_54, li_55, li_56, li_57, li_58, li_59, li_60, li_61, li_62, li_63, li_64, li_90, li_99, li_100, li_104, li_115, li_120, li_121, li_122, li_123, li_124, li_125, li_126, li_127, li_128, li_129, li_130, li_131, li_132, li_133, li_134, li_135, li_136, li_199, li_200, li_255, li_256, li_512, li_680, li_999, li_1000, li_1194, li_1199, li_1200, li_9999, li_10000, li_27064, li_27200, li_99999, li_1000000000, li_2000000000, iL_of, lL_0, lL_1, lL_3, lL_5, lL_8, lL_9, lL_11, lL_17, lL_29, lL_60, lL_99, lL_999, lL_9999, lL_99999, m_isInL, m_outL, x_out, x_ref, m_no, oI_l, oI_g, oI_i, wr_s, wr_f, wr_j, wr_i, rs_f, rw_rs, ps, p1, p2]
  · by_cases g2 : d = 0
    · by_cases g3 : g = 0
      · rw [if_pos ⟨by omega, Or.inr (Or.inl g3)⟩]; simp (maxSteps := 2000000) (disch := omega) only [Int.toNat_natCast, bif_d, bif_n, cond_true, cond_false, Option.bind_some, Option.bind_none, Option.elim_some, Option.elim_none, iI_add, iI_sub, iI_mul, iI_neg, iI_lt, iI_le, iI_eq, inb_t, iI_cl, bI_0, bI_1, zn_b, zn_i0, zn_i1, if_pos, if_neg, if_true, if_false, reduceIte, not_true_eq_false, not_false_eq_true, and_true, true_and, and_self, li_0, li_1, li_2, li_3, li_4, li_5, li_6, li_7, li_8, li_9, li_10, li_11, li_12, li_13, li_14, li_15, li_16, li_17, li_18, li_19, li_20, li_21, li_22, li_23, li_24, li_25, li_26, li_27, li_28, li_29, li_30, li_31, li_32, li_33, li_34, li_35, li_36, li_37, li_38, li_39, li_40, li_41, li_42, li_43, li_44, li_45, li_46, li_47, li_48, li_49, li_50, li_51, li_52, li_53, li_54, li_55, li_56, li_57, li_58, li_59, li_60, li_61, li_62, li_63, li_64, li_90, li_99, li_100, li_104, li_115, li_120, li_121, li_122, li_123, li_124, li_125, li_126, li_127, li_128, li_129, li_130, li_131, li_132, li_133, li_134, li_135, li_136, li_199, li_200, li_255, li_256, li_512, li_680, li_999, li_1000, li_1194, li_1199, li_1200, li_9999, li_10000, li_27064, li_27200, li_99999, li_1000000000, li_2000000000, iL_of, lL_0, lL_1, lL_3, lL_5, lL_8, lL_9, lL_11, lL_17, lL_29, lL_60, lL_99, lL_999, lL_9999, lL_99999, m_isInL, m_outL, x_out, x_ref, m_no, oI_l, oI_g, oI_i, wr_s, wr_f, wr_j, wr_i, rs_f, rw_rs, ps, p1, p2, m_get, e2]
      · by_cases g4 : pshI (romI z a u F) g o < a / 5
        · rw [if_neg (fun q => by have := q.2; omega)]; simp (maxSteps := 2000000) (disch := omega) only [Int.toNat_natCast, bif_d, bif_n, cond_true, cond_false, Option.bind_some, Option.bind_none, Option.elim_some, Option.elim_none, iI_add, iI_sub, iI_mul, iI_neg, iI_lt, iI_le, iI_eq, inb_t, iI_cl, bI_0, bI_1, zn_b, zn_i0, zn_i1, if_pos, if_neg, if_true, if_false, reduceIte, not_true_eq_false, not_false_eq_true, and_true, true_and, and_self, li_0, li_1, li_2, li_3, li_4, li_5, li_6, li_7, li_8, li_9, li_10, li_11, li_12, li_13, li_14, li_15, li_16, li_17, li_18, li_19, li_20, li_21, li_22, li_23, li_24, li_25, li_26, li_27, li_28, li_29, li_30, li_31, li_32, li_33, li_34, li_35, li_36, li_37, li_38, li_39, li_40, li_41, li_42, li_43, li_44, li_45, li_46, li_47, li_48, li_49, li_50, li_51, li_52, li_53, li_54, li_55, li_56, li_57, li_58, li_59, li_60, li_61, li_62, li_63, li_64, li_90, li_99, li_100, li_104, li_115, li_120, li_121, li_122, li_123, li_124, li_125, li_126, li_127, li_128, li_129, li_130, li_131, li_132, li_133, li_134, li_135, li_136, li_199, li_200, li_255, li_256, li_512, li_680, li_999, li_1000, li_1194, li_1199, li_1200, li_9999, li_10000, li_27064, li_27200, li_99999, li_1000000000, li_2000000000, iL_of, lL_0, lL_1, lL_3, lL_5, lL_8, lL_9, lL_11, lL_17, lL_29, lL_60, lL_99, lL_999, lL_9999, lL_99999, m_isInL, m_outL, x_out, x_ref, m_no, oI_l, oI_g, oI_i, wr_s, wr_f, wr_j, wr_i, rs_f, rw_rs, ps, p1, p2, p3, m_get, e2]
        · rw [if_pos ⟨by omega, Or.inr (Or.inr (by omega))⟩]; simp (maxSteps := 2000000) (disch := omega) only [Int.toNat_natCast, bif_d, bif_n, cond_true, cond_false, Option.bind_some, Option.bind_none, Option.elim_some, Option.elim_none, iI_add, iI_sub, iI_mul, iI_neg, iI_lt, iI_le, iI_eq, inb_t, iI_cl, bI_0, bI_1, zn_b, zn_i0, zn_i1, if_pos, if_neg, if_true, if_false, reduceIte, not_true_eq_false, not_false_eq_true, and_true, true_and, and_self, li_0, li_1, li_2, li_3, li_4, li_5, li_6, li_7, li_8, li_9, li_10, li_11, li_12, li_13, li_14, li_15, li_16, li_17, li_18, li_19, li_20, li_21, li_22, li_23, li_24, li_25, li_26, li_27, li_28, li_29, li_30, li_31, li_32, li_33, li_34, li_35, li_36, li_37, li_38, li_39, li_40, li_41, li_42, li_43, li_44, li_45, li_46, li_47, li_48, li_49, li_50, li_51, li_52, li_53, li_54, li_55, li_56, li_57, li_58, li_59, li_60, li_61, li_62, li_63, li_64, li_90, li_99, li_100, li_104, li_115, li_120, li_121, li_122, li_123, li_124, li_125, li_126, li_127, li_128, li_129, li_130, li_131, li_132, li_133, li_134, li_135, li_136, li_199, li_200, li_255, li_256, li_512, li_680, li_999, li_1000, li_1194, li_1199, li_1200, li_9999, li_10000, li_27064, li_27200, li_99999, li_1000000000, li_2000000000, iL_of, lL_0, lL_1, lL_3, lL_5, lL_8, lL_9, lL_11, lL_17, lL_29, lL_60, lL_99, lL_999, lL_9999, lL_99999, m_isInL, m_outL, x_out, x_ref, m_no, oI_l, oI_g, oI_i, wr_s, wr_f, wr_j, wr_i, rs_f, rw_rs, ps, p1, p2, p3, m_get, e2]
    · rw [if_pos ⟨by omega, Or.inl g2⟩]; simp (maxSteps := 2000000) (disch := omega) only [Int.toNat_natCast, bif_d, bif_n, cond_true, cond_false, Option.bind_some, Option.bind_none, Option.elim_some, Option.elim_none, iI_add, iI_sub, iI_mul, iI_neg, iI_lt, iI_le, iI_eq, inb_t, iI_cl, bI_0, bI_1, zn_b, zn_i0, zn_i1, if_pos, if_neg, if_true, if_false, reduceIte, not_true_eq_false, not_false_eq_true, and_true, true_and, and_self, li_0, li_1, li_2, li_3, li_4, li_5, li_6, li_7, li_8, li_9, li_10, li_11, li_12, li_13, li_14, li_15, li_16, li_17, li_18, li_19, li_20, li_21, li_22, li_23, li_24, li_25, li_26, li_27, li_28, li_29, li_30, li_31, li_32, li_33, li_34, li_35, li_36, li_37, li_38, li_39, li_40, li_41, li_42, li_43, li_44, li_45, li_46, li_47, li_48, li_49, li_50, li_51, li_52, li_53, li_54, li_55, li_56, li_57, li_58, li_59, li_60, li_61, li_62, li_63, li_64, li_90, li_99, li_100, li_104, li_115, li_120, li_121, li_122, li_123, li_124, li_125, li_126, li_127, li_128, li_129, li_130, li_131, li_132, li_133, li_134, li_135, li_136, li_199, li_200, li_255, li_256, li_512, li_680, li_999, li_1000, li_1194, li_1199, li_1200, li_9999, li_10000, li_27064, li_27200, li_99999, li_1000000000, li_2000000000, iL_of, lL_0, lL_1, lL_3, lL_5, lL_8, lL_9, lL_11, lL_17, lL_29, lL_60, lL_99, lL_999, lL_9999, lL_99999, m_isInL, m_outL, x_out, x_ref, m_no, oI_l, oI_g, oI_i, wr_s, wr_f, wr_j, wr_i, rs_f, rw_rs, ps, p1, p2]
/-- lots as whole numbers -/
def sA (am : Nat → Int) : Nat → Nat → Int
  | _, 0 => 0
  | i, m + 1 => am i + sA am (i + 1) m
theorem sA_b (am : Nat → Int) : ∀ (m i : Nat), sA am i (m + 1) = sA am i m + am (i + m)
  | 0, i => by show am i + 0 = 0 + am (i + 0); rw [Nat.add_zero]; omega
  | m + 1, i => by
    have := sA_b am m (i + 1)
    show am i + sA am (i + 1) (m + 1) = am i + sA am (i + 1) m + am (i + (m + 1))
    rw [this, show i + 1 + m = i + (m + 1) by omega]
    omega
theorem sA_c {am am' : Nat → Int} : ∀ (m i i' : Nat), (∀ j : Nat, j < m → am' (i' + j) = am (i + j)) → sA am' i' m = sA am i m
  | 0, _, _, _ => rfl
  | m + 1, i, i', h => by
    show am' i' + sA am' (i' + 1) m = am i + sA am (i + 1) m
    have h0 := h 0 (by omega)
    rw [Nat.add_zero, Nat.add_zero] at h0
    rw [h0, sA_c m (i + 1) (i' + 1) (fun j hj => by
      have := h (j + 1) (by omega)
      rw [show i' + 1 + j = i' + (j + 1) by omega, show i + 1 + j = i + (j + 1) by omega]; exact this)]
theorem sA_p {am : Nat → Int} : ∀ (m i : Nat), (∀ j : Nat, j < m → 0 ≤ am (i + j)) → 0 ≤ sA am i m
  | 0, _, _ => Int.le_refl 0
  | m + 1, i, h => by
    have h0 := h 0 (by omega)
    rw [Nat.add_zero] at h0
    have := sA_p m (i + 1) (fun j hj => by rw [show i + 1 + j = i + (j + 1) by omega]; exact h (j + 1) (by omega))
    show 0 ≤ am i + sA am (i + 1) m
    omega
theorem SkS_sA {X : St} {i : Nat} {am : Nat → Int} : ∀ n : Nat, (∀ j : Nat, j < n → X 577 i j = iI (am j) ∧ (0 ≤ am j ∧ am j ≤ 200000)) → SkS X i n = sA am 0 n
  | 0, _ => rfl
  | n + 1, h => by
    rw [sA_b, Nat.zero_add]
    unfold SkS
    rw [SkS_sA n (fun j hj => h j (by omega)), (h n (by omega)).1, toInt_iI (by have := (h n (by omega)).2; omega)]
/-- a stock as whole numbers -/
def SkI (X : St) (i : Nat) (r : Int → Int32) (k : Nat) (ow am : Nat → Int) (o g : Int) : Prop := k ≤ 30 ∧ X 578 i 0 = iI k ∧ r 130 = iI k ∧ X 579 i 0 = iI o ∧ r 127 = iI o ∧ X 580 i 0 = iI g ∧ r 128 = iI g ∧ (0 ≤ o ∧ o ≤ 99999) ∧ (0 ≤ g ∧ g ≤ 99999) ∧ (∀ j : Nat, j < k → X 576 i j = iI (ow j) ∧ r (60 + j) = iI (ow j) ∧ X 577 i j = iI (am j) ∧ r (90 + j) = iI (am j) ∧ (0 ≤ ow j ∧ ow j ≤ 5) ∧ (1 ≤ am j ∧ am j ≤ 99999)) ∧ o = sA am 0 k
theorem SkI.of {X : St} {i : Nat} {r : Int → Int32} (h : SkR X i r) : ∃ k ow am o g, SkI X i r k ow am o g := by
  obtain ⟨k, h1, h2, h3, h4, h5, ⟨o, o1, o2, o3⟩, ⟨g, g1, g2, g3⟩, h8, h9⟩ := h
  have hj : ∀ j : Nat, j < k → X 577 i j = iI ((X 577 i j).toInt) ∧ (0 ≤ (X 577 i j).toInt ∧ (X 577 i j).toInt ≤ 200000) := fun j hj => by
    obtain ⟨-, -, -, ⟨q, q1, q2, q3⟩⟩ := h8 j hj
    refine ⟨(iI_toInt _).symm, ?_⟩
    rw [q3, toInt_iI (by omega)]; omega
  have hsum := SkS_sA k hj
  have hp : 0 ≤ sA (fun j => (X 577 i j).toInt) 0 k := sA_p k 0 (fun j hj2 => by rw [Nat.zero_add]; exact (hj j hj2).2.1)
  refine ⟨k, fun j => (X 576 i j).toInt, fun j => (X 577 i j).toInt, o, g, h1, h2, h3, o3, by rw [← h4, o3], g3, by rw [← h5, g3], ⟨o1, o2⟩, ⟨g1, g2⟩, fun j hj => ?_, ?_⟩
  · obtain ⟨q1, q2, ⟨p, p1, p2, p3⟩, ⟨q, b1, b2, b3⟩⟩ := h8 j hj
    rw [← q1, ← q2]
    refine ⟨(iI_toInt _).symm, (iI_toInt _).symm, (iI_toInt _).symm, (iI_toInt _).symm, ?_, ?_⟩
    · show 0 ≤ (X 576 i j).toInt ∧ (X 576 i j).toInt ≤ 5
      rw [p3, toInt_iI (by omega)]; omega
    · show 1 ≤ (X 577 i j).toInt ∧ (X 577 i j).toInt ≤ 99999
      rw [b3, toInt_iI (by omega)]; omega
  · rw [o3, hsum] at h9
    have hb : sA (fun j => (X 577 i j).toInt) 0 k ≤ 30 * 99999 := by
      have : ∀ m, m ≤ k → sA (fun j => (X 577 i j).toInt) 0 m ≤ m * 99999 := by
        intro m
        induction m with
        | zero => intro _; show (0 : Int) ≤ _; omega
        | succ m ih =>
          intro hm
          rw [sA_b, Nat.zero_add]
          have := ih (by omega)
          obtain ⟨-, -, -, ⟨q, b1, b2, b3⟩⟩ := h8 m (by omega)
          have : (X 577 i m).toInt ≤ 99999 := by rw [b3, toInt_iI (by omega)]; omega
          show sA (fun j => (X 577 i j).toInt) 0 m + (X 577 i m).toInt ≤ _
          omega
      have := this k (Nat.le_refl k)
      omega
    exact (iI_eq (by omega) (by omega)).mp h9
theorem SkI.fr {X X' : St} {i : Nat} {r r' : Int → Int32} {k : Nat} {ow am : Nat → Int} {o g : Int} (h : SkI X i r k ow am o g) (hX : ∀ f, 576 ≤ f → f ≤ 580 → X' f i = X f i) (hr : ∀ k, skK k → r' k = r k) : SkI X' i r' k ow am o g := by
  obtain ⟨h1, h2, h3, h4, h5, h6, h7, h8, h9, h10, h11⟩ := h
  refine ⟨h1, ?_, ?_, ?_, ?_, ?_, ?_, h8, h9, fun j hj => ?_, h11⟩
  · rw [hX 578 (by omega) (by omega), h2]
  · rw [hr 130 (by unfold skK; omega), h3]
  · rw [hX 579 (by omega) (by omega), h4]
  · rw [hr 127 (by unfold skK; omega), h5]
  · rw [hX 580 (by omega) (by omega), h6]
  · rw [hr 128 (by unfold skK; omega), h7]
  · rw [hX 576 (by omega) (by omega), hX 577 (by omega) (by omega), hr _ (by unfold skK; omega), hr _ (by unfold skK; omega)]; exact h10 j hj
theorem SkI.to {X : St} {i : Nat} {r : Int → Int32} {k : Nat} {ow am : Nat → Int} {o g : Int} (h : SkI X i r k ow am o g) : SkR X i r := by
  obtain ⟨h1, h2, h3, h4, h5, h6, h7, h8, h9, h10, h11⟩ := h
  refine ⟨k, h1, h2, h3, by rw [h4, h5], by rw [h6, h7], ⟨o, h8.1, h8.2, h4⟩, ⟨g, h9.1, h9.2, h6⟩, fun j hj => ?_, ?_⟩
  · obtain ⟨a1, a2, a3, a4, a5, a6⟩ := h10 j hj
    exact ⟨by rw [a1, a2], by rw [a3, a4], ⟨ow j, a5.1, a5.2, a1⟩, ⟨am j, a6.1, a6.2, a3⟩⟩
  · rw [h4, SkS_sA k (fun j hj => ⟨(h10 j hj).2.2.1, by have := (h10 j hj).2.2.2.2.2; omega⟩), h11]
set_option maxHeartbeats 4000000 in
/-- oil comes in -/
theorem add_b {X M : St} {c k : Nat} {ow am : Nat → Int} {o g w n : Int} (hc : c < 5) (h : SkI X c (rw_ M c) k ow am o g) (hw : 0 ≤ w ∧ w ≤ 5) (ew : X 710 0 0 = iI w) (ew2 : M 788 0 0 = iI w) (hn : 1 ≤ n ∧ o + n ≤ 99999) (hl : k < 30 ∨ (0 < k ∧ ow (k - 1) = w)) : ∃ X' M' k' ow' am', f_Sk_addOil c (iI w) (iI n) X = some X' ∧ f_m_oilIn (iI c) (iI n) M = some M' ∧ SkI X' c (rw_ M' c) k' ow' am' (o + n) g ∧ (∀ f i, ¬ (i = c ∧ (576 ≤ f ∧ f ≤ 579)) → X' f i = X f i) ∧ FmS skK c M M' := by
  obtain ⟨h1, h2, h3, h4, h5, h6, h7, h8, h9, h10, h11⟩ := h
  have gt : ∀ (T : St) (k : Int), 0 ≤ k ∧ k < 136 → f_m_get (iI c) (iI k) T = some (rw_ T c k, T) := fun T k hk => m_get (by omega) hk
  have mo : ∀ (T : St) (k : Int) (v : Int32), 0 ≤ k ∧ k < 136 → f_m_more (iI c) (iI k) v T = some (rs_ T c k (rw_ T c k + v)) := fun T k v hk => m_more (by omega) hk
  have e130 : rw_ (rs_ M c 127 (iI (o + n))) c 130 = iI k := by rw [rs_n hc (by omega) (by omega) (by omega), h3]
  have el := m_last (M := rs_ M c 127 (iI (o + n))) hc e130
  by_cases gl : 0 < k ∧ ow (k - 1) = w
  · obtain ⟨a1, a2, a3, a4, a5, a6⟩ := h10 (k - 1) (by omega)
    have ek : ((k : Int) - 1).toNat = k - 1 := by omega
    have ek2 : (60 : Int) + ((k : Int) - 1) = 60 + ((k - 1 : Nat) : Int) := by omega
    have ek3 : (90 : Int) + ((k : Int) - 1) = 90 + ((k - 1 : Nat) : Int) := by omega
    have hsp : sA am 0 k = sA am 0 (k - 1) + am (k - 1) := by
      have := sA_b am (k - 1) 0
      rw [show k - 1 + 1 = k by omega, Nat.zero_add] at this
      exact this
    have hpos : 0 ≤ sA am 0 (k - 1) := sA_p (k - 1) 0 (fun j hj => by rw [Nat.zero_add]; have := (h10 j (by omega)).2.2.2.2.2; omega)
    obtain ⟨am', ea1, ea2⟩ : ∃ f : Nat → Int, f (k - 1) = am (k - 1) + n ∧ ∀ j, j ≠ k - 1 → f j = am j := ⟨fun j => if j = k - 1 then am j + n else am j, if_pos rfl, fun j h => if_neg h⟩
    refine ⟨st_wr (st_wr X 577 c (k - 1) (iI (am (k - 1) + n))) 579 c 0 (iI (o + n)), rs_ (rs_ M c 127 (iI (o + n))) c (90 + ((k - 1 : Nat) : Int)) (iI (am (k - 1) + n)), k, ow, am', ?_, ?_, ⟨h1, ?_, ?_, wr_s, ?_, ?_, ?_, by omega, h9, fun j hj => ?_, ?_⟩, fun f i q => by rw [st_wr_ne (by omega), st_wr_ne (by omega)], (FmS.wr hc (by omega) (by unfold skK; omega)).tr (FmS.wr hc (by omega) (by unfold skK; omega))⟩
    · rw [uf_Sk_addOil, uf_Sk_isLastOf]; simp (maxSteps := 2000000) (disch := omega) only [Int.toNat_natCast, bif_d, bif_n, cond_true, cond_false, Option.bind_some, Option.bind_none, Option.elim_some, Option.elim_none, iI_add, iI_sub, iI_mul, iI_neg, iI_lt, iI_le, iI_eq, inb_t, iI_cl, bI_0, bI_1, zn_b, zn_i0, zn_i1, if_pos, if_neg, if_true, if_false, reduceIte, not_true_eq_false, not_false_eq_true, and_true, true_and, and_self, li_0, li_1, li_2, li_3, li_4, li_5, li_6, li_7, li_8, li_9, li_10, li_11, li_12, li_13, li_14, li_15, li_16, li_17, li_18, li_19, li_20, li_21, li_22, li_23, li_24, li_25, li_26, li_27, li_28, li_29, li_30, li_31, li_32, li_33, li_34, li_35, li_36, li_37, li_38, li_39, li_40, li_41, li_42, li_43, li_44, li_45, li_46, li_47, li_48, li_49, li_50, li_51, li_52, li_53, li_54, li_55, li_56, li_57, li_58, li_59, li_60, li_61, li_62, li_63, li_64, li_90, li_99, li_100, li_104, li_115, li_120, li_121, li_122, li_123, li_124, li_125, li_126, li_127, li_128, li_129, li_130, li_131, li_132, li_133, li_134, li_135, li_136, li_199, li_200, li_255, li_256, li_512, li_680, li_999, li_1000, li_1194, li_1199, li_1200, li_9999, li_10000, li_27064, li_27200, li_99999, li_1000000000, li_2000000000, iL_of, lL_0, lL_1, lL_3, lL_5, lL_8, lL_9, lL_11, lL_17, lL_29, lL_60, lL_99, lL_999, lL_9999, lL_99999, m_isInL, m_outL, x_out, x_ref, m_no, oI_l, oI_g, oI_i, wr_s, wr_f, wr_j, wr_i, rs_f, rw_rs, h2, ek, a1, gl.2, a3, h4]
    · have q1 : rw_ (rs_ M c 127 (iI (o + n))) c (60 + ((k - 1 : Nat) : Int)) = iI w := by rw [rs_n hc (by omega) (by omega) (by omega), a2, gl.2]
      have q2 : (rs_ M c 127 (iI (o + n))) 788 0 0 = iI w := by rw [rs_f (by omega), ew2]
      have q3 : rw_ (rs_ M c 127 (iI (o + n))) c (90 + ((k - 1 : Nat) : Int)) = iI (am (k - 1)) := by rw [rs_n hc (by omega) (by omega) (by omega), a4]
      rw [uf_m_oilIn]; simp (maxSteps := 2000000) (disch := omega) only [Int.toNat_natCast, bif_d, bif_n, cond_true, cond_false, Option.bind_some, Option.bind_none, Option.elim_some, Option.elim_none, iI_add, iI_sub, iI_mul, iI_neg, iI_lt, iI_le, iI_eq, inb_t, iI_cl, bI_0, bI_1, zn_b, zn_i0, zn_i1, if_pos, if_neg, if_true, if_false, reduceIte, not_true_eq_false, not_false_eq_true, and_true, true_and, and_self, li_0, li_1, li_2, li_3, li_4, li_5, li_6, li_7, li_8, li_9, li_10, li_11, li_12, li_13, li_14, li_15, li_16, li_17, li_18, li_19, li_20, li_21, li_22, li_23, li_24, li_25, li_26, li_27, li_28, li_29, li_30, li_31, li_32, li_33, li_34, li_35, li_36, li_37, li_38, li_39, li_40, li_41, li_42, li_43, li_44, li_45, li_46, li_47, li_48, li_49, li_50, li_51, li_52, li_53, li_54, li_55, li_56, li_57, li_58, li_59, li_60, li_61, li_62, li_63, li_64, li_90, li_99, li_100, li_104, li_115, li_120, li_121, li_122, li_123, li_124, li_125, li_126, li_127, li_128, li_129, li_130, li_131, li_132, li_133, li_134, li_135, li_136, li_199, li_200, li_255, li_256, li_512, li_680, li_999, li_1000, li_1194, li_1199, li_1200, li_9999, li_10000, li_27064, li_27200, li_99999, li_1000000000, li_2000000000, iL_of, lL_0, lL_1, lL_3, lL_5, lL_8, lL_9, lL_11, lL_17, lL_29, lL_60, lL_99, lL_999, lL_9999, lL_99999, m_isInL, m_outL, x_out, x_ref, m_no, oI_l, oI_g, oI_i, wr_s, wr_f, wr_j, wr_i, rs_f, rw_rs, mo, h5, el, ek2, ek3, gt, q1, ew2, q3]
    · rw [wr_f (by omega), wr_f (by omega), h2]
    · rw [rs_n hc (by omega) (by omega) (by omega), e130]
    · rw [rs_n hc (by omega) (by omega) (by omega), rs_s hc (by omega)]
    · rw [wr_f (by omega), wr_f (by omega), h6]
    · rw [rs_n hc (by omega) (by omega) (by omega), rs_n hc (by omega) (by omega) (by omega), h7]
    · obtain ⟨b1, b2, b3, b4, b5, b6⟩ := h10 j hj
      rw [wr_f (by omega), wr_f (by omega), wr_f (by omega), rs_n hc (by omega) (by omega) (by omega), rs_n hc (by omega) (by omega) (by omega)]
      by_cases e : j = k - 1
      · subst e
        rw [wr_s, rs_s hc (by omega), ea1]
        exact ⟨b1, b2, rfl, rfl, b5, by omega⟩
      · rw [wr_j e, rs_n hc (by omega) (by omega) (by omega), rs_n hc (by omega) (by omega) (by omega), ea2 j e]
        exact ⟨b1, b2, b3, b4, b5, b6⟩
    · have := sA_b am' (k - 1) 0
      rw [show k - 1 + 1 = k by omega, Nat.zero_add, sA_c (am := am) (k - 1) 0 0 (fun j hj => by rw [Nat.zero_add, ea2 j (by omega)]), ea1] at this
      rw [this, h11, hsp]
      omega
  · have hk30 : k < 30 := by omega
    have ek2 : (60 : Int) + ((k : Int) - 1 + 1) = 60 + (k : Int) := by omega
    have ek3 : (90 : Int) + ((k : Int) - 1 + 1) = 90 + (k : Int) := by omega
    have ek4 : (k : Int) - 1 + 1 + 1 = k + 1 := by omega

    have ex : f_Sk_isLastOf c (iI w) X = some (iI 0, X) := by
      rw [uf_Sk_isLastOf]
      by_cases g0 : k = 0
      · subst g0
        have h2 : X 578 c 0 = iI 0 := h2
        simp (maxSteps := 2000000) (disch := omega) only [Int.toNat_natCast, bif_d, bif_n, cond_true, cond_false, Option.bind_some, Option.bind_none, Option.elim_some, Option.elim_none, iI_add, iI_sub, iI_mul, iI_neg, iI_lt, iI_le, iI_eq, inb_t, iI_cl, bI_0, bI_1, zn_b, zn_i0, zn_i1, if_pos, if_neg, if_true, if_false, reduceIte, not_true_eq_false, not_false_eq_true, and_true, true_and, and_self, li_0, li_1, li_2, li_3, li_4, li_5, li_6, li_7, li_8, li_9, li_10, li_11, li_12, li_13, li_14, li_15, li_16, li_17, li_18, li_19, li_20, li_21, li_22, li_23, li_24, li_25, li_26, li_27, li_28, li_29, li_30, li_31, li_32, li_33, li_34, li_35, li_36, li_37, li_38, li_39, li_40, li_41, li_42, li_43, li_44, li_45, li_46, li_47, li_48, li_49, li_50, li_51, li_52, li_53, li_54, li_55, li_56, li_57, li_58, li_59, li_60, li_61, li_62, li_63, li_64, li_90, li_99, li_100, li_104, li_115, li_120, li_121, li_122, li_123, li_124, li_125, li_126, li_127, li_128, li_129, li_130, li_131, li_132, li_133, li_134, li_135, li_136, li_199, li_200, li_255, li_256, li_512, li_680, li_999, li_1000, li_1194, li_1199, li_1200, li_9999, li_10000, li_27064, li_27200, li_99999, li_1000000000, li_2000000000, iL_of, lL_0, lL_1, lL_3, lL_5, lL_8, lL_9, lL_11, lL_17, lL_29, lL_60, lL_99, lL_999, lL_9999, lL_99999, m_isInL, m_outL, x_out, x_ref, m_no, oI_l, oI_g, oI_i, wr_s, wr_f, wr_j, wr_i, rs_f, rw_rs, h2]
      · obtain ⟨a1, -⟩ := h10 (k - 1) (by omega)
        have ek : ((k : Int) - 1).toNat = k - 1 := by omega
        have : ow (k - 1) ≠ w := fun z => gl ⟨by omega, z⟩
        have b5 := (h10 (k - 1) (by omega)).2.2.2.2.1
        simp (maxSteps := 2000000) (disch := omega) only [Int.toNat_natCast, bif_d, bif_n, cond_true, cond_false, Option.bind_some, Option.bind_none, Option.elim_some, Option.elim_none, iI_add, iI_sub, iI_mul, iI_neg, iI_lt, iI_le, iI_eq, inb_t, iI_cl, bI_0, bI_1, zn_b, zn_i0, zn_i1, if_pos, if_neg, if_true, if_false, reduceIte, not_true_eq_false, not_false_eq_true, and_true, true_and, and_self, li_0, li_1, li_2, li_3, li_4, li_5, li_6, li_7, li_8, li_9, li_10, li_11, li_12, li_13, li_14, li_15, li_16, li_17, li_18, li_19, li_20, li_21, li_22, li_23, li_24, li_25, li_26, li_27, li_28, li_29, li_30, li_31, li_32, li_33, li_34, li_35, li_36, li_37, li_38, li_39, li_40, li_41, li_42, li_43, li_44, li_45, li_46, li_47, li_48, li_49, li_50, li_51, li_52, li_53, li_54, li_55, li_56, li_57, li_58, li_59, li_60, li_61, li_62, li_63, li_64, li_90, li_99, li_100, li_104, li_115, li_120, li_121, li_122, li_123, li_124, li_125, li_126, li_127, li_128, li_129, li_130, li_131, li_132, li_133, li_134, li_135, li_136, li_199, li_200, li_255, li_256, li_512, li_680, li_999, li_1000, li_1194, li_1199, li_1200, li_9999, li_10000, li_27064, li_27200, li_99999, li_1000000000, li_2000000000, iL_of, lL_0, lL_1, lL_3, lL_5, lL_8, lL_9, lL_11, lL_17, lL_29, lL_60, lL_99, lL_999, lL_9999, lL_99999, m_isInL, m_outL, x_out, x_ref, m_no, oI_l, oI_g, oI_i, wr_s, wr_f, wr_j, wr_i, rs_f, rw_rs, h2, ek, a1]
    obtain ⟨ow', eo1, eo2⟩ : ∃ f : Nat → Int, f k = w ∧ ∀ j, j ≠ k → f j = ow j := ⟨fun j => if j = k then w else ow j, if_pos rfl, fun j h => if_neg h⟩
    obtain ⟨am', ea1, ea2⟩ : ∃ f : Nat → Int, f k = n ∧ ∀ j, j ≠ k → f j = am j := ⟨fun j => if j = k then n else am j, if_pos rfl, fun j h => if_neg h⟩
    refine ⟨st_wr (st_wr (st_wr (st_wr X 576 c k (iI w)) 577 c k (iI n)) 578 c 0 (iI (k + 1))) 579 c 0 (iI (o + n)), rs_ (rs_ (rs_ (rs_ (rs_ M c 127 (iI (o + n))) c 130 (iI (k + 1))) c (60 + (k : Int)) (iI w)) c (90 + (k : Int)) (iI 0)) c (90 + (k : Int)) (iI (0 + n)), k + 1, ow', am', ?_, ?_, ⟨by omega, ?_, ?_, wr_s, ?_, ?_, ?_, by omega, h9, fun j hj => ?_, ?_⟩, fun f i q => by rw [st_wr_ne (by omega), st_wr_ne (by omega), st_wr_ne (by omega), st_wr_ne (by omega)], ((((FmS.wr hc (by omega) (by unfold skK; omega)).tr (FmS.wr hc (by omega) (by unfold skK; omega))).tr (FmS.wr hc (by omega) (by unfold skK; omega))).tr (FmS.wr hc (by omega) (by unfold skK; omega))).tr (FmS.wr hc (by omega) (by unfold skK; omega))⟩
    · rw [uf_Sk_addOil, ex]; simp (maxSteps := 2000000) (disch := omega) only [Int.toNat_natCast, bif_d, bif_n, cond_true, cond_false, Option.bind_some, Option.bind_none, Option.elim_some, Option.elim_none, iI_add, iI_sub, iI_mul, iI_neg, iI_lt, iI_le, iI_eq, inb_t, iI_cl, bI_0, bI_1, zn_b, zn_i0, zn_i1, if_pos, if_neg, if_true, if_false, reduceIte, not_true_eq_false, not_false_eq_true, and_true, true_and, and_self, li_0, li_1, li_2, li_3, li_4, li_5, li_6, li_7, li_8, li_9, li_10, li_11, li_12, li_13, li_14, li_15, li_16, li_17, li_18, li_19, li_20, li_21, li_22, li_23, li_24, li_25, li_26, li_27, li_28, li_29, li_30, li_31, li_32, li_33, li_34, li_35, li_36, li_37, li_38, li_39, li_40, li_41, li_42, li_43, li_44, li_45, li_46, li_47, li_48, li_49, li_50, li_51, li_52, li_53, li_54, li_55, li_56, li_57, li_58, li_59, li_60, li_61, li_62, li_63, li_64, li_90, li_99, li_100, li_104, li_115, li_120, li_121, li_122, li_123, li_124, li_125, li_126, li_127, li_128, li_129, li_130, li_131, li_132, li_133, li_134, li_135, li_136, li_199, li_200, li_255, li_256, li_512, li_680, li_999, li_1000, li_1194, li_1199, li_1200, li_9999, li_10000, li_27064, li_27200, li_99999, li_1000000000, li_2000000000, iL_of, lL_0, lL_1, lL_3, lL_5, lL_8, lL_9, lL_11, lL_17, lL_29, lL_60, lL_99, lL_999, lL_9999, lL_99999, m_isInL, m_outL, x_out, x_ref, m_no, oI_l, oI_g, oI_i, wr_s, wr_f, wr_j, wr_i, rs_f, rw_rs, h2, h4]
    · have q2 : (rs_ M c 127 (iI (o + n))) 788 0 0 = iI w := by rw [rs_f (by omega), ew2]
      have q3 : (rs_ (rs_ M c 127 (iI (o + n))) c 130 (iI (k + 1))) 788 0 0 = iI w := by rw [rs_f (by omega), q2]
      have st' : ∀ (T : St) (k : Int) (v : Int32), 0 ≤ k ∧ k < 136 → f_m_set (iI c) (iI k) v T = some (rs_ T c k v) := fun T k v hk => m_set (by omega) hk
      rw [uf_m_oilIn, li_127, mo M 127 (iI n) (by omega), Option.bind_some, h5, iI_add, el, Option.bind_some]
      by_cases g0 : k = 0
      · subst g0
        simp (maxSteps := 2000000) (disch := omega) only [Int.toNat_natCast, bif_d, bif_n, cond_true, cond_false, Option.bind_some, Option.bind_none, Option.elim_some, Option.elim_none, iI_add, iI_sub, iI_mul, iI_neg, iI_lt, iI_le, iI_eq, inb_t, iI_cl, bI_0, bI_1, zn_b, zn_i0, zn_i1, if_pos, if_neg, if_true, if_false, reduceIte, not_true_eq_false, not_false_eq_true, and_true, true_and, and_self, li_0, li_1, li_2, li_3, li_4, li_5, li_6, li_7, li_8, li_9, li_10, li_11, li_12, li_13, li_14, li_15, li_16, li_17, li_18, li_19, li_20, li_21, li_22, li_23, li_24, li_25, li_26, li_27, li_28, li_29, li_30, li_31, li_32, li_33, li_34, li_35, li_36, li_37, li_38, li_39, li_40, li_41, li_42, li_43, li_44, li_45, li_46, li_47, li_48, li_49, li_50, li_51, li_52, li_53, li_54, li_55, li_56, li_57, li_58, li_59, li_60, li_61, li_62, li_63, li_64, li_90, li_99, li_100, li_104, li_115, li_120, li_121, li_122, li_123, li_124, li_125, li_126, li_127, li_128, li_129, li_130, li_131, li_132, li_133, li_134, li_135, li_136, li_199, li_200, li_255, li_256, li_512, li_680, li_999, li_1000, li_1194, li_1199, li_1200, li_9999, li_10000, li_27064, li_27200, li_99999, li_1000000000, li_2000000000, iL_of, lL_0, lL_1, lL_3, lL_5, lL_8, lL_9, lL_11, lL_17, lL_29, lL_60, lL_99, lL_999, lL_9999, lL_99999, m_isInL, m_outL, x_out, x_ref, m_no, oI_l, oI_g, oI_i, wr_s, wr_f, wr_j, wr_i, rs_f, rw_rs, st', ek4, ek2, ek3]
        rw [ew2, mo _ _ _ (by omega), Option.bind_some, rs_s hc (by omega), iI_add]
      · have q1 : rw_ (rs_ M c 127 (iI (o + n))) c (60 + ((k : Int) - 1)) = iI (ow (k - 1)) := by
          rw [show (60 : Int) + ((k : Int) - 1) = 60 + ((k - 1 : Nat) : Int) by omega, rs_n hc (by omega) (by omega) (by omega), (h10 (k - 1) (by omega)).2.1]
        have ne : ow (k - 1) ≠ w := fun z => gl ⟨by omega, z⟩
        have b5 := (h10 (k - 1) (by omega)).2.2.2.2.1
        simp (maxSteps := 2000000) (disch := omega) only [Int.toNat_natCast, bif_d, bif_n, cond_true, cond_false, Option.bind_some, Option.bind_none, Option.elim_some, Option.elim_none, iI_add, iI_sub, iI_mul, iI_neg, iI_lt, iI_le, iI_eq, inb_t, iI_cl, bI_0, bI_1, zn_b, zn_i0, zn_i1, if_pos, if_neg, if_true, if_false, reduceIte, not_true_eq_false, not_false_eq_true, and_true, true_and, and_self, li_0, li_1, li_2, li_3, li_4, li_5, li_6, li_7, li_8, li_9, li_10, li_11, li_12, li_13, li_14, li_15, li_16, li_17, li_18, li_19, li_20, li_21, li_22, li_23, li_24, li_25, li_26, li_27, li_28, li_29, li_30, li_31, li_32, li_33, li_34, li_35, li_36, li_37, li_38, li_39, li_40, li_41, li_42, li_43, li_44, li_45, li_46, li_47, li_48, li_49, li_50, li_51, li_52, li_53, li_54, li_55, li_56, li_57, li_58, li_59, li_60, li_61, li_62, li_63, li_64, li_90, li_99, li_100, li_104, li_115, li_120, li_121, li_122, li_123, li_124, li_125, li_126, li_127, li_128, li_129, li_130, li_131, li_132, li_133, li_134, li_135, li_136, li_199, li_200, li_255, li_256, li_512, li_680, li_999, li_1000, li_1194, li_1199, li_1200, li_9999, li_10000, li_27064, li_27200, li_99999, li_1000000000, li_2000000000, iL_of, lL_0, lL_1, lL_3, lL_5, lL_8, lL_9, lL_11, lL_17, lL_29, lL_60, lL_99, lL_999, lL_9999, lL_99999, m_isInL, m_outL, x_out, x_ref, m_no, oI_l, oI_g, oI_i, wr_s, wr_f, wr_j, wr_i, rs_f, rw_rs, gt, q1, q2, st', ek4, ek2, ek3]
        rw [mo _ _ _ (by omega), Option.bind_some, rs_s hc (by omega), iI_add]
    · rw [wr_f (by omega), wr_s]; rfl
    · rw [rs_n hc (by omega) (by omega) (by omega), rs_n hc (by omega) (by omega) (by omega), rs_n hc (by omega) (by omega) (by omega), rs_s hc (by omega)]; rfl
    · rw [rs_n hc (by omega) (by omega) (by omega), rs_n hc (by omega) (by omega) (by omega), rs_n hc (by omega) (by omega) (by omega), rs_n hc (by omega) (by omega) (by omega), rs_s hc (by omega)]
    · rw [wr_f (by omega), wr_f (by omega), wr_f (by omega), wr_f (by omega), h6]
    · rw [rs_n hc (by omega) (by omega) (by omega), rs_n hc (by omega) (by omega) (by omega), rs_n hc (by omega) (by omega) (by omega), rs_n hc (by omega) (by omega) (by omega), rs_n hc (by omega) (by omega) (by omega), h7]
    · rw [wr_f (by omega), wr_f (by omega), wr_f (by omega), wr_f (f' := 577) (by omega), wr_f (f' := 577) (by omega)]
      by_cases e : j = k
      · subst e
        rw [wr_s, wr_s, rs_s hc (by omega), rs_n hc (by omega) (by omega) (by omega), rs_n hc (by omega) (by omega) (by omega), rs_s hc (by omega), eo1, ea1]
        exact ⟨rfl, rfl, rfl, by rw [Int.zero_add], hw, by omega⟩
      · obtain ⟨b1, b2, b3, b4, b5, b6⟩ := h10 j (by omega)
        rw [wr_j e, wr_j e, eo2 j e, ea2 j e]
        refine ⟨b1, ?_, b3, ?_, b5, b6⟩
        · rw [rs_n hc (by omega) (by omega) (by omega), rs_n hc (by omega) (by omega) (by omega), rs_n hc (by omega) (by omega) (by omega), rs_n hc (by omega) (by omega) (by omega), rs_n hc (by omega) (by omega) (by omega), b2]
        · rw [rs_n hc (by omega) (by omega) (by omega), rs_n hc (by omega) (by omega) (by omega), rs_n hc (by omega) (by omega) (by omega), rs_n hc (by omega) (by omega) (by omega), rs_n hc (by omega) (by omega) (by omega), b4]
    · have := sA_b am' k 0
      rw [Nat.zero_add, sA_c (am := am) k 0 0 (fun j hj => by rw [Nat.zero_add, ea2 j (by omega)]), ea1] at this
      rw [this, h11]
