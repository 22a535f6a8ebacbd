/-! COPIES -/
theorem up_f {S : St} {f i f' i' : Nat} {g : Nat → Int32} (h : f' ≠ f) : st_up S f i g f' i' = S f' i' := by rw [up_row, if_neg (fun q => h q.1)]
theorem up_i {S : St} {f i f' i' : Nat} {g : Nat → Int32} (h : i' ≠ i) : st_up S f i g f' i' = S f' i' := by rw [up_row, if_neg (fun q => h q.2)]
theorem up_s {S : St} {f i : Nat} {g : Nat → Int32} : st_up S f i g f i = g := by rw [up_row, if_pos ⟨rfl, rfl⟩]
theorem FxS.up {P : Nat → Prop} {i f : Nat} {X : St} {g : Nat → Int32} (h : P f) : FxS P i X (st_up X f i g) := fun f' j q => by rw [up_row, if_neg (fun z => q ⟨z.2, by rw [z.1]; exact h⟩)]
theorem cl0 : (0 : Int32).toNatClampNeg = 0 := by decide
theorem cl30 : (30 : Int32).toNatClampNeg = 30 := by decide
theorem cl5 : (5 : Int32).toNatClampNeg = 5 := by decide
theorem cl66 : (mn32 6 6).toNatClampNeg = 6 := by decide
theorem cp30 : cpOk 30 0 0 30 30 = true := by decide
theorem cp66 : cpOk (mn32 6 6) 0 0 6 6 = true := by decide
theorem cpy_i {f g : Nat → Int32} {n k : Nat} (h : k < n) : va_cpy f g 0 0 n k = f k := by
  unfold va_cpy
  rw [if_pos (by omega), show 0 + (k - 0) = k by omega]
def shCp (S : St) (i j : Nat) : St := st_wr (st_wr (st_wr (st_wr (st_wr (st_wr (st_wr (st_wr (st_wr (st_up S 512 i (va_cpy (S 512 j) (S 512 i) 0 0 30)) 513 i 0 (S 513 j 0)) 514 i 0 (S 514 j 0)) 515 i 0 (S 515 j 0)) 516 i 0 (S 516 j 0)) 517 i 0 (S 517 j 0)) 518 i 0 (S 518 j 0)) 519 i 0 (S 519 j 0)) 520 i 0 (S 520 j 0)) 521 i 0 (S 521 j 0)
theorem Sh_copy {S : St} {i j : Nat} : f_Sh_copyFrom i j S = some (shCp S i j) := by
  rw [uf_Sh_copyFrom, cp30, cond_true, ul_Sh_copyFrom_31, ul_Sh_copyFrom_55, uf_Sh_hang, Option.bind_some]
  simp (disch := omega) only [wr_f, up_f, cl0, cl30]
  rfl
theorem shCp_fr {S : St} {i j : Nat} : FxS cpX i S (shCp S i j) :=
  FxS.tr (FxS.tr (FxS.tr (FxS.tr (FxS.tr (FxS.tr (FxS.tr (FxS.tr (FxS.tr (FxS.up (by unfold cpX; omega)) (FxS.wr (by unfold cpX; omega))) (FxS.wr (by unfold cpX; omega))) (FxS.wr (by unfold cpX; omega))) (FxS.wr (by unfold cpX; omega))) (FxS.wr (by unfold cpX; omega))) (FxS.wr (by unfold cpX; omega))) (FxS.wr (by unfold cpX; omega))) (FxS.wr (by unfold cpX; omega))) (FxS.wr (by unfold cpX; omega))
theorem shCp_z {S : St} {i j k : Nat} (hk : k < 30) : shCp S i j 512 i k = S 512 j k := by
  unfold shCp
  rw [wr_f (by omega), wr_f (by omega), wr_f (by omega), wr_f (by omega), wr_f (by omega), wr_f (by omega), wr_f (by omega), wr_f (by omega), wr_f (by omega), up_s, cpy_i hk]
theorem shCp_f {S : St} {i j f : Nat} (hf : 513 ≤ f ∧ f ≤ 521) : shCp S i j f i 0 = S f j 0 := by
  unfold shCp
  obtain rfl | rfl | rfl | rfl | rfl | rfl | rfl | rfl | rfl : f = 513 ∨ f = 514 ∨ f = 515 ∨ f = 516 ∨ f = 517 ∨ f = 518 ∨ f = 519 ∨ f = 520 ∨ f = 521 := by omega
  all_goals simp (disch := omega) only [wr_f, wr_s]
/-- a copy stands in the same relation to a row -/
theorem spk_cp {X X' : St} {i j : Nat} {r : Int → Int32} {Fm a b u F w v s : Int} {z : Int → Int} (h : SPk X j r Fm a b u F w v s z) (q1 : ∀ k : Nat, k < 30 → X' 512 i k = X 512 j k) (q2 : ∀ f, 513 ≤ f ∧ f ≤ 521 → X' f i 0 = X f j 0) : SPk X' i r Fm a b u F w v s z := by
  obtain ⟨h1, h5, h6, h7, h8, h9, h10, h11, h12, h13, h14, h15, h16, h17, h18, h19, h20, h21, h22, h23⟩ := h
  refine ⟨h1, ?_, ?_, ?_, h8, h9, ?_, h11, h12, ?_, h14, h15, ?_, h17, h18, ?_, h20, ?_, ?_, fun l hl => ?_⟩
  · rw [q2 513 (by omega), h5]
  · rw [q2 514 (by omega), h6]
  · rw [q2 515 (by omega), h7]
  · rw [q2 516 (by omega), h10]
  · rw [q2 519 (by omega), h13]
  · rw [q2 520 (by omega), h16]
  · rw [q2 521 (by omega), h19]
  · rw [q2 517 (by omega), h21]
  · rw [q2 518 (by omega), h22]
  · rw [q1 l.toNat (by omega)]; exact h23 l hl
theorem spk_shCp {X : St} {i j : Nat} {r : Int → Int32} {Fm a b u F w v s : Int} {z : Int → Int} (h : SPk X j r Fm a b u F w v s z) : SPk (shCp X i j) i r Fm a b u F w v s z := spk_cp h (fun k hk => shCp_z hk) (fun f hf => shCp_f hf)
/-- a row is held, and put back -/
theorem holds_l {c : Nat} (hc : c < 5) : ∀ (k : Nat) (x : Int) (M : St), x + k = 136 → 0 ≤ x → ∃ M', l_m_holds_2 (iI c) (iI x) M = some M' ∧ (∀ f j, f ≠ 783 → M' f j = M f j) ∧ (∀ y : Nat, (y : Int) < x → M' 783 0 y = M 783 0 y) ∧ ∀ y : Nat, x ≤ y → y < 136 → M' 783 0 y = rw_ M c y
  | 0, x, M, h1, h2 => ⟨M, by rw [ul_m_holds_2]; simp (maxSteps := 2000000) (disch := omega) only [Int.toNat_natCast, bif_d, bif_n, cond_true, cond_false, Option.bind_some, Option.bind_none, Option.elim_some, Option.elim_none, iI_add, iI_sub, iI_mul, iI_neg, iI_lt, iI_le, iI_eq, inb_t, iI_cl, bI_0, bI_1, zn_b, zn_i0, zn_i1, if_pos, if_neg, if_true, if_false, reduceIte, not_true_eq_false, not_false_eq_true, and_true, true_and, and_self, li_0, li_1, li_2, li_3, li_4, li_5, li_6, li_7, li_8, li_9, li_10, li_11, li_12, li_13, li_14, li_15, li_16, li_17, li_18, li_19, li_20, li_21, li_22, li_23, li_24, li_25, li_26, li_27, li_28, li_29, li_30, li_31, li_32, li_33, li_34, li_35, li_36, li_37, li_38, li_39, li_40, li_41, li_42, li_43, li_44, li_45, li_46, li_47, li_48, li_49, li_50, li_51, li_52, li_53, li_54, li_55, li_56, li_57, li_58, li_59, li_60, li_61, li_62, li_63, li_64, li_90, li_99, li_100, li_104, li_115, li_120, li_121, li_122, li_123, li_124, li_125, li_126, li_127, li_128, li_129, li_130, li_131, li_132, li_133, li_134, li_135, li_136, li_199, li_200, li_255, li_256, li_512, li_680, li_999, li_1000, li_1194, li_1199, li_1200, li_9999, li_10000, li_27064, li_27200, li_99999, li_1000000000, li_2000000000, iL_of, lL_0, lL_1, lL_3, lL_5, lL_8, lL_9, lL_11, lL_17, lL_29, lL_60, lL_99, lL_999, lL_9999, lL_99999, m_isInL, m_outL, x_out, x_ref, m_no, oI_l, oI_g, oI_i, wr_s, wr_f, wr_j, wr_i, rs_f, rw_rs], fun _ _ _ => rfl, fun _ _ => rfl, fun y h3 h4 => by omega⟩
  | k + 1, x, M, h1, h2 => by
    obtain ⟨M', p1, p2, p3, p4⟩ := holds_l hc k (x + 1) (st_wr M 783 0 x.toNat (rw_ M c x)) (by omega) (by omega)
    refine ⟨M', ?_, fun f j hf => by rw [p2 f j hf, wr_f hf], fun y hy => ?_, fun y h3 h4 => ?_⟩
    · rw [ul_m_holds_2]; simp (maxSteps := 2000000) (disch := omega) only [Int.toNat_natCast, bif_d, bif_n, cond_true, cond_false, Option.bind_some, Option.bind_none, Option.elim_some, Option.elim_none, iI_add, iI_sub, iI_mul, iI_neg, iI_lt, iI_le, iI_eq, inb_t, iI_cl, bI_0, bI_1, zn_b, zn_i0, zn_i1, if_pos, if_neg, if_true, if_false, reduceIte, not_true_eq_false, not_false_eq_true, and_true, true_and, and_self, li_0, li_1, li_2, li_3, li_4, li_5, li_6, li_7, li_8, li_9, li_10, li_11, li_12, li_13, li_14, li_15, li_16, li_17, li_18, li_19, li_20, li_21, li_22, li_23, li_24, li_25, li_26, li_27, li_28, li_29, li_30, li_31, li_32, li_33, li_34, li_35, li_36, li_37, li_38, li_39, li_40, li_41, li_42, li_43, li_44, li_45, li_46, li_47, li_48, li_49, li_50, li_51, li_52, li_53, li_54, li_55, li_56, li_57, li_58, li_59, li_60, li_61, li_62, li_63, li_64, li_90, li_99, li_100, li_104, li_115, li_120, li_121, li_122, li_123, li_124, li_125, li_126, li_127, li_128, li_129, li_130, li_131, li_132, li_133, li_134, li_135, li_136, li_199, li_200, li_255, li_256, li_512, li_680, li_999, li_1000, li_1194, li_1199, li_1200, li_9999, li_10000, li_27064, li_27200, li_99999, li_1000000000, li_2000000000, iL_of, lL_0, lL_1, lL_3, lL_5, lL_8, lL_9, lL_11, lL_17, lL_29, lL_60, lL_99, lL_999, lL_9999, lL_99999, m_isInL, m_outL, x_out, x_ref, m_no, oI_l, oI_g, oI_i, wr_s, wr_f, wr_j, wr_i, rs_f, rw_rs, m_get]; exact p1
    · rw [p3 y (by omega), wr_j (by omega)]
    · by_cases e : (y : Int) = x
      · rw [p3 y (by omega), show y = x.toNat by omega, wr_s, show ((x.toNat : Nat) : Int) = x by omega]
      · rw [p4 y (by omega) h4]
        unfold rw_
        rw [wr_f (by omega)]
theorem m_holds {M : St} {c : Nat} (hc : c < 5) : ∃ M', f_m_holds (iI c) M = some M' ∧ (∀ f j, f ≠ 783 → M' f j = M f j) ∧ ∀ y : Nat, y < 136 → M' 783 0 y = rw_ M c y := by
  obtain ⟨M', p1, p2, p3, p4⟩ := holds_l hc 136 0 M (by omega) (by omega)
  exact ⟨M', by rw [uf_m_holds]; simp (maxSteps := 2000000) (disch := omega) only [Int.toNat_natCast, bif_d, bif_n, cond_true, cond_false, Option.bind_some, Option.bind_none, Option.elim_some, Option.elim_none, iI_add, iI_sub, iI_mul, iI_neg, iI_lt, iI_le, iI_eq, inb_t, iI_cl, bI_0, bI_1, zn_b, zn_i0, zn_i1, if_pos, if_neg, if_true, if_false, reduceIte, not_true_eq_false, not_false_eq_true, and_true, true_and, and_self, li_0, li_1, li_2, li_3, li_4, li_5, li_6, li_7, li_8, li_9, li_10, li_11, li_12, li_13, li_14, li_15, li_16, li_17, li_18, li_19, li_20, li_21, li_22, li_23, li_24, li_25, li_26, li_27, li_28, li_29, li_30, li_31, li_32, li_33, li_34, li_35, li_36, li_37, li_38, li_39, li_40, li_41, li_42, li_43, li_44, li_45, li_46, li_47, li_48, li_49, li_50, li_51, li_52, li_53, li_54, li_55, li_56, li_57, li_58, li_59, li_60, li_61, li_62, li_63, li_64, li_90, li_99, li_100, li_104, li_115, li_120, li_121, li_122, li_123, li_124, li_125, li_126, li_127, li_128, li_129, li_130, li_131, li_132, li_133, li_134, li_135, li_136, li_199, li_200, li_255, li_256, li_512, li_680, li_999, li_1000, li_1194, li_1199, li_1200, li_9999, li_10000, li_27064, li_27200, li_99999, li_1000000000, li_2000000000, iL_of, lL_0, lL_1, lL_3, lL_5, lL_8, lL_9, lL_11, lL_17, lL_29, lL_60, lL_99, lL_999, lL_9999, lL_99999, m_isInL, m_outL, x_out, x_ref, m_no, oI_l, oI_g, oI_i, wr_s, wr_f, wr_j, wr_i, rs_f, rw_rs]; exact p1, p2, fun y hy => p4 y (by omega) hy⟩
theorem puts_l {c : Nat} (hc : c < 5) : ∀ (k : Nat) (x : Int) (M : St), x + k = 136 → 0 ≤ x → ∃ M', l_m_putsBack_2 (iI c) (iI x) M = some M' ∧ FmS (fun k => x ≤ k) c M M' ∧ ∀ y : Nat, x ≤ y → y < 136 → rw_ M' c y = M 783 0 y
  | 0, x, M, h1, h2 => ⟨M, by rw [ul_m_putsBack_2]; simp (maxSteps := 2000000) (disch := omega) only [Int.toNat_natCast, bif_d, bif_n, cond_true, cond_false, Option.bind_some, Option.bind_none, Option.elim_some, Option.elim_none, iI_add, iI_sub, iI_mul, iI_neg, iI_lt, iI_le, iI_eq, inb_t, iI_cl, bI_0, bI_1, zn_b, zn_i0, zn_i1, if_pos, if_neg, if_true, if_false, reduceIte, not_true_eq_false, not_false_eq_true, and_true, true_and, and_self, li_0, li_1, li_2, li_3, li_4, li_5, li_6, li_7, li_8, li_9, li_10, li_11, li_12, li_13, li_14, li_15, li_16, li_17, li_18, li_19, li_20, li_21, li_22, li_23, li_24, li_25, li_26, li_27, li_28, li_29, li_30, li_31, li_32, li_33, li_34, li_35, li_36, li_37, li_38, li_39, li_40, li_41, li_42, li_43, li_44, li_45, li_46, li_47, li_48, li_49, li_50, li_51, li_52, li_53, li_54, li_55, li_56, li_57, li_58, li_59, li_60, li_61, li_62, li_63, li_64, li_90, li_99, li_100, li_104, li_115, li_120, li_121, li_122, li_123, li_124, li_125, li_126, li_127, li_128, li_129, li_130, li_131, li_132, li_133, li_134, li_135, li_136, li_199, li_200, li_255, li_256, li_512, li_680, li_999, li_1000, li_1194, li_1199, li_1200, li_9999, li_10000, li_27064, li_27200, li_99999, li_1000000000, li_2000000000, iL_of, lL_0, lL_1, lL_3, lL_5, lL_8, lL_9, lL_11, lL_17, lL_29, lL_60, lL_99, lL_999, lL_9999, lL_99999, m_isInL, m_outL, x_out, x_ref, m_no, oI_l, oI_g, oI_i, wr_s, wr_f, wr_j, wr_i, rs_f, rw_rs], FmS.refl M, fun y h3 h4 => by omega⟩
  | k + 1, x, M, h1, h2 => by
    obtain ⟨M', p1, p2, p3⟩ := puts_l hc k (x + 1) (rs_ M c x (M 783 0 x.toNat)) (by omega) (by omega)
    refine ⟨M', ?_, (FmS.wr hc (by omega) (Int.le_refl x)).tr (p2.mo (fun k q => by omega)), fun y h3 h4 => ?_⟩
    · rw [ul_m_putsBack_2]; simp (maxSteps := 2000000) (disch := omega) only [Int.toNat_natCast, bif_d, bif_n, cond_true, cond_false, Option.bind_some, Option.bind_none, Option.elim_some, Option.elim_none, iI_add, iI_sub, iI_mul, iI_neg, iI_lt, iI_le, iI_eq, inb_t, iI_cl, bI_0, bI_1, zn_b, zn_i0, zn_i1, if_pos, if_neg, if_true, if_false, reduceIte, not_true_eq_false, not_false_eq_true, and_true, true_and, and_self, li_0, li_1, li_2, li_3, li_4, li_5, li_6, li_7, li_8, li_9, li_10, li_11, li_12, li_13, li_14, li_15, li_16, li_17, li_18, li_19, li_20, li_21, li_22, li_23, li_24, li_25, li_26, li_27, li_28, li_29, li_30, li_31, li_32, li_33, li_34, li_35, li_36, li_37, li_38, li_39, li_40, li_41, li_42, li_43, li_44, li_45, li_46, li_47, li_48, li_49, li_50, li_51, li_52, li_53, li_54, li_55, li_56, li_57, li_58, li_59, li_60, li_61, li_62, li_63, li_64, li_90, li_99, li_100, li_104, li_115, li_120, li_121, li_122, li_123, li_124, li_125, li_126, li_127, li_128, li_129, li_130, li_131, li_132, li_133, li_134, li_135, li_136, li_199, li_200, li_255, li_256, li_512, li_680, li_999, li_1000, li_1194, li_1199, li_1200, li_9999, li_10000, li_27064, li_27200, li_99999, li_1000000000, li_2000000000, iL_of, lL_0, lL_1, lL_3, lL_5, lL_8, lL_9, lL_11, lL_17, lL_29, lL_60, lL_99, lL_999, lL_9999, lL_99999, m_isInL, m_outL, x_out, x_ref, m_no, oI_l, oI_g, oI_i, wr_s, wr_f, wr_j, wr_i, rs_f, rw_rs, m_set]; exact p1
    · by_cases e : (y : Int) = x
      · rw [p2.2 c y hc (by omega) (by omega) (by omega), e, rs_s hc (by omega), show y = x.toNat by omega]
      · rw [p3 y (by omega) h4, rs_f (by omega)]
theorem m_puts {M : St} {c : Nat} (hc : c < 5) : ∃ M', f_m_putsBack (iI c) M = some M' ∧ FmS (fun _ => True) c M M' ∧ ∀ y : Nat, y < 136 → rw_ M' c y = M 783 0 y := by
  obtain ⟨M', p1, p2, p3⟩ := puts_l hc 136 0 M (by omega) (by omega)
  exact ⟨M', by rw [uf_m_putsBack]; simp (maxSteps := 2000000) (disch := omega) only [Int.toNat_natCast, bif_d, bif_n, cond_true, cond_false, Option.bind_some, Option.bind_none, Option.elim_some, Option.elim_none, iI_add, iI_sub, iI_mul, iI_neg, iI_lt, iI_le, iI_eq, inb_t, iI_cl, bI_0, bI_1, zn_b, zn_i0, zn_i1, if_pos, if_neg, if_true, if_false, reduceIte, not_true_eq_false, not_false_eq_true, and_true, true_and, and_self, li_0, li_1, li_2, li_3, li_4, li_5, li_6, li_7, li_8, li_9, li_10, li_11, li_12, li_13, li_14, li_15, li_16, li_17, li_18, li_19, li_20, li_21, li_22, li_23, li_24, li_25, li_26, li_27, li_28, li_29, li_30, li_31, li_32, li_33, li_34, li_35, li_36, li_37, li_38, li_39, li_40, li_41, li_42, li_43, li_44, li_45, li_46, li_47, li_48, li_49, li_50, li_51, li_52, li_53, li_54, li_55, li_56, li_57, li_58, li_59, li_60, li_61, li_62, li_63, li_64, li_90, li_99, li_100, li_104, li_115, li_120, li_121, li_122, li_123, li_124, li_125, li_126, li_127, li_128, li_129, li_130, li_131, li_132, li_133, li_134, li_135, li_136, li_199, li_200, li_255, li_256, li_512, li_680, li_999, li_1000, li_1194, li_1199, li_1200, li_9999, li_10000, li_27064, li_27200, li_99999, li_1000000000, li_2000000000, iL_of, lL_0, lL_1, lL_3, lL_5, lL_8, lL_9, lL_11, lL_17, lL_29, lL_60, lL_99, lL_999, lL_9999, lL_99999, m_isInL, m_outL, x_out, x_ref, m_no, oI_l, oI_g, oI_i, wr_s, wr_f, wr_j, wr_i, rs_f, rw_rs]; exact p1, p2.mo (fun _ _ => trivial), fun y hy => p3 y (by omega) hy⟩
theorem CvR.fr2 {X X' M M' : St} {n n' cnt : Nat} (h : CvR X M n cnt) (hn : n ≤ n') (hX : ∀ f, cvX f → ∀ i, i < 5 → X' f i = X f i) (hM : ∀ f, cvM f → f ≠ 780 → M' f 0 = M f 0) (hr : ∀ (c : Nat) k, c < 5 → 0 ≤ k → k < 136 → rw_ M' c k = rw_ M c k) : CvR X' M' n' cnt := by
  obtain ⟨h1, h2, h3, h4, h5, h6⟩ := h
  refine ⟨h1, ?_, ?_, fun c hc => ?_, fun c hc => ?_, fun c hc => ?_⟩
  · rw [hX 707 (by unfold cvX; omega) 0 (by omega)]; exact h2
  · rw [hM 781 (by unfold cvM; omega) (by omega)]; exact h3
  · exact (h4 c hc).fr (fun f hf => hX f (Or.inl hf) c hc) (fun k => hr c k hc) (fun f a b d => hM f (by unfold cvM; omega) (by omega))
  · exact (h5 c hc).fr hn (fun f a b => hX f (by unfold cvX; omega) c (by omega)) (hX 197 (by unfold cvX kF; omega) c (by omega)) (fun k => hr c k (by omega)) (fun f a b => hM f (by unfold cvM; omega) (by omega))
  · exact (h6 c hc).fr (fun k => hr c k (by omega))
/-- only rows' places change, and their values don't -/
theorem rel_rows {n : Nat} {X M M' : St} (h : Rel n X M) (hM : ∀ f, f ≠ 780 → M' f 0 = M f 0) (hr : ∀ (c : Nat) k, c < 5 → 0 ≤ k → k < 136 → rw_ M' c k = rw_ M c k) : Rel n X M' := by
  obtain ⟨cnt, r1, r2, r3, r4, r5, r6, r7, r8, r9, r10, r11, r12, r13, r14⟩ := h
  exact ⟨cnt, r1.fr2 (Nat.le_refl n) (fun _ _ _ _ => rfl) (fun f _ q => hM f q) hr, r2.fr (Nat.le_refl n) (Nat.le_refl _) r1.1 (fun _ _ _ _ => rfl) (fun _ _ => ⟨rfl, rfl⟩) (fun f _ _ => hM f (by omega)) (fun c k hc hk => hr c k hc (by omega) (by omega)), r3.fr rfl rfl (hM 769 (by omega)) (hM 773 (by omega)), r4.fr rfl (hM 770 (by omega)), r5.fr rfl (hM 782 (by omega)), r6.fr rfl (hM 784 (by omega)), r7.fr rfl (hM 785 (by omega)) rfl (hM 788 (by omega)) rfl (hM 786 (by omega)), r8.fr rfl (hM 787 (by omega)), r9.fr (fun _ _ _ => rfl) (fun f _ _ => hM f (by omega)), r10.fr rfl (hM 768 (by omega)), r11.fr rfl (hM 802 (by omega)), r12.fr rfl (hM 804 (by omega)), r13.fr (fun _ _ _ => rfl) (fun f _ _ _ _ => hM f (by omega)), r14⟩
/-- only scratch and rows' places change -/
theorem rel_scr2 {n n' : Nat} {X X' M M' : St} (h : Rel n X M) (hn : n ≤ n') (kX : ∀ f i, ¬ scrX f → (f < 512 ∨ 521 < f ∨ i < 5 ∨ 12 ≤ i) → X' f i = X f i) (kM : ∀ f, ¬ scrM f → f ≠ 780 → M' f 0 = M f 0) (hr : ∀ (c : Nat) k, c < 5 → 0 ≤ k → k < 136 → rw_ M' c k = rw_ M c k) : Rel n' X' M' := by
  refine rel_rows (M := fun f i => if f = 780 then M f i else M' f i) (rel_scr h hn kX (fun f hf => ?_)) (fun f hf => ?_) (fun c k a b d => ?_)
  · by_cases e : f = 780
    · show (if f = 780 then M f 0 else M' f 0) = _
      rw [if_pos e]
    · show (if f = 780 then M f 0 else M' f 0) = _
      rw [if_neg e, kM f hf e]
  · show _ = (if f = 780 then M f 0 else M' f 0)
    rw [if_neg hf]
  · rw [hr c k a b d]
    unfold rw_
    show _ = (if 780 = 780 then M 780 0 else M' 780 0) _
    rw [if_pos rfl]
