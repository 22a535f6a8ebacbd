section PS
variable {X M S T : St} {t : Nat} {B : Nat → Int} {p tl dp mc : Int}
set_option maxHeartbeats 2000000 in
theorem turn_e (hT : TxI X M t B) (h : PsI X M t S T p tl dp mc) (hp : p < t) (g115 : ¬ sgI t B p = 115) (g104 : ¬ sgI t B p = 104) (g100 : ¬ sgI t B p = 100) (g40 : ¬ sgI t B p = 40) (g41 : ¬ sgI t B p = 41) : TnO X M t S T p mc := by
  unfold TnO
  have h0 := h
  obtain ⟨h1, h2, h3, h4, h5, h6, h7, h8, h9, h10, h11, h12, h13, s, h14, h15, h16, h17⟩ := h
  have t60 := hT.1
  have hsg := sg_b hT h3.1
  have xb := x_byte hT h1 (p := p) (by omega)
  have ms := m_sgn hT h2 (p := p) (by omega) h5
  have hA := h0.at_ (q := p + 1) (by omega)
  have e775 : (st_wr T 774 0 0 (iI (p + 1))) 775 0 0 = iI tl := by rw [wr_f (by omega), h8]
  -- a fault where it stands
  have flt : RsX X (st_wr S 135 0 0 (iI p)) ∧ RsM M T := ⟨h1.wr (by omega), h2⟩
  have ee : ∀ k : Int, -2147483648 ≤ k ∧ k < 2147483648 → ¬ sgI t B p = k → decide (iI (sgI t B p) = iI k) = false := fun k hk h => decide_eq_false (fun q => h ((iI_eq (by omega) hk).mp q))
  refine Or.inr ⟨st_wr S 135 0 0 (iI p), T, p, ?_, ?_, flt.1, flt.2, h3, wr_s, h5⟩
  · rw [uf_Bt_readPart, h4, xb, Option.bind_some]; simp only [cond_true, cond_false, Bool.not_true, Bool.not_false, Option.bind_some, li_115, li_104, li_100, li_40, li_41, ee 115 (by omega) g115, ee 104 (by omega) g104, ee 100 (by omega) g100, ee 40 (by omega) g40, ee 41 (by omega) g41]; first | done | (simp (maxSteps := 2000000) (disch := omega) only [Int.toNat_natCast, bif_d, bif_n, cond_true, cond_false, Option.bind_some, Option.bind_none, Option.elim_some, Option.elim_none, iI_add, iI_sub, iI_mul, iI_neg, iI_lt, iI_le, iI_eq, inb_t, iI_cl, bI_0, bI_1, zn_b, zn_i0, zn_i1, if_pos, if_neg, if_true, if_false, reduceIte, not_true_eq_false, not_false_eq_true, and_true, true_and, and_self, li_0, li_1, li_2, li_3, li_4, li_5, li_6, li_7, li_8, li_9, li_10, li_11, li_12, li_13, li_14, li_15, li_16, li_17, li_18, li_19, li_20, li_21, li_22, li_23, li_24, li_25, li_26, li_27, li_28, li_29, li_30, li_31, li_32, li_33, li_34, li_35, li_36, li_37, li_38, li_39, li_40, li_41, li_42, li_43, li_44, li_45, li_46, li_47, li_48, li_49, li_50, li_51, li_52, li_53, li_54, li_55, li_56, li_57, li_58, li_59, li_60, li_61, li_62, li_63, li_64, li_90, li_99, li_100, li_104, li_115, li_120, li_121, li_122, li_123, li_124, li_125, li_126, li_127, li_128, li_129, li_130, li_131, li_132, li_133, li_134, li_135, li_136, li_199, li_200, li_255, li_256, li_512, li_680, li_999, li_1000, li_1194, li_1199, li_1200, li_9999, li_10000, li_27064, li_27200, li_99999, li_1000000000, li_2000000000, iL_of, lL_0, lL_1, lL_3, lL_5, lL_8, lL_9, lL_11, lL_17, lL_29, lL_60, lL_99, lL_999, lL_9999, lL_99999, m_isInL, m_outL, x_out, x_ref, m_no, oI_l, oI_g, oI_i, wr_s, wr_f, wr_j, wr_i, rs_f, rw_rs, ↓bif_d, ↓bif_n, ↓reduceIte, lt_t, lt_f, le_t, le_f, eq_t, eq_f, h4, xb, li_40, li_41])
  · rw [ul_m_parses_17, ms, Option.bind_some]; simp only [cond_true, cond_false, Bool.not_true, Bool.not_false, Option.bind_some, li_115, li_104, li_100, li_40, li_41, ee 115 (by omega) g115, ee 104 (by omega) g104, ee 100 (by omega) g100, ee 40 (by omega) g40, ee 41 (by omega) g41]; first | done | (simp (maxSteps := 2000000) (disch := omega) only [Int.toNat_natCast, bif_d, bif_n, cond_true, cond_false, Option.bind_some, Option.bind_none, Option.elim_some, Option.elim_none, iI_add, iI_sub, iI_mul, iI_neg, iI_lt, iI_le, iI_eq, inb_t, iI_cl, bI_0, bI_1, zn_b, zn_i0, zn_i1, if_pos, if_neg, if_true, if_false, reduceIte, not_true_eq_false, not_false_eq_true, and_true, true_and, and_self, li_0, li_1, li_2, li_3, li_4, li_5, li_6, li_7, li_8, li_9, li_10, li_11, li_12, li_13, li_14, li_15, li_16, li_17, li_18, li_19, li_20, li_21, li_22, li_23, li_24, li_25, li_26, li_27, li_28, li_29, li_30, li_31, li_32, li_33, li_34, li_35, li_36, li_37, li_38, li_39, li_40, li_41, li_42, li_43, li_44, li_45, li_46, li_47, li_48, li_49, li_50, li_51, li_52, li_53, li_54, li_55, li_56, li_57, li_58, li_59, li_60, li_61, li_62, li_63, li_64, li_90, li_99, li_100, li_104, li_115, li_120, li_121, li_122, li_123, li_124, li_125, li_126, li_127, li_128, li_129, li_130, li_131, li_132, li_133, li_134, li_135, li_136, li_199, li_200, li_255, li_256, li_512, li_680, li_999, li_1000, li_1194, li_1199, li_1200, li_9999, li_10000, li_27064, li_27200, li_99999, li_1000000000, li_2000000000, iL_of, lL_0, lL_1, lL_3, lL_5, lL_8, lL_9, lL_11, lL_17, lL_29, lL_60, lL_99, lL_999, lL_9999, lL_99999, m_isInL, m_outL, x_out, x_ref, m_no, oI_l, oI_g, oI_i, wr_s, wr_f, wr_j, wr_i, rs_f, rw_rs, ↓bif_d, ↓bif_n, ↓reduceIte, lt_t, lt_f, le_t, le_f, eq_t, eq_f, ms, li_40, li_41])
theorem turn_b (hT : TxI X M t B) (h : PsI X M t S T p tl dp mc) (hp : p < t) : (∃ S' T' p' tl' dp' mc', f_Bt_readPart S = some S' ∧ l_m_parses_17 (iI mc) T = l_m_parses_17 (iI mc') T' ∧ PsI X M t S' T' p' tl' dp' mc' ∧ p < p') ∨ (∃ S' T' p', f_Bt_readPart S = some S' ∧ l_m_parses_17 (iI mc) T = some (iI 0, T') ∧ PsF X M t S' T' p') := by
  by_cases g115 : sgI t B p = 115
  · exact turn_115 hT h hp g115
  by_cases g104 : sgI t B p = 104
  · exact turn_104 hT h hp g104
  by_cases g100 : sgI t B p = 100
  · exact turn_100 hT h hp g100
  by_cases g40 : sgI t B p = 40
  · exact turn_40 hT h hp g40
  by_cases g41 : sgI t B p = 41
  · exact turn_41 hT h hp g41
  exact turn_e hT h hp g115 g104 g100 g40 g41
end PS
