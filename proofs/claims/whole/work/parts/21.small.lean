/-! SMALL METHODS -/
/-- a place of a cavern's row -/
def rw_ (M : St) (c k : Int) : Int32 := M 780 0 (136 * c + k).toNat
def rs_ (M : St) (c k : Int) (v : Int32) : St := st_wr M 780 0 (136 * c + k).toNat v
theorem rw_rs {M : St} {c k c' k' : Int} {v : Int32} (hc : 0 ≤ c ∧ c < 200) (hk : 0 ≤ k ∧ k < 136) (hc' : 0 ≤ c' ∧ c' < 200) (hk' : 0 ≤ k' ∧ k' < 136) : rw_ (rs_ M c k v) c' k' = if c' = c ∧ k' = k then v else rw_ M c' k' := by
  unfold rw_ rs_
  rw [wr_ap]
  by_cases h : c' = c ∧ k' = k
  · rw [if_pos h, if_pos ⟨rfl, rfl, by rw [h.1, h.2]⟩]
  · rw [if_neg h, if_neg (fun q => h (by obtain ⟨-, -, q⟩ := q; omega))]
theorem rs_o {M : St} {c k : Int} {v : Int32} {f i j : Nat} (h : f ≠ 780) : rs_ M c k v f i j = M f i j := by
  unfold rs_
  rw [wr_ap, if_neg (fun q => h q.1)]
theorem m_get {M : St} {c k : Int} (hc : 0 ≤ c ∧ c < 5) (hk : 0 ≤ k ∧ k < 136) : f_m_get (iI c) (iI k) M = some (rw_ M c k, M) := by
  rw [uf_m_get]
  simp (disch := omega) only [bif_d, bif_n, cond_true, cond_false, Option.bind_some, Option.bind_none, Option.elim_some, Option.elim_none, iI_add, iI_sub, iI_mul, iI_neg, iI_lt, iI_le, iI_eq, inb_t, iI_cl, bI_0, bI_1, zn_b, zn_i0, zn_i1, if_pos, if_neg, li_0, li_1, li_2, li_3, li_4, li_5, li_6, li_7, li_8, li_9, li_10, li_12, li_13, li_16, li_20, li_30, li_40, li_41, li_48, li_57, li_58, li_60, li_90, li_99, li_100, li_104, li_115, li_120, li_121, li_122, li_123, li_124, li_125, li_126, li_127, li_128, li_129, li_130, li_131, li_132, li_133, li_134, li_135, li_136, li_200, li_255, li_256, li_512, li_680, li_999, li_1000, li_1199, li_1200, li_10000, li_27200, li_99999, li_1000000000, li_2000000000, li_9999]
  rfl
theorem m_set {M : St} {c k : Int} {v : Int32} (hc : 0 ≤ c ∧ c < 5) (hk : 0 ≤ k ∧ k < 136) : f_m_set (iI c) (iI k) v M = some (rs_ M c k v) := by
  rw [uf_m_set]
  simp (disch := omega) only [bif_d, bif_n, cond_true, cond_false, Option.bind_some, Option.bind_none, Option.elim_some, Option.elim_none, iI_add, iI_sub, iI_mul, iI_neg, iI_lt, iI_le, iI_eq, inb_t, iI_cl, bI_0, bI_1, zn_b, zn_i0, zn_i1, if_pos, if_neg, li_0, li_1, li_2, li_3, li_4, li_5, li_6, li_7, li_8, li_9, li_10, li_12, li_13, li_16, li_20, li_30, li_40, li_41, li_48, li_57, li_58, li_60, li_90, li_99, li_100, li_104, li_115, li_120, li_121, li_122, li_123, li_124, li_125, li_126, li_127, li_128, li_129, li_130, li_131, li_132, li_133, li_134, li_135, li_136, li_200, li_255, li_256, li_512, li_680, li_999, li_1000, li_1199, li_1200, li_10000, li_27200, li_99999, li_1000000000, li_2000000000, li_9999]
  rfl
theorem m_more {M : St} {c k : Int} {v : Int32} (hc : 0 ≤ c ∧ c < 5) (hk : 0 ≤ k ∧ k < 136) : f_m_more (iI c) (iI k) v M = some (rs_ M c k (rw_ M c k + v)) := by
  rw [uf_m_more]
  simp (disch := omega) only [bif_d, bif_n, cond_true, cond_false, Option.bind_some, Option.bind_none, Option.elim_some, Option.elim_none, iI_add, iI_sub, iI_mul, iI_neg, iI_lt, iI_le, iI_eq, inb_t, iI_cl, bI_0, bI_1, zn_b, zn_i0, zn_i1, if_pos, if_neg, li_0, li_1, li_2, li_3, li_4, li_5, li_6, li_7, li_8, li_9, li_10, li_12, li_13, li_16, li_20, li_30, li_40, li_41, li_48, li_57, li_58, li_60, li_90, li_99, li_100, li_104, li_115, li_120, li_121, li_122, li_123, li_124, li_125, li_126, li_127, li_128, li_129, li_130, li_131, li_132, li_133, li_134, li_135, li_136, li_200, li_255, li_256, li_512, li_680, li_999, li_1000, li_1199, li_1200, li_10000, li_27200, li_99999, li_1000000000, li_2000000000, li_9999]
  rfl
theorem m_isRing {M : St} {c l a b : Int} (hc : 0 ≤ c ∧ c < 5) (hl : -2147483648 ≤ l ∧ l < 2147483648) (ha : 0 ≤ a ∧ a < 30) (hb : 0 ≤ b ∧ b < 30) (ea : M 778 0 c.toNat = iI a) (eb : M 779 0 c.toNat = iI b) : f_m_isRing (iI c) (iI l) M = some (bI (a ≤ l ∧ l ≤ b), M) := by
  rw [uf_m_isRing]
  simp (disch := omega) only [bif_d, bif_n, cond_true, cond_false, Option.bind_some, Option.bind_none, Option.elim_some, Option.elim_none, iI_add, iI_sub, iI_mul, iI_neg, iI_lt, iI_le, iI_eq, inb_t, iI_cl, bI_0, bI_1, zn_b, zn_i0, zn_i1, if_pos, if_neg, li_0, li_1, li_2, li_3, li_4, li_5, li_6, li_7, li_8, li_9, li_10, li_12, li_13, li_16, li_20, li_30, li_40, li_41, li_48, li_57, li_58, li_60, li_90, li_99, li_100, li_104, li_115, li_120, li_121, li_122, li_123, li_124, li_125, li_126, li_127, li_128, li_129, li_130, li_131, li_132, li_133, li_134, li_135, li_136, li_200, li_255, li_256, li_512, li_680, li_999, li_1000, li_1199, li_1200, li_10000, li_27200, li_99999, li_1000000000, li_2000000000, li_9999, ea, eb]
  repeat' split
  all_goals first | (rw [bI_f (by omega)]; rfl) | (rw [bI_t (by omega)]; rfl)
theorem m_isFull {M : St} {c l u : Int} (hc : 0 ≤ c ∧ c < 5) (hl : -2147483648 ≤ l ∧ l < 2147483648) (hu : 0 ≤ u ∧ u < 40) (eu : rw_ M c 135 = iI u) : f_m_isFull (iI c) (iI l) M = some (bI (u ≤ l), M) := by
  rw [uf_m_isFull]
  simp (disch := omega) only [bif_d, bif_n, cond_true, cond_false, Option.bind_some, Option.bind_none, Option.elim_some, Option.elim_none, iI_add, iI_sub, iI_mul, iI_neg, iI_lt, iI_le, iI_eq, inb_t, iI_cl, bI_0, bI_1, zn_b, zn_i0, zn_i1, if_pos, if_neg, li_0, li_1, li_2, li_3, li_4, li_5, li_6, li_7, li_8, li_9, li_10, li_12, li_13, li_16, li_20, li_30, li_40, li_41, li_48, li_57, li_58, li_60, li_90, li_99, li_100, li_104, li_115, li_120, li_121, li_122, li_123, li_124, li_125, li_126, li_127, li_128, li_129, li_130, li_131, li_132, li_133, li_134, li_135, li_136, li_200, li_255, li_256, li_512, li_680, li_999, li_1000, li_1199, li_1200, li_10000, li_27200, li_99999, li_1000000000, li_2000000000, li_9999, m_get, eu]
  repeat' split
  all_goals first | (rw [bI_f (by omega)]; rfl) | (rw [bI_t (by omega)]; rfl)
theorem m_isFree {M : St} {c l a b u : Int} (hc : 0 ≤ c ∧ c < 5) (hl : -2147483648 ≤ l ∧ l < 2147483648) (ha : 0 ≤ a ∧ a < 30) (hb : 0 ≤ b ∧ b < 30) (hu : 0 ≤ u ∧ u < 40) (ea : M 778 0 c.toNat = iI a) (eb : M 779 0 c.toNat = iI b) (eu : rw_ M c 135 = iI u) : f_m_isFree (iI c) (iI l) M = some (bI (a ≤ l ∧ l ≤ b ∧ l < u), M) := by
  rw [uf_m_isFree]
  simp (disch := omega) only [bif_d, bif_n, cond_true, cond_false, Option.bind_some, Option.bind_none, Option.elim_some, Option.elim_none, iI_add, iI_sub, iI_mul, iI_neg, iI_lt, iI_le, iI_eq, inb_t, iI_cl, bI_0, bI_1, zn_b, zn_i0, zn_i1, if_pos, if_neg, li_0, li_1, li_2, li_3, li_4, li_5, li_6, li_7, li_8, li_9, li_10, li_12, li_13, li_16, li_20, li_30, li_40, li_41, li_48, li_57, li_58, li_60, li_90, li_99, li_100, li_104, li_115, li_120, li_121, li_122, li_123, li_124, li_125, li_126, li_127, li_128, li_129, li_130, li_131, li_132, li_133, li_134, li_135, li_136, li_200, li_255, li_256, li_512, li_680, li_999, li_1000, li_1199, li_1200, li_10000, li_27200, li_99999, li_1000000000, li_2000000000, li_9999, m_isRing hc hl ha hb ea eb, m_isFull hc hl hu eu]
  repeat' split
  all_goals first | (rw [bI_f (by omega)]; rfl) | (rw [bI_t (by omega)]; rfl)
theorem x_isLevel {S : St} {l : Int} (hl : -2147483648 ≤ l ∧ l < 2147483648) : f_x_isLevel (iI l) S = some (bI (0 ≤ l ∧ l < 30), S) := by
  rw [uf_x_isLevel]
  simp (disch := omega) only [bif_d, bif_n, cond_true, cond_false, Option.bind_some, Option.bind_none, Option.elim_some, Option.elim_none, iI_add, iI_sub, iI_mul, iI_neg, iI_lt, iI_le, iI_eq, inb_t, iI_cl, bI_0, bI_1, zn_b, zn_i0, zn_i1, if_pos, if_neg, li_0, li_1, li_2, li_3, li_4, li_5, li_6, li_7, li_8, li_9, li_10, li_12, li_13, li_16, li_20, li_30, li_40, li_41, li_48, li_57, li_58, li_60, li_90, li_99, li_100, li_104, li_115, li_120, li_121, li_122, li_123, li_124, li_125, li_126, li_127, li_128, li_129, li_130, li_131, li_132, li_133, li_134, li_135, li_136, li_200, li_255, li_256, li_512, li_680, li_999, li_1000, li_1199, li_1200, li_10000, li_27200, li_99999, li_1000000000, li_2000000000, li_9999]
  repeat' split
  all_goals first | (rw [bI_f (by omega)]; rfl) | (rw [bI_t (by omega)]; rfl)
theorem Sh_hasLevel {S : St} {i : Nat} {l a b : Int} (hl : -2147483648 ≤ l ∧ l < 2147483648) (ha : 0 ≤ a ∧ a < 30) (hb : 0 ≤ b ∧ b < 30) (ea : S 513 i 0 = iI a) (eb : S 514 i 0 = iI b) : f_Sh_hasLevel i (iI l) S = some (bI (a ≤ l ∧ l ≤ b), S) := by
  rw [uf_Sh_hasLevel]
  simp (disch := omega) only [bif_d, bif_n, cond_true, cond_false, Option.bind_some, Option.bind_none, Option.elim_some, Option.elim_none, iI_add, iI_sub, iI_mul, iI_neg, iI_lt, iI_le, iI_eq, inb_t, iI_cl, bI_0, bI_1, zn_b, zn_i0, zn_i1, if_pos, if_neg, li_0, li_1, li_2, li_3, li_4, li_5, li_6, li_7, li_8, li_9, li_10, li_12, li_13, li_16, li_20, li_30, li_40, li_41, li_48, li_57, li_58, li_60, li_90, li_99, li_100, li_104, li_115, li_120, li_121, li_122, li_123, li_124, li_125, li_126, li_127, li_128, li_129, li_130, li_131, li_132, li_133, li_134, li_135, li_136, li_200, li_255, li_256, li_512, li_680, li_999, li_1000, li_1199, li_1200, li_10000, li_27200, li_99999, li_1000000000, li_2000000000, li_9999, ea, eb, x_isLevel]
  repeat' split
  all_goals first | (rw [bI_f (by omega)]; rfl) | (rw [bI_t (by omega)]; rfl)
theorem Sh_isOpen {S : St} {i : Nat} {l a b u : Int} (hl : -2147483648 ≤ l ∧ l < 2147483648) (ha : 0 ≤ a ∧ a < 30) (hb : 0 ≤ b ∧ b < 30) (hu : 0 ≤ u ∧ u < 40) (ea : S 513 i 0 = iI a) (eb : S 514 i 0 = iI b) (eu : S 515 i 0 = iI (u - 1)) : f_Sh_isOpen i (iI l) S = some (bI (a ≤ l ∧ l ≤ b ∧ l < u), S) := by
  rw [uf_Sh_isOpen]
  simp (disch := omega) only [bif_d, bif_n, cond_true, cond_false, Option.bind_some, Option.bind_none, Option.elim_some, Option.elim_none, iI_add, iI_sub, iI_mul, iI_neg, iI_lt, iI_le, iI_eq, inb_t, iI_cl, bI_0, bI_1, zn_b, zn_i0, zn_i1, if_pos, if_neg, li_0, li_1, li_2, li_3, li_4, li_5, li_6, li_7, li_8, li_9, li_10, li_12, li_13, li_16, li_20, li_30, li_40, li_41, li_48, li_57, li_58, li_60, li_90, li_99, li_100, li_104, li_115, li_120, li_121, li_122, li_123, li_124, li_125, li_126, li_127, li_128, li_129, li_130, li_131, li_132, li_133, li_134, li_135, li_136, li_200, li_255, li_256, li_512, li_680, li_999, li_1000, li_1199, li_1200, li_10000, li_27200, li_99999, li_1000000000, li_2000000000, li_9999, Sh_hasLevel hl ha hb ea eb, eu]
  repeat' split
  all_goals first | (rw [bI_f (by omega)]; rfl) | (rw [bI_t (by omega)]; rfl)
theorem Sh_sizeAt {S : St} {i : Nat} {l : Int} (hl : 0 ≤ l ∧ l < 30) : f_Sh_sizeAt i (iI l) S = some (S 512 i l.toNat, S) := by
  rw [uf_Sh_sizeAt]
  simp (disch := omega) only [bif_d, bif_n, cond_true, cond_false, Option.bind_some, Option.bind_none, Option.elim_some, Option.elim_none, iI_add, iI_sub, iI_mul, iI_neg, iI_lt, iI_le, iI_eq, inb_t, iI_cl, bI_0, bI_1, zn_b, zn_i0, zn_i1, if_pos, if_neg, li_0, li_1, li_2, li_3, li_4, li_5, li_6, li_7, li_8, li_9, li_10, li_12, li_13, li_16, li_20, li_30, li_40, li_41, li_48, li_57, li_58, li_60, li_90, li_99, li_100, li_104, li_115, li_120, li_121, li_122, li_123, li_124, li_125, li_126, li_127, li_128, li_129, li_130, li_131, li_132, li_133, li_134, li_135, li_136, li_200, li_255, li_256, li_512, li_680, li_999, li_1000, li_1199, li_1200, li_10000, li_27200, li_99999, li_1000000000, li_2000000000, li_9999, x_isLevel]
theorem m_away {S : St} {a : Int} (ha : -2147483648 < a ∧ a < 2147483648) : f_m_away (iI a) S = some (iI (a.natAbs : Int), S) := by
  rw [uf_m_away]
  by_cases h : 0 ≤ a
  · simp (disch := omega) only [bif_d, bif_n, cond_true, cond_false, Option.bind_some, Option.bind_none, Option.elim_some, Option.elim_none, iI_add, iI_sub, iI_mul, iI_neg, iI_lt, iI_le, iI_eq, inb_t, iI_cl, bI_0, bI_1, zn_b, zn_i0, zn_i1, if_pos, if_neg, li_0, li_1, li_2, li_3, li_4, li_5, li_6, li_7, li_8, li_9, li_10, li_12, li_13, li_16, li_20, li_30, li_40, li_41, li_48, li_57, li_58, li_60, li_90, li_99, li_100, li_104, li_115, li_120, li_121, li_122, li_123, li_124, li_125, li_126, li_127, li_128, li_129, li_130, li_131, li_132, li_133, li_134, li_135, li_136, li_200, li_255, li_256, li_512, li_680, li_999, li_1000, li_1199, li_1200, li_10000, li_27200, li_99999, li_1000000000, li_2000000000, li_9999]
    rw [show (a.natAbs : Int) = a by omega]
  · simp (disch := omega) only [bif_d, bif_n, cond_true, cond_false, Option.bind_some, Option.bind_none, Option.elim_some, Option.elim_none, iI_add, iI_sub, iI_mul, iI_neg, iI_lt, iI_le, iI_eq, inb_t, iI_cl, bI_0, bI_1, zn_b, zn_i0, zn_i1, if_pos, if_neg, li_0, li_1, li_2, li_3, li_4, li_5, li_6, li_7, li_8, li_9, li_10, li_12, li_13, li_16, li_20, li_30, li_40, li_41, li_48, li_57, li_58, li_60, li_90, li_99, li_100, li_104, li_115, li_120, li_121, li_122, li_123, li_124, li_125, li_126, li_127, li_128, li_129, li_130, li_131, li_132, li_133, li_134, li_135, li_136, li_200, li_255, li_256, li_512, li_680, li_999, li_1000, li_1199, li_1200, li_10000, li_27200, li_99999, li_1000000000, li_2000000000, li_9999]
    rw [show (a.natAbs : Int) = -a by omega]
