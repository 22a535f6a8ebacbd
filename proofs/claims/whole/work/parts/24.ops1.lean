/-! SIMPLE CALLS -/
theorem wr_f {S : St} {f i j f' i' : Nat} {v : Int32} (h : f' ≠ f) : st_wr S f i j v f' i' = S f' i' := st_wr_ne (fun q => h q.1)
theorem wr_i {S : St} {f i j f' i' : Nat} {v : Int32} (h : i' ≠ i) : st_wr S f i j v f' i' = S f' i' := st_wr_ne (fun q => h q.2)
theorem wr_s {S : St} {f i j : Nat} {v : Int32} : st_wr S f i j v f i j = v := by rw [st_wr_eq]; unfold upd; rw [if_pos rfl]
theorem wr_j {S : St} {f i j j' : Nat} {v : Int32} (h : j' ≠ j) : st_wr S f i j v f i j' = S f i j' := by rw [st_wr_eq]; unfold upd; rw [if_neg h]
theorem inR_ex {x : Int32} {lo hi : Int} (h : inR x lo hi) : ∃ a : Int, lo ≤ a ∧ a ≤ hi ∧ x = iI a := h
/-- a refusal -/
def rfX (X : St) (k : Nat) : St := st_wr X 717 0 k (X 717 0 k + iI 1)
def rfM (M : St) (k : Nat) : St := st_wr M 768 0 k (M 768 0 k + iI 1)
theorem x_ref {X : St} {k : Int} (hk : 1 ≤ k ∧ k ≤ 7) : f_x_refused (iI (-k)) X = some (iI (-k), rfX X k.toNat) := by
  rw [uf_x_refused]
  simp (disch := omega) only [bif_d, bif_n, cond_true, cond_false, Option.bind_some, Option.bind_none, Option.elim_some, Option.elim_none, iI_add, iI_sub, iI_mul, iI_neg, iI_lt, iI_le, iI_eq, inb_t, iI_cl, bI_0, bI_1, zn_b, zn_i0, zn_i1, if_pos, if_neg, if_true, if_false, reduceIte, not_true_eq_false, not_false_eq_true, and_true, true_and, and_self, li_0, li_1, li_2, li_3, li_4, li_5, li_6, li_7, li_8, li_9, li_10, li_12, li_13, li_16, li_20, li_30, li_40, li_41, li_48, li_57, li_58, li_60, li_90, li_99, li_100, li_104, li_115, li_120, li_121, li_122, li_123, li_124, li_125, li_126, li_127, li_128, li_129, li_130, li_131, li_132, li_133, li_134, li_135, li_136, li_200, li_255, li_256, li_512, li_680, li_999, li_1000, li_1199, li_1200, li_10000, li_27200, li_99999, li_1000000000, li_2000000000, li_9999, Int.neg_neg]
  rfl
theorem m_no {M : St} {k : Int} (hk : 1 ≤ k ∧ k ≤ 7) : f_m_no (iI (-k)) M = some (iI (-k), rfM M k.toNat) := by
  rw [uf_m_no]
  simp (disch := omega) only [bif_d, bif_n, cond_true, cond_false, Option.bind_some, Option.bind_none, Option.elim_some, Option.elim_none, iI_add, iI_sub, iI_mul, iI_neg, iI_lt, iI_le, iI_eq, inb_t, iI_cl, bI_0, bI_1, zn_b, zn_i0, zn_i1, if_pos, if_neg, if_true, if_false, reduceIte, not_true_eq_false, not_false_eq_true, and_true, true_and, and_self, li_0, li_1, li_2, li_3, li_4, li_5, li_6, li_7, li_8, li_9, li_10, li_12, li_13, li_16, li_20, li_30, li_40, li_41, li_48, li_57, li_58, li_60, li_90, li_99, li_100, li_104, li_115, li_120, li_121, li_122, li_123, li_124, li_125, li_126, li_127, li_128, li_129, li_130, li_131, li_132, li_133, li_134, li_135, li_136, li_200, li_255, li_256, li_512, li_680, li_999, li_1000, li_1199, li_1200, li_10000, li_27200, li_99999, li_1000000000, li_2000000000, li_9999, Int.neg_neg]
  rfl
theorem rel_rf {n : Nat} {X M : St} (h : Rel n X M) {k : Nat} (hk : k < 8) : Rel (n + 1) (rfX X k) (rfM M k) := by
  obtain ⟨cnt, r1, r2, r3, r4, r5, r6, r7, r8, r9, r10, r11, r12, r13⟩ := h
  have hX : ∀ f i, f ≠ 717 → rfX X k f i = X f i := fun f i q => wr_f q
  have hM : ∀ f i, f ≠ 768 → rfM M k f i = M f i := fun f i q => wr_f q
  have h10 : RfR (rfX X k) (rfM M k) := fun j hj => by
    unfold rfX rfM
    by_cases e : j = k
    · subst e; rw [wr_s, wr_s, r10 j hj]
    · rw [wr_j e, wr_j e]; exact r10 j hj
  exact ⟨cnt, (r1.fr (Nat.le_succ n) (fun f hf i _ => hX f i (by unfold cvX kF at hf; omega)) (fun f hf => hM f 0 (by unfold cvM at hf; omega))), (r2.fr (Nat.le_succ n) (Nat.le_refl _) r1.1 (fun f hf i _ => hX f i (by unfold acX at hf; omega)) (fun c _ => ⟨hX 513 c (by omega), hX 514 c (by omega)⟩) (fun f _ _ => hM f 0 (by omega)) (fun c k _ _ => rw_fr (hM 780 0 (by omega)) c k)), (r3.fr (hX 128 0 (by omega)) (hX 129 0 (by omega)) (hM 769 0 (by omega)) (hM 773 0 (by omega))), (r4.fr (hX 448 0 (by omega)) (hM 770 0 (by omega))), (r5.fr (hX 449 0 (by omega)) (hM 782 0 (by omega))), (r6.fr (hX 709 0 (by omega)) (hM 784 0 (by omega))), (r7.fr (hX 708 0 (by omega)) (hM 785 0 (by omega)) (hX 710 0 (by omega)) (hM 788 0 (by omega)) (hX 712 0 (by omega)) (hM 786 0 (by omega))), (r8.fr (hX 711 0 (by omega)) (hM 787 0 (by omega))), (r9.fr (fun f _ _ => hX f 0 (by omega)) (fun f _ _ => hM f 0 (by omega))), h10, (r11.fr (hX 640 0 (by omega)) (hM 802 0 (by omega))), (r12.fr (hX 320 0 (by omega)) (hM 804 0 (by omega))), (r13.fr (fun f _ _ => hX f 0 (by omega)) (fun f _ _ => hM f 0 (by omega)))⟩
theorem both_rf {n : Nat} {X M : St} (h : Rel n X M) {k : Int} (hk : 1 ≤ k ∧ k ≤ 7) {fx fm : Option (Int32 × St)} (ex : fx = some (iI (-k), rfX X k.toNat)) (em : fm = some (iI (-k), rfM M k.toNat)) : Both n fx fm := ⟨_, _, _, ex, em, rel_rf h (by omega)⟩
/-- what is outside: -4, -6 or 0 -/
def oI (a lo hi : Int) : Int := if a < lo then -4 else if hi < a then -6 else 0
theorem oI_l {a lo hi : Int} (h : a < lo) : oI a lo hi = -4 := by unfold oI; rw [if_pos h]
theorem oI_g {a lo hi : Int} (h : ¬ a < lo) (h2 : hi < a) : oI a lo hi = -6 := by unfold oI; rw [if_neg h, if_pos h2]
theorem oI_i {a lo hi : Int} (h : ¬ a < lo) (h2 : ¬ hi < a) : oI a lo hi = 0 := by unfold oI; rw [if_neg h, if_neg h2]
theorem x_out {X : St} {a lo hi : Int} (ha : -2147483648 ≤ a ∧ a < 2147483648) (hl : -2147483648 ≤ lo ∧ lo < 2147483648) (hh : -2147483648 ≤ hi ∧ hi < 2147483648) : f_x_outside (iI a) (iI lo) (iI hi) X = some (iI (oI a lo hi), X) := by
  rw [uf_x_outside]
  by_cases h1 : a < lo
  · rw [oI_l h1]; simp (disch := omega) only [bif_d, bif_n, cond_true, cond_false, Option.bind_some, Option.bind_none, Option.elim_some, Option.elim_none, iI_add, iI_sub, iI_mul, iI_neg, iI_lt, iI_le, iI_eq, inb_t, iI_cl, bI_0, bI_1, zn_b, zn_i0, zn_i1, if_pos, if_neg, if_true, if_false, reduceIte, not_true_eq_false, not_false_eq_true, and_true, true_and, and_self, li_0, li_1, li_2, li_3, li_4, li_5, li_6, li_7, li_8, li_9, li_10, li_12, li_13, li_16, li_20, li_30, li_40, li_41, li_48, li_57, li_58, li_60, li_90, li_99, li_100, li_104, li_115, li_120, li_121, li_122, li_123, li_124, li_125, li_126, li_127, li_128, li_129, li_130, li_131, li_132, li_133, li_134, li_135, li_136, li_200, li_255, li_256, li_512, li_680, li_999, li_1000, li_1199, li_1200, li_10000, li_27200, li_99999, li_1000000000, li_2000000000, li_9999]
  · by_cases h2 : hi < a
    · rw [oI_g h1 h2]; simp (disch := omega) only [bif_d, bif_n, cond_true, cond_false, Option.bind_some, Option.bind_none, Option.elim_some, Option.elim_none, iI_add, iI_sub, iI_mul, iI_neg, iI_lt, iI_le, iI_eq, inb_t, iI_cl, bI_0, bI_1, zn_b, zn_i0, zn_i1, if_pos, if_neg, if_true, if_false, reduceIte, not_true_eq_false, not_false_eq_true, and_true, true_and, and_self, li_0, li_1, li_2, li_3, li_4, li_5, li_6, li_7, li_8, li_9, li_10, li_12, li_13, li_16, li_20, li_30, li_40, li_41, li_48, li_57, li_58, li_60, li_90, li_99, li_100, li_104, li_115, li_120, li_121, li_122, li_123, li_124, li_125, li_126, li_127, li_128, li_129, li_130, li_131, li_132, li_133, li_134, li_135, li_136, li_200, li_255, li_256, li_512, li_680, li_999, li_1000, li_1199, li_1200, li_10000, li_27200, li_99999, li_1000000000, li_2000000000, li_9999]
    · rw [oI_i h1 h2]; simp (disch := omega) only [bif_d, bif_n, cond_true, cond_false, Option.bind_some, Option.bind_none, Option.elim_some, Option.elim_none, iI_add, iI_sub, iI_mul, iI_neg, iI_lt, iI_le, iI_eq, inb_t, iI_cl, bI_0, bI_1, zn_b, zn_i0, zn_i1, if_pos, if_neg, if_true, if_false, reduceIte, not_true_eq_false, not_false_eq_true, and_true, true_and, and_self, li_0, li_1, li_2, li_3, li_4, li_5, li_6, li_7, li_8, li_9, li_10, li_12, li_13, li_16, li_20, li_30, li_40, li_41, li_48, li_57, li_58, li_60, li_90, li_99, li_100, li_104, li_115, li_120, li_121, li_122, li_123, li_124, li_125, li_126, li_127, li_128, li_129, li_130, li_131, li_132, li_133, li_134, li_135, li_136, li_200, li_255, li_256, li_512, li_680, li_999, li_1000, li_1199, li_1200, li_10000, li_27200, li_99999, li_1000000000, li_2000000000, li_9999]
theorem m_isInL {M : St} {a lo hi : Int} (ha : -9223372036854775808 ≤ a ∧ a < 9223372036854775808) (hl : -9223372036854775808 ≤ lo ∧ lo < 9223372036854775808) (hh : -9223372036854775808 ≤ hi ∧ hi < 9223372036854775808) : f_m_isIn (iL a) (iL lo) (iL hi) M = some (bI (lo ≤ a ∧ a ≤ hi), M) := by
  rw [uf_m_isIn, lg_cmp_iL ha hl, lg_cmp_iL ha hh]
  by_cases h1 : lo ≤ a ∧ a ≤ hi
  · rw [bI_t h1]
    by_cases h2 : lo < a
    · rw [if_pos h2, if_neg (by omega)]
      by_cases h3 : a = hi
      · rw [if_pos h3]; rfl
      · rw [if_neg h3]; rfl
    · rw [if_neg h2, if_pos (by omega), if_neg (by omega)]
      by_cases h3 : a = hi
      · rw [if_pos h3]; rfl
      · rw [if_neg h3]; rfl
  · rw [bI_f h1]
    by_cases h2 : lo ≤ a
    · by_cases h4 : lo < a
      · rw [if_pos h4, if_pos (by omega)]; rfl
      · rw [if_neg h4, if_pos (by omega), if_pos (by omega)]; rfl
    · rw [if_neg (by omega), if_neg (by omega)]; rfl
theorem m_outL {M : St} {a lo hi : Int} (ha : -9223372036854775808 ≤ a ∧ a < 9223372036854775808) (hl : -9223372036854775808 ≤ lo ∧ lo < 9223372036854775808) (hh : -9223372036854775808 ≤ hi ∧ hi < 9223372036854775808) : f_m_out (iL a) (iL lo) (iL hi) M = some (iI (oI a lo hi), M) := by
  rw [uf_m_out, lg_cmp_iL ha hl, lg_cmp_iL ha hh]
  by_cases h1 : a < lo
  · rw [oI_l h1, if_neg (by omega), if_neg (by omega)]; rfl
  · by_cases h2 : hi < a
    · rw [oI_g h1 h2, if_pos h2]
      by_cases h3 : lo < a
      · rw [if_pos h3]; rfl
      · rw [if_neg h3, if_pos (by omega)]; rfl
    · rw [oI_i h1 h2, if_neg h2]
      by_cases h3 : lo < a
      · rw [if_pos h3]
        by_cases h4 : a = hi
        · rw [if_pos h4]; rfl
        · rw [if_neg h4]; rfl
      · rw [if_neg h3, if_pos (by omega)]
        by_cases h4 : a = hi
        · rw [if_pos h4]; rfl
        · rw [if_neg h4]; rfl
theorem op_law {n : Nat} {X M : St} (h : Rel n X M) (x1 x2 : Int32) : Both n (f_x_law x1 x2 X) (f_m_law x1 x2 M) := by
  obtain ⟨a, a1, a2, rfl⟩ := iI_ex x1
  obtain ⟨b, b1, b2, rfl⟩ := iI_ex x2
  by_cases h1 : 0 ≤ a ∧ a < 10
  · by_cases h2 : b < 0
    · refine both_rf h (k := 4) (by omega) ?_ ?_
      · rw [uf_x_law]; simp (disch := omega) only [bif_d, bif_n, cond_true, cond_false, Option.bind_some, Option.bind_none, Option.elim_some, Option.elim_none, iI_add, iI_sub, iI_mul, iI_neg, iI_lt, iI_le, iI_eq, inb_t, iI_cl, bI_0, bI_1, zn_b, zn_i0, zn_i1, if_pos, if_neg, if_true, if_false, reduceIte, not_true_eq_false, not_false_eq_true, and_true, true_and, and_self, li_0, li_1, li_2, li_3, li_4, li_5, li_6, li_7, li_8, li_9, li_10, li_12, li_13, li_16, li_20, li_30, li_40, li_41, li_48, li_57, li_58, li_60, li_90, li_99, li_100, li_104, li_115, li_120, li_121, li_122, li_123, li_124, li_125, li_126, li_127, li_128, li_129, li_130, li_131, li_132, li_133, li_134, li_135, li_136, li_200, li_255, li_256, li_512, li_680, li_999, li_1000, li_1199, li_1200, li_10000, li_27200, li_99999, li_1000000000, li_2000000000, li_9999, x_out, oI_l, x_ref]
      · rw [uf_m_law]; simp (disch := omega) only [bif_d, bif_n, cond_true, cond_false, Option.bind_some, Option.bind_none, Option.elim_some, Option.elim_none, iI_add, iI_sub, iI_mul, iI_neg, iI_lt, iI_le, iI_eq, inb_t, iI_cl, bI_0, bI_1, zn_b, zn_i0, zn_i1, if_pos, if_neg, if_true, if_false, reduceIte, not_true_eq_false, not_false_eq_true, and_true, true_and, and_self, li_0, li_1, li_2, li_3, li_4, li_5, li_6, li_7, li_8, li_9, li_10, li_12, li_13, li_16, li_20, li_30, li_40, li_41, li_48, li_57, li_58, li_60, li_90, li_99, li_100, li_104, li_115, li_120, li_121, li_122, li_123, li_124, li_125, li_126, li_127, li_128, li_129, li_130, li_131, li_132, li_133, li_134, li_135, li_136, li_200, li_255, li_256, li_512, li_680, li_999, li_1000, li_1199, li_1200, li_10000, li_27200, li_99999, li_1000000000, li_2000000000, li_9999, iL_of, lL_0, lL_9, lL_99, m_isInL, m_outL, oI_l, m_no]
    · by_cases h3 : 99 < b
      · refine both_rf h (k := 6) (by omega) ?_ ?_
        · rw [uf_x_law]; simp (disch := omega) only [bif_d, bif_n, cond_true, cond_false, Option.bind_some, Option.bind_none, Option.elim_some, Option.elim_none, iI_add, iI_sub, iI_mul, iI_neg, iI_lt, iI_le, iI_eq, inb_t, iI_cl, bI_0, bI_1, zn_b, zn_i0, zn_i1, if_pos, if_neg, if_true, if_false, reduceIte, not_true_eq_false, not_false_eq_true, and_true, true_and, and_self, li_0, li_1, li_2, li_3, li_4, li_5, li_6, li_7, li_8, li_9, li_10, li_12, li_13, li_16, li_20, li_30, li_40, li_41, li_48, li_57, li_58, li_60, li_90, li_99, li_100, li_104, li_115, li_120, li_121, li_122, li_123, li_124, li_125, li_126, li_127, li_128, li_129, li_130, li_131, li_132, li_133, li_134, li_135, li_136, li_200, li_255, li_256, li_512, li_680, li_999, li_1000, li_1199, li_1200, li_10000, li_27200, li_99999, li_1000000000, li_2000000000, li_9999, x_out, oI_g, x_ref]
        · rw [uf_m_law]; simp (disch := omega) only [bif_d, bif_n, cond_true, cond_false, Option.bind_some, Option.bind_none, Option.elim_some, Option.elim_none, iI_add, iI_sub, iI_mul, iI_neg, iI_lt, iI_le, iI_eq, inb_t, iI_cl, bI_0, bI_1, zn_b, zn_i0, zn_i1, if_pos, if_neg, if_true, if_false, reduceIte, not_true_eq_false, not_false_eq_true, and_true, true_and, and_self, li_0, li_1, li_2, li_3, li_4, li_5, li_6, li_7, li_8, li_9, li_10, li_12, li_13, li_16, li_20, li_30, li_40, li_41, li_48, li_57, li_58, li_60, li_90, li_99, li_100, li_104, li_115, li_120, li_121, li_122, li_123, li_124, li_125, li_126, li_127, li_128, li_129, li_130, li_131, li_132, li_133, li_134, li_135, li_136, li_200, li_255, li_256, li_512, li_680, li_999, li_1000, li_1199, li_1200, li_10000, li_27200, li_99999, li_1000000000, li_2000000000, li_9999, iL_of, lL_0, lL_9, lL_99, m_isInL, m_outL, oI_g, m_no]
      · obtain ⟨cnt, r1, r2, r3, r4, r5, r6, r7, r8, r9, r10, r11, r12, r13⟩ := h
        refine ⟨X 449 0 a.toNat, st_wr X 449 0 a.toNat (iI b), st_wr M 782 0 a.toNat (iI b), ?_, ?_, ?_⟩
        · rw [uf_x_law]; simp (disch := omega) only [bif_d, bif_n, cond_true, cond_false, Option.bind_some, Option.bind_none, Option.elim_some, Option.elim_none, iI_add, iI_sub, iI_mul, iI_neg, iI_lt, iI_le, iI_eq, inb_t, iI_cl, bI_0, bI_1, zn_b, zn_i0, zn_i1, if_pos, if_neg, if_true, if_false, reduceIte, not_true_eq_false, not_false_eq_true, and_true, true_and, and_self, li_0, li_1, li_2, li_3, li_4, li_5, li_6, li_7, li_8, li_9, li_10, li_12, li_13, li_16, li_20, li_30, li_40, li_41, li_48, li_57, li_58, li_60, li_90, li_99, li_100, li_104, li_115, li_120, li_121, li_122, li_123, li_124, li_125, li_126, li_127, li_128, li_129, li_130, li_131, li_132, li_133, li_134, li_135, li_136, li_200, li_255, li_256, li_512, li_680, li_999, li_1000, li_1199, li_1200, li_10000, li_27200, li_99999, li_1000000000, li_2000000000, li_9999, x_out, oI_i, x_ref]
        · rw [uf_m_law]; simp (disch := omega) only [bif_d, bif_n, cond_true, cond_false, Option.bind_some, Option.bind_none, Option.elim_some, Option.elim_none, iI_add, iI_sub, iI_mul, iI_neg, iI_lt, iI_le, iI_eq, inb_t, iI_cl, bI_0, bI_1, zn_b, zn_i0, zn_i1, if_pos, if_neg, if_true, if_false, reduceIte, not_true_eq_false, not_false_eq_true, and_true, true_and, and_self, li_0, li_1, li_2, li_3, li_4, li_5, li_6, li_7, li_8, li_9, li_10, li_12, li_13, li_16, li_20, li_30, li_40, li_41, li_48, li_57, li_58, li_60, li_90, li_99, li_100, li_104, li_115, li_120, li_121, li_122, li_123, li_124, li_125, li_126, li_127, li_128, li_129, li_130, li_131, li_132, li_133, li_134, li_135, li_136, li_200, li_255, li_256, li_512, li_680, li_999, li_1000, li_1199, li_1200, li_10000, li_27200, li_99999, li_1000000000, li_2000000000, li_9999, iL_of, lL_0, lL_9, lL_99, m_isInL, m_outL, oI_i, m_no]
          rw [(r5 a.toNat (by omega)).1]
        · have hX : ∀ f i, f ≠ 449 → st_wr X 449 0 a.toNat (iI b) f i = X f i := fun f i q => wr_f q
          have hM : ∀ f i, f ≠ 782 → st_wr M 782 0 a.toNat (iI b) f i = M f i := fun f i q => wr_f q
          have h5 : LwR (st_wr X 449 0 a.toNat (iI b)) (st_wr M 782 0 a.toNat (iI b)) := fun j hj => by
            by_cases e : j = a.toNat
            · subst e; rw [wr_s, wr_s]; exact ⟨rfl, b, by omega, by omega, rfl⟩
            · rw [wr_j e, wr_j e]; exact r5 j hj
          exact ⟨cnt, (r1.fr (Nat.le_succ n) (fun f hf i _ => hX f i (by unfold cvX kF at hf; omega)) (fun f hf => hM f 0 (by unfold cvM at hf; omega))), (r2.fr (Nat.le_succ n) (Nat.le_refl _) r1.1 (fun f hf i _ => hX f i (by unfold acX at hf; omega)) (fun c _ => ⟨hX 513 c (by omega), hX 514 c (by omega)⟩) (fun f _ _ => hM f 0 (by omega)) (fun c k _ _ => rw_fr (hM 780 0 (by omega)) c k)), (r3.fr (hX 128 0 (by omega)) (hX 129 0 (by omega)) (hM 769 0 (by omega)) (hM 773 0 (by omega))), (r4.fr (hX 448 0 (by omega)) (hM 770 0 (by omega))), h5, (r6.fr (hX 709 0 (by omega)) (hM 784 0 (by omega))), (r7.fr (hX 708 0 (by omega)) (hM 785 0 (by omega)) (hX 710 0 (by omega)) (hM 788 0 (by omega)) (hX 712 0 (by omega)) (hM 786 0 (by omega))), (r8.fr (hX 711 0 (by omega)) (hM 787 0 (by omega))), (r9.fr (fun f _ _ => hX f 0 (by omega)) (fun f _ _ => hM f 0 (by omega))), (r10.fr (hX 717 0 (by omega)) (hM 768 0 (by omega))), (r11.fr (hX 640 0 (by omega)) (hM 802 0 (by omega))), (r12.fr (hX 320 0 (by omega)) (hM 804 0 (by omega))), (r13.fr (fun f _ _ => hX f 0 (by omega)) (fun f _ _ => hM f 0 (by omega)))⟩
  · refine both_rf h (k := 1) (by omega) ?_ ?_
    · rw [uf_x_law]
      by_cases h2 : a < 0
      · simp (disch := omega) only [bif_d, bif_n, cond_true, cond_false, Option.bind_some, Option.bind_none, Option.elim_some, Option.elim_none, iI_add, iI_sub, iI_mul, iI_neg, iI_lt, iI_le, iI_eq, inb_t, iI_cl, bI_0, bI_1, zn_b, zn_i0, zn_i1, if_pos, if_neg, if_true, if_false, reduceIte, not_true_eq_false, not_false_eq_true, and_true, true_and, and_self, li_0, li_1, li_2, li_3, li_4, li_5, li_6, li_7, li_8, li_9, li_10, li_12, li_13, li_16, li_20, li_30, li_40, li_41, li_48, li_57, li_58, li_60, li_90, li_99, li_100, li_104, li_115, li_120, li_121, li_122, li_123, li_124, li_125, li_126, li_127, li_128, li_129, li_130, li_131, li_132, li_133, li_134, li_135, li_136, li_200, li_255, li_256, li_512, li_680, li_999, li_1000, li_1199, li_1200, li_10000, li_27200, li_99999, li_1000000000, li_2000000000, li_9999, x_ref]
      · simp (disch := omega) only [bif_d, bif_n, cond_true, cond_false, Option.bind_some, Option.bind_none, Option.elim_some, Option.elim_none, iI_add, iI_sub, iI_mul, iI_neg, iI_lt, iI_le, iI_eq, inb_t, iI_cl, bI_0, bI_1, zn_b, zn_i0, zn_i1, if_pos, if_neg, if_true, if_false, reduceIte, not_true_eq_false, not_false_eq_true, and_true, true_and, and_self, li_0, li_1, li_2, li_3, li_4, li_5, li_6, li_7, li_8, li_9, li_10, li_12, li_13, li_16, li_20, li_30, li_40, li_41, li_48, li_57, li_58, li_60, li_90, li_99, li_100, li_104, li_115, li_120, li_121, li_122, li_123, li_124, li_125, li_126, li_127, li_128, li_129, li_130, li_131, li_132, li_133, li_134, li_135, li_136, li_200, li_255, li_256, li_512, li_680, li_999, li_1000, li_1199, li_1200, li_10000, li_27200, li_99999, li_1000000000, li_2000000000, li_9999, x_ref]
    · rw [uf_m_law]; simp (disch := omega) only [bif_d, bif_n, cond_true, cond_false, Option.bind_some, Option.bind_none, Option.elim_some, Option.elim_none, iI_add, iI_sub, iI_mul, iI_neg, iI_lt, iI_le, iI_eq, inb_t, iI_cl, bI_0, bI_1, zn_b, zn_i0, zn_i1, if_pos, if_neg, if_true, if_false, reduceIte, not_true_eq_false, not_false_eq_true, and_true, true_and, and_self, li_0, li_1, li_2, li_3, li_4, li_5, li_6, li_7, li_8, li_9, li_10, li_12, li_13, li_16, li_20, li_30, li_40, li_41, li_48, li_57, li_58, li_60, li_90, li_99, li_100, li_104, li_115, li_120, li_121, li_122, li_123, li_124, li_125, li_126, li_127, li_128, li_129, li_130, li_131, li_132, li_133, li_134, li_135, li_136, li_200, li_255, li_256, li_512, li_680, li_999, li_1000, li_1199, li_1200, li_10000, li_27200, li_99999, li_1000000000, li_2000000000, li_9999, iL_of, lL_0, lL_9, lL_99, m_isInL, m_no]
