/-! ACTS ARE KEPT -/
def skCp (S : St) (i j : Nat) : St := st_wr (st_wr (st_wr (st_up (st_up S 576 i (va_cpy (S 576 j) (S 576 i) 0 0 30)) 577 i (va_cpy (S 577 j) (S 577 i) 0 0 30)) 578 i 0 (S 578 j 0)) 579 i 0 (S 579 j 0)) 580 i 0 (S 580 j 0)
theorem Sk_copy {S : St} {i j : Nat} : f_Sk_copyFrom i j S = some (skCp S i j) := by
  rw [uf_Sk_copyFrom, cp30, cond_true, cond_true]
  simp (disch := omega) only [wr_f, up_f, cl0, cl30]
  rfl
theorem skCp_fr {S : St} {i j f k : Nat} (h : ¬ (k = i ∧ 576 ≤ f ∧ f ≤ 580)) : skCp S i j f k = S f k := by
  unfold skCp
  rw [st_wr_ne (by omega), st_wr_ne (by omega), st_wr_ne (by omega), st_up_ne (by omega), st_up_ne (by omega)]
theorem skCp_r {S : St} {i j f k : Nat} (hf : f = 576 ∨ f = 577) (hk : k < 30) : skCp S i j f i k = S f j k := by
  unfold skCp
  rw [wr_f (by omega), wr_f (by omega), wr_f (by omega)]
  rcases hf with rfl | rfl
  · rw [up_f (by omega), up_s, cpy_i hk]
  · rw [up_s, cpy_i hk]
theorem skCp_s {S : St} {i j f : Nat} (hf : 578 ≤ f ∧ f ≤ 580) : skCp S i j f i 0 = S f j 0 := by
  unfold skCp
  obtain rfl | rfl | rfl : f = 578 ∨ f = 579 ∨ f = 580 := by omega
  all_goals simp (disch := omega) only [wr_f, wr_s]
theorem SkS_eq {X X' : St} {i i' : Nat} : ∀ n : Nat, (∀ k : Nat, k < n → X' 577 i' k = X 577 i k) → SkS X' i' n = SkS X i n
  | 0, _ => rfl
  | n + 1, h => by unfold SkS; rw [SkS_eq n (fun k hk => h k (by omega)), h n (by omega)]
theorem SkR.cp {X X' : St} {i j : Nat} {r : Int → Int32} (h : SkR X j r) (q1 : ∀ k : Nat, k < 30 → X' 576 i k = X 576 j k ∧ X' 577 i k = X 577 j k) (q2 : ∀ f, 578 ≤ f ∧ f ≤ 580 → X' f i 0 = X f j 0) : SkR X' i r := by
  obtain ⟨k, h1, h2, h3, h4, h5, h6, h7, h8, h9⟩ := h
  refine ⟨k, h1, ?_, h3, ?_, ?_, ?_, ?_, fun l hl => ?_, ?_⟩
  · rw [q2 578 (by omega)]; exact h2
  · rw [q2 579 (by omega)]; exact h4
  · rw [q2 580 (by omega)]; exact h5
  · rw [q2 579 (by omega)]; exact h6
  · rw [q2 580 (by omega)]; exact h7
  · rw [(q1 l (by omega)).1, (q1 l (by omega)).2]; exact h8 l hl
  · rw [q2 579 (by omega), SkS_eq k (fun l hl => (q1 l (by omega)).2)]; exact h9
/-- where an act's things stand -/
def acI (a f i : Nat) : Prop := ((f = 0 ∨ f = 3 ∨ f = 4) ∧ i = a) ∨ (512 ≤ f ∧ f ≤ 521 ∧ i = a + 12) ∨ (576 ≤ f ∧ f ≤ 580 ∧ i = a + 5)
set_option maxHeartbeats 4000000 in
theorem x_take {S : St} {a c : Nat} {v : Int32} (ha : a < 200) (hc : c < 5) : ∃ S', f_Act_take a v c S = some S' ∧ (∀ f i, ¬ acI a f i → S' f i = S f i) ∧ S' 0 a 0 = v ∧ (∀ k : Nat, k < 30 → S' 512 (a + 12) k = S 512 c k) ∧ (∀ f, 513 ≤ f ∧ f ≤ 521 → S' f (a + 12) 0 = S f c 0) ∧ (∀ k : Nat, k < 30 → S' 576 (a + 5) k = S 576 c k ∧ S' 577 (a + 5) k = S 577 c k) ∧ (∀ f, 578 ≤ f ∧ f ≤ 580 → S' f (a + 5) 0 = S f c 0) ∧ S' 3 a 0 = S 198 c 0 ∧ ∀ k : Nat, k < 6 → S' 4 a k = S 711 0 k := by
  have e1 : ∀ f i, ¬ (f = 0 ∧ i = a) → (st_wr S 0 a 0 v) f i = S f i := fun f i q => st_wr_ne q
  have fr1 := shCp_fr (S := st_wr S 0 a 0 v) (i := a + 12) (j := c)
  refine ⟨_, by rw [uf_Act_take, Sh_copy, Option.bind_some, Sk_copy, Option.bind_some, cp66, cond_true], fun f i q => ?_, ?_, fun k hk => ?_, fun f hf => ?_, fun k hk => ⟨?_, ?_⟩, fun f hf => ?_, ?_, fun k hk => ?_⟩
  · unfold acI at q
    rw [st_up_ne (by omega), st_wr_ne (by omega), skCp_fr (by omega), fr1 f i (by unfold cpX; omega), e1 f i (by omega)]
  · rw [up_f (by omega), wr_f (by omega), skCp_fr (by omega), fr1 0 a (by unfold cpX; omega), wr_s]
  · rw [up_f (by omega), wr_f (by omega), skCp_fr (by omega), shCp_z hk, e1 512 c (by omega)]
  · rw [up_f (by omega), wr_f (by omega), skCp_fr (by omega), shCp_f hf, e1 f c (by omega)]
  · rw [up_f (by omega), wr_f (by omega), skCp_r (Or.inl rfl) hk, fr1 576 c (by unfold cpX; omega), e1 576 c (by omega)]
  · rw [up_f (by omega), wr_f (by omega), skCp_r (Or.inr rfl) hk, fr1 577 c (by unfold cpX; omega), e1 577 c (by omega)]
  · rw [up_f (by omega), wr_f (by omega), skCp_s hf, fr1 f c (by unfold cpX; omega), e1 f c (by omega)]
  · rw [up_f (by omega), wr_s, skCp_fr (by omega), fr1 198 c (by unfold cpX; omega), e1 198 c (by omega)]
  · rw [up_s, cl66, cl0, cpy_i hk, wr_f (by omega), skCp_fr (by omega), fr1 711 0 (by unfold cpX; omega), e1 711 0 (by omega)]
theorem mod2 {z : Int} (h : 0 ≤ z ∧ z < 1000) : z - z / 200 * 200 = z % 200 := by omega
set_option maxHeartbeats 4000000 in
theorem x_keep {X : St} {f k c : Nat} (hf : f < 200) (hk : k ≤ 200) (hc : c < 5) (e1 : X 65 0 0 = iI f) (e2 : X 66 0 0 = iI k) : ∃ (X' : St) (f' k' s : Nat), f_Acts_keep (iI c) c X = some X' ∧ ((s = 0 ∧ k' = k ∧ f' = f ∧ k < 200) ∨ (s = 1 ∧ k' = 199 ∧ f' = (f + 1) % 200 ∧ k = 200)) ∧ X' 65 0 0 = iI f' ∧ X' 66 0 0 = iI ((k' + 1 : Nat) : Int) ∧ (∀ g i, ¬ (g = 65 ∨ g = 66 ∨ acI ((f' + k') % 200) g i) → X' g i = X g i) ∧ X' 0 ((f' + k') % 200) 0 = iI c ∧ (∀ j : Nat, j < 30 → X' 512 ((f' + k') % 200 + 12) j = X 512 c j) ∧ (∀ g, 513 ≤ g ∧ g ≤ 521 → X' g ((f' + k') % 200 + 12) 0 = X g c 0) ∧ (∀ j : Nat, j < 30 → X' 576 ((f' + k') % 200 + 5) j = X 576 c j ∧ X' 577 ((f' + k') % 200 + 5) j = X 577 c j) ∧ (∀ g, 578 ≤ g ∧ g ≤ 580 → X' g ((f' + k') % 200 + 5) 0 = X g c 0) ∧ X' 3 ((f' + k') % 200) 0 = X 198 c 0 ∧ ∀ j : Nat, j < 6 → X' 4 ((f' + k') % 200) j = X 711 0 j := by
  by_cases h : k < 200
  · obtain ⟨S', p1, p2, p3, p4, p5, p6, p7, p8, p9⟩ := x_take (S := X) (a := (f + k) % 200) (c := c) (v := iI c) (Nat.mod_lt _ (by omega)) hc
    have e3 : S' 65 0 0 = iI f := by rw [p2 65 0 (by unfold acI; omega), e1]
    have e4 : S' 66 0 0 = iI k := by rw [p2 66 0 (by unfold acI; omega), e2]
    have ei : (((f : Int) + k) % 200).toNat = (f + k) % 200 := by omega
    refine ⟨st_wr S' 66 0 0 (iI (k + 1)), f, k, 0, ?_, Or.inl ⟨rfl, rfl, rfl, h⟩, ?_, wr_s, fun g i q => ?_, ?_, fun j hj => ?_, fun g hg => ?_, fun j hj => ?_, fun g hg => ?_, ?_, fun j hj => ?_⟩
    · rw [uf_Acts_keep]; simp (maxSteps := 2000000) (disch := omega) only [Int.toNat_natCast, bif_d, bif_n, cond_true, cond_false, Option.bind_some, Option.bind_none, Option.elim_some, Option.elim_none, iI_add, iI_sub, iI_mul, iI_neg, iI_lt, iI_le, iI_eq, inb_t, iI_cl, bI_0, bI_1, zn_b, zn_i0, zn_i1, if_pos, if_neg, if_true, if_false, reduceIte, not_true_eq_false, not_false_eq_true, and_true, true_and, and_self, li_0, li_1, li_2, li_3, li_4, li_5, li_6, li_7, li_8, li_9, li_10, li_11, li_12, li_13, li_14, li_15, li_16, li_17, li_18, li_19, li_20, li_21, li_22, li_23, li_24, li_25, li_26, li_27, li_28, li_29, li_30, li_31, li_32, li_33, li_34, li_35, li_36, li_37, li_38, li_39, li_40, li_41, li_42, li_43, li_44, li_45, li_46, li_47, li_48, li_49, li_50, li_51, li_52, li_53, li_54, li_55, li_56, li_57, li_58, li_59, li_60, li_61, li_62, li_63, li_64, li_90, li_99, li_100, li_104, li_115, li_120, li_121, li_122, li_123, li_124, li_125, li_126, li_127, li_128, li_129, li_130, li_131, li_132, li_133, li_134, li_135, li_136, li_199, li_200, li_255, li_256, li_512, li_680, li_999, li_1000, li_1194, li_1199, li_1200, li_9999, li_10000, li_27064, li_27200, li_99999, li_1000000000, li_2000000000, iL_of, lL_0, lL_1, lL_3, lL_5, lL_8, lL_9, lL_11, lL_17, lL_29, lL_60, lL_99, lL_999, lL_9999, lL_99999, m_isInL, m_outL, x_out, x_ref, m_no, oI_l, oI_g, oI_i, wr_s, wr_f, wr_j, wr_i, rs_f, rw_rs, e1, e2, li_200, iI_divp, mod2, ei, p1, e4]
    · rw [wr_f (by omega), e3]
    · rw [wr_f (fun z => q (Or.inr (Or.inl z))), p2 g i (fun z => q (Or.inr (Or.inr z)))]
    · rw [wr_f (by omega), p3]
    · rw [wr_f (by omega), p4 j hj]
    · rw [wr_f (by omega), p5 g hg]
    · rw [wr_f (by omega), wr_f (by omega)]; exact p6 j hj
    · rw [wr_f (by omega), p7 g hg]
    · rw [wr_f (by omega), p8]
    · rw [wr_f (by omega), p9 j hj]
  · have hk2 : k = 200 := by omega
    subst hk2
    have e2 : X 66 0 0 = iI 200 := e2
    have ef : ((f : Int) + 1) % 200 = (((f + 1) % 200 : Nat) : Int) := by omega
    have hlt : (f + 1) % 200 < 200 := Nat.mod_lt _ (by omega)
    generalize hf' : (f + 1) % 200 = f' at *
    obtain ⟨S', p1, p2, p3, p4, p5, p6, p7, p8, p9⟩ := x_take (S := st_wr (st_wr X 65 0 0 (iI f')) 66 0 0 (iI (200 - 1))) (a := (f' + 199) % 200) (c := c) (v := iI c) (Nat.mod_lt _ (by omega)) hc
    have k1 : ∀ g i, g ≠ 65 → g ≠ 66 → (st_wr (st_wr X 65 0 0 (iI f')) 66 0 0 (iI (200 - 1))) g i = X g i := fun g i a b => by rw [wr_f b, wr_f a]
    have e3 : S' 65 0 0 = iI f' := by rw [p2 65 0 (by unfold acI; omega), wr_f (by omega), wr_s]
    have e4 : S' 66 0 0 = iI (200 - 1) := by rw [p2 66 0 (by unfold acI; omega), wr_s]
    have ei : (((f' : Int) + (200 - 1)) % 200).toNat = (f' + 199) % 200 := by omega
    refine ⟨st_wr S' 66 0 0 (iI (200 - 1 + 1)), f', 199, 1, ?_, Or.inr ⟨rfl, rfl, rfl, rfl⟩, ?_, wr_s, fun g i q => ?_, ?_, fun j hj => ?_, fun g hg => ?_, fun j hj => ?_, fun g hg => ?_, ?_, fun j hj => ?_⟩
    · rw [uf_Acts_keep]; simp (maxSteps := 2000000) (disch := omega) only [Int.toNat_natCast, bif_d, bif_n, cond_true, cond_false, Option.bind_some, Option.bind_none, Option.elim_some, Option.elim_none, iI_add, iI_sub, iI_mul, iI_neg, iI_lt, iI_le, iI_eq, inb_t, iI_cl, bI_0, bI_1, zn_b, zn_i0, zn_i1, if_pos, if_neg, if_true, if_false, reduceIte, not_true_eq_false, not_false_eq_true, and_true, true_and, and_self, li_0, li_1, li_2, li_3, li_4, li_5, li_6, li_7, li_8, li_9, li_10, li_11, li_12, li_13, li_14, li_15, li_16, li_17, li_18, li_19, li_20, li_21, li_22, li_23, li_24, li_25, li_26, li_27, li_28, li_29, li_30, li_31, li_32, li_33, li_34, li_35, li_36, li_37, li_38, li_39, li_40, li_41, li_42, li_43, li_44, li_45, li_46, li_47, li_48, li_49, li_50, li_51, li_52, li_53, li_54, li_55, li_56, li_57, li_58, li_59, li_60, li_61, li_62, li_63, li_64, li_90, li_99, li_100, li_104, li_115, li_120, li_121, li_122, li_123, li_124, li_125, li_126, li_127, li_128, li_129, li_130, li_131, li_132, li_133, li_134, li_135, li_136, li_199, li_200, li_255, li_256, li_512, li_680, li_999, li_1000, li_1194, li_1199, li_1200, li_9999, li_10000, li_27064, li_27200, li_99999, li_1000000000, li_2000000000, iL_of, lL_0, lL_1, lL_3, lL_5, lL_8, lL_9, lL_11, lL_17, lL_29, lL_60, lL_99, lL_999, lL_9999, lL_99999, m_isInL, m_outL, x_out, x_ref, m_no, oI_l, oI_g, oI_i, wr_s, wr_f, wr_j, wr_i, rs_f, rw_rs, e1, e2, li_200, iI_divp, mod2, ef, ei, p1, e4]
    · rw [wr_f (by omega), e3]
    · rw [wr_f (fun z => q (Or.inr (Or.inl z))), p2 g i (fun z => q (Or.inr (Or.inr z))), k1 g i (fun z => q (Or.inl z)) (fun z => q (Or.inr (Or.inl z)))]
    · rw [wr_f (by omega), p3]
    · rw [wr_f (by omega), p4 j hj, k1 512 c (by omega) (by omega)]
    · rw [wr_f (by omega), p5 g hg, k1 g c (by omega) (by omega)]
    · rw [wr_f (by omega), wr_f (by omega), (p6 j hj).1, (p6 j hj).2, k1 576 c (by omega) (by omega), k1 577 c (by omega) (by omega)]; exact ⟨rfl, rfl⟩
    · rw [wr_f (by omega), p7 g hg, k1 g c (by omega) (by omega)]
    · rw [wr_f (by omega), p8, k1 198 c (by omega) (by omega)]
    · rw [wr_f (by omega), p9 j hj, k1 711 0 (by omega) (by omega)]
/-- the reference: the new act's drawn, its row -/
theorem m_k158 {k : Nat} (hk : k < 200) : ∀ (m : Nat) (j : Int) (T : St), j + m = 6 → 0 ≤ j → T 814 0 0 = iI k → ∃ T', l_m_keeps_158 (iI j) T = some T' ∧ (∀ f i, f ≠ 813 → f ≠ 814 → T' f i = T f i) ∧ T' 814 0 0 = iI (k + 1) ∧ (∀ y : Nat, ¬ (6 * k + j ≤ y ∧ y < 6 * k + 6) → T' 813 0 y = T 813 0 y) ∧ ∀ x : Nat, j ≤ x → x < 6 → T' 813 0 (6 * k + x) = T 787 0 x
  | 0, j, T, h1, h2, e => ⟨st_wr T 814 0 0 (iI (k + 1)), by rw [ul_m_keeps_158]; simp (maxSteps := 2000000) (disch := omega) only [Int.toNat_natCast, bif_d, bif_n, cond_true, cond_false, Option.bind_some, Option.bind_none, Option.elim_some, Option.elim_none, iI_add, iI_sub, iI_mul, iI_neg, iI_lt, iI_le, iI_eq, inb_t, iI_cl, bI_0, bI_1, zn_b, zn_i0, zn_i1, if_pos, if_neg, if_true, if_false, reduceIte, not_true_eq_false, not_false_eq_true, and_true, true_and, and_self, li_0, li_1, li_2, li_3, li_4, li_5, li_6, li_7, li_8, li_9, li_10, li_11, li_12, li_13, li_14, li_15, li_16, li_17, li_18, li_19, li_20, li_21, li_22, li_23, li_24, li_25, li_26, li_27, li_28, li_29, li_30, li_31, li_32, li_33, li_34, li_35, li_36, li_37, li_38, li_39, li_40, li_41, li_42, li_43, li_44, li_45, li_46, li_47, li_48, li_49, li_50, li_51, li_52, li_53, li_54, li_55, li_56, li_57, li_58, li_59, li_60, li_61, li_62, li_63, li_64, li_90, li_99, li_100, li_104, li_115, li_120, li_121, li_122, li_123, li_124, li_125, li_126, li_127, li_128, li_129, li_130, li_131, li_132, li_133, li_134, li_135, li_136, li_199, li_200, li_255, li_256, li_512, li_680, li_999, li_1000, li_1194, li_1199, li_1200, li_9999, li_10000, li_27064, li_27200, li_99999, li_1000000000, li_2000000000, iL_of, lL_0, lL_1, lL_3, lL_5, lL_8, lL_9, lL_11, lL_17, lL_29, lL_60, lL_99, lL_999, lL_9999, lL_99999, m_isInL, m_outL, x_out, x_ref, m_no, oI_l, oI_g, oI_i, wr_s, wr_f, wr_j, wr_i, rs_f, rw_rs, e], fun f i a b => wr_f b, wr_s, fun y _ => by rw [wr_f (by omega)], fun x a b => by omega⟩
  | m + 1, j, T, h1, h2, e => by
    have ei : (6 * (k : Int) + j).toNat = 6 * k + j.toNat := by omega
    obtain ⟨T', p1, p2, p3, p4, p5⟩ := m_k158 hk m (j + 1) (st_wr T 813 0 (6 * k + j.toNat) (T 787 0 j.toNat)) (by omega) (by omega) (by rw [wr_f (by omega), e])
    refine ⟨T', ?_, fun f i a b => by rw [p2 f i a b, wr_f a], p3, fun y hy => ?_, fun x a b => ?_⟩
    · rw [ul_m_keeps_158]; simp (maxSteps := 2000000) (disch := omega) only [Int.toNat_natCast, bif_d, bif_n, cond_true, cond_false, Option.bind_some, Option.bind_none, Option.elim_some, Option.elim_none, iI_add, iI_sub, iI_mul, iI_neg, iI_lt, iI_le, iI_eq, inb_t, iI_cl, bI_0, bI_1, zn_b, zn_i0, zn_i1, if_pos, if_neg, if_true, if_false, reduceIte, not_true_eq_false, not_false_eq_true, and_true, true_and, and_self, li_0, li_1, li_2, li_3, li_4, li_5, li_6, li_7, li_8, li_9, li_10, li_11, li_12, li_13, li_14, li_15, li_16, li_17, li_18, li_19, li_20, li_21, li_22, li_23, li_24, li_25, li_26, li_27, li_28, li_29, li_30, li_31, li_32, li_33, li_34, li_35, li_36, li_37, li_38, li_39, li_40, li_41, li_42, li_43, li_44, li_45, li_46, li_47, li_48, li_49, li_50, li_51, li_52, li_53, li_54, li_55, li_56, li_57, li_58, li_59, li_60, li_61, li_62, li_63, li_64, li_90, li_99, li_100, li_104, li_115, li_120, li_121, li_122, li_123, li_124, li_125, li_126, li_127, li_128, li_129, li_130, li_131, li_132, li_133, li_134, li_135, li_136, li_199, li_200, li_255, li_256, li_512, li_680, li_999, li_1000, li_1194, li_1199, li_1200, li_9999, li_10000, li_27064, li_27200, li_99999, li_1000000000, li_2000000000, iL_of, lL_0, lL_1, lL_3, lL_5, lL_8, lL_9, lL_11, lL_17, lL_29, lL_60, lL_99, lL_999, lL_9999, lL_99999, m_isInL, m_outL, x_out, x_ref, m_no, oI_l, oI_g, oI_i, wr_s, wr_f, wr_j, wr_i, rs_f, rw_rs, e, ei]; exact p1
    · rw [p4 y (by omega), wr_j (by omega)]
    · by_cases ex : (x : Int) = j
      · rw [p4 (6 * k + x) (by omega), show 6 * k + x = 6 * k + j.toNat by omega, wr_s, show j.toNat = x by omega]
      · rw [p5 x (by omega) b, wr_f (by omega)]
theorem m_k122 {k c : Nat} (hk : k < 200) (hc : c < 5) : ∀ (m : Nat) (j : Int) (T : St), j + m = 136 → 0 ≤ j → T 814 0 0 = iI k → ∃ T', l_m_keeps_122 (iI c) (iI j) T = some T' ∧ (∀ f i, f ≠ 812 → f ≠ 813 → f ≠ 814 → T' f i = T f i) ∧ T' 814 0 0 = iI (k + 1) ∧ (∀ y : Nat, ¬ (6 * k ≤ y ∧ y < 6 * k + 6) → T' 813 0 y = T 813 0 y) ∧ (∀ x : Nat, x < 6 → T' 813 0 (6 * k + x) = T 787 0 x) ∧ (∀ y : Nat, ¬ (136 * k + j ≤ y ∧ y < 136 * k + 136) → T' 812 0 y = T 812 0 y) ∧ ∀ x : Nat, j ≤ x → x < 136 → T' 812 0 (136 * k + x) = rw_ T c x
  | 0, j, T, h1, h2, e => by
    obtain ⟨T', p1, p2, p3, p4, p5⟩ := m_k158 hk 6 0 T (by omega) (by omega) e
    refine ⟨T', ?_, fun f i _ b d => p2 f i b d, p3, fun y hy => p4 y (by omega), fun x hx => p5 x (by omega) hx, fun y _ => by rw [p2 812 0 (by omega) (by omega)], fun x a b => by omega⟩
    rw [ul_m_keeps_122]; simp (maxSteps := 2000000) (disch := omega) only [Int.toNat_natCast, bif_d, bif_n, cond_true, cond_false, Option.bind_some, Option.bind_none, Option.elim_some, Option.elim_none, iI_add, iI_sub, iI_mul, iI_neg, iI_lt, iI_le, iI_eq, inb_t, iI_cl, bI_0, bI_1, zn_b, zn_i0, zn_i1, if_pos, if_neg, if_true, if_false, reduceIte, not_true_eq_false, not_false_eq_true, and_true, true_and, and_self, li_0, li_1, li_2, li_3, li_4, li_5, li_6, li_7, li_8, li_9, li_10, li_11, li_12, li_13, li_14, li_15, li_16, li_17, li_18, li_19, li_20, li_21, li_22, li_23, li_24, li_25, li_26, li_27, li_28, li_29, li_30, li_31, li_32, li_33, li_34, li_35, li_36, li_37, li_38, li_39, li_40, li_41, li_42, li_43, li_44, li_45, li_46, li_47, li_48, li_49, li_50, li_51, li_52, li_53, li_54, li_55, li_56, li_57, li_58, li_59, li_60, li_61, li_62, li_63, li_64, li_90, li_99, li_100, li_104, li_115, li_120, li_121, li_122, li_123, li_124, li_125, li_126, li_127, li_128, li_129, li_130, li_131, li_132, li_133, li_134, li_135, li_136, li_199, li_200, li_255, li_256, li_512, li_680, li_999, li_1000, li_1194, li_1199, li_1200, li_9999, li_10000, li_27064, li_27200, li_99999, li_1000000000, li_2000000000, iL_of, lL_0, lL_1, lL_3, lL_5, lL_8, lL_9, lL_11, lL_17, lL_29, lL_60, lL_99, lL_999, lL_9999, lL_99999, m_isInL, m_outL, x_out, x_ref, m_no, oI_l, oI_g, oI_i, wr_s, wr_f, wr_j, wr_i, rs_f, rw_rs]; exact p1
  | m + 1, j, T, h1, h2, e => by
    have ei : (136 * (k : Int) + j).toNat = 136 * k + j.toNat := by omega
    obtain ⟨T', p1, p2, p3, p4, p5, p6, p7⟩ := m_k122 hk hc m (j + 1) (st_wr T 812 0 (136 * k + j.toNat) (rw_ T c j)) (by omega) (by omega) (by rw [wr_f (by omega), e])
    refine ⟨T', ?_, fun f i a b d => by rw [p2 f i a b d, wr_f a], p3, fun y hy => by rw [p4 y hy, wr_f (by omega)], fun x hx => by rw [p5 x hx, wr_f (by omega)], fun y hy => ?_, fun x a b => ?_⟩
    · rw [ul_m_keeps_122]; simp (maxSteps := 2000000) (disch := omega) only [Int.toNat_natCast, bif_d, bif_n, cond_true, cond_false, Option.bind_some, Option.bind_none, Option.elim_some, Option.elim_none, iI_add, iI_sub, iI_mul, iI_neg, iI_lt, iI_le, iI_eq, inb_t, iI_cl, bI_0, bI_1, zn_b, zn_i0, zn_i1, if_pos, if_neg, if_true, if_false, reduceIte, not_true_eq_false, not_false_eq_true, and_true, true_and, and_self, li_0, li_1, li_2, li_3, li_4, li_5, li_6, li_7, li_8, li_9, li_10, li_11, li_12, li_13, li_14, li_15, li_16, li_17, li_18, li_19, li_20, li_21, li_22, li_23, li_24, li_25, li_26, li_27, li_28, li_29, li_30, li_31, li_32, li_33, li_34, li_35, li_36, li_37, li_38, li_39, li_40, li_41, li_42, li_43, li_44, li_45, li_46, li_47, li_48, li_49, li_50, li_51, li_52, li_53, li_54, li_55, li_56, li_57, li_58, li_59, li_60, li_61, li_62, li_63, li_64, li_90, li_99, li_100, li_104, li_115, li_120, li_121, li_122, li_123, li_124, li_125, li_126, li_127, li_128, li_129, li_130, li_131, li_132, li_133, li_134, li_135, li_136, li_199, li_200, li_255, li_256, li_512, li_680, li_999, li_1000, li_1194, li_1199, li_1200, li_9999, li_10000, li_27064, li_27200, li_99999, li_1000000000, li_2000000000, iL_of, lL_0, lL_1, lL_3, lL_5, lL_8, lL_9, lL_11, lL_17, lL_29, lL_60, lL_99, lL_999, lL_9999, lL_99999, m_isInL, m_outL, x_out, x_ref, m_no, oI_l, oI_g, oI_i, wr_s, wr_f, wr_j, wr_i, rs_f, rw_rs, e, m_get, ei]; exact p1
    · rw [p6 y (by omega), wr_j (by omega)]
    · by_cases ex : (x : Int) = j
      · rw [p6 (136 * k + x) (by omega), show 136 * k + x = 136 * k + j.toNat by omega, wr_s, ex]
      · rw [p7 x (by omega) b]
        exact rw_fr (wr_f (by omega)) _ _
/-- all is moved on by one -/
theorem m_k12 {c : Nat} : ∀ (m : Nat) (j : Int) (T : St), j + m = 27064 → 0 ≤ j → ∃ T', l_m_keeps_12 (iI c) (iI j) T = l_m_keeps_43 (iI c) (iI 0) T' ∧ (∀ f i, f ≠ 812 → T' f i = T f i) ∧ (∀ y : Nat, ((y : Int) < j ∨ 27064 ≤ y) → T' 812 0 y = T 812 0 y) ∧ ∀ y : Nat, j ≤ y → y < 27064 → T' 812 0 y = T 812 0 (y + 136)
  | 0, j, T, h1, h2 => ⟨T, by rw [ul_m_keeps_12]; simp (maxSteps := 2000000) (disch := omega) only [Int.toNat_natCast, bif_d, bif_n, cond_true, cond_false, Option.bind_some, Option.bind_none, Option.elim_some, Option.elim_none, iI_add, iI_sub, iI_mul, iI_neg, iI_lt, iI_le, iI_eq, inb_t, iI_cl, bI_0, bI_1, zn_b, zn_i0, zn_i1, if_pos, if_neg, if_true, if_false, reduceIte, not_true_eq_false, not_false_eq_true, and_true, true_and, and_self, li_0, li_1, li_2, li_3, li_4, li_5, li_6, li_7, li_8, li_9, li_10, li_11, li_12, li_13, li_14, li_15, li_16, li_17, li_18, li_19, li_20, li_21, li_22, li_23, li_24, li_25, li_26, li_27, li_28, li_29, li_30, li_31, li_32, li_33, li_34, li_35, li_36, li_37, li_38, li_39, li_40, li_41, li_42, li_43, li_44, li_45, li_46, li_47, li_48, li_49, li_50, li_51, li_52, li_53, li_54, li_55, li_56, li_57, li_58, li_59, li_60, li_61, li_62, li_63, li_64, li_90, li_99, li_100, li_104, li_115, li_120, li_121, li_122, li_123, li_124, li_125, li_126, li_127, li_128, li_129, li_130, li_131, li_132, li_133, li_134, li_135, li_136, li_199, li_200, li_255, li_256, li_512, li_680, li_999, li_1000, li_1194, li_1199, li_1200, li_9999, li_10000, li_27064, li_27200, li_99999, li_1000000000, li_2000000000, iL_of, lL_0, lL_1, lL_3, lL_5, lL_8, lL_9, lL_11, lL_17, lL_29, lL_60, lL_99, lL_999, lL_9999, lL_99999, m_isInL, m_outL, x_out, x_ref, m_no, oI_l, oI_g, oI_i, wr_s, wr_f, wr_j, wr_i, rs_f, rw_rs], fun _ _ _ => rfl, fun _ _ => rfl, fun y a b => by omega⟩
  | m + 1, j, T, h1, h2 => by
    have ei : (j + 136).toNat = j.toNat + 136 := by omega
    obtain ⟨T', p1, p2, p3, p4⟩ := m_k12 (c := c) m (j + 1) (st_wr T 812 0 j.toNat (T 812 0 (j.toNat + 136))) (by omega) (by omega)
    refine ⟨T', ?_, fun f i a => by rw [p2 f i a, wr_f a], fun y hy => ?_, fun y a b => ?_⟩
    · rw [ul_m_keeps_12]; simp (maxSteps := 2000000) (disch := omega) only [Int.toNat_natCast, bif_d, bif_n, cond_true, cond_false, Option.bind_some, Option.bind_none, Option.elim_some, Option.elim_none, iI_add, iI_sub, iI_mul, iI_neg, iI_lt, iI_le, iI_eq, inb_t, iI_cl, bI_0, bI_1, zn_b, zn_i0, zn_i1, if_pos, if_neg, if_true, if_false, reduceIte, not_true_eq_false, not_false_eq_true, and_true, true_and, and_self, li_0, li_1, li_2, li_3, li_4, li_5, li_6, li_7, li_8, li_9, li_10, li_11, li_12, li_13, li_14, li_15, li_16, li_17, li_18, li_19, li_20, li_21, li_22, li_23, li_24, li_25, li_26, li_27, li_28, li_29, li_30, li_31, li_32, li_33, li_34, li_35, li_36, li_37, li_38, li_39, li_40, li_41, li_42, li_43, li_44, li_45, li_46, li_47, li_48, li_49, li_50, li_51, li_52, li_53, li_54, li_55, li_56, li_57, li_58, li_59, li_60, li_61, li_62, li_63, li_64, li_90, li_99, li_100, li_104, li_115, li_120, li_121, li_122, li_123, li_124, li_125, li_126, li_127, li_128, li_129, li_130, li_131, li_132, li_133, li_134, li_135, li_136, li_199, li_200, li_255, li_256, li_512, li_680, li_999, li_1000, li_1194, li_1199, li_1200, li_9999, li_10000, li_27064, li_27200, li_99999, li_1000000000, li_2000000000, iL_of, lL_0, lL_1, lL_3, lL_5, lL_8, lL_9, lL_11, lL_17, lL_29, lL_60, lL_99, lL_999, lL_9999, lL_99999, m_isInL, m_outL, x_out, x_ref, m_no, oI_l, oI_g, oI_i, wr_s, wr_f, wr_j, wr_i, rs_f, rw_rs, ei]; exact p1
    · rw [p3 y (by omega), wr_j (by omega)]
    · by_cases ex : (y : Int) = j
      · rw [p3 y (by omega), show y = j.toNat by omega, wr_s]
      · rw [p4 y (by omega) b, wr_j (by omega)]
theorem m_k43 {c : Nat} : ∀ (m : Nat) (j : Int) (T : St), j + m = 1194 → 0 ≤ j → ∃ T', l_m_keeps_43 (iI c) (iI j) T = l_m_keeps_73 (iI c) (iI 0) T' ∧ (∀ f i, f ≠ 813 → T' f i = T f i) ∧ (∀ y : Nat, ((y : Int) < j ∨ 1194 ≤ y) → T' 813 0 y = T 813 0 y) ∧ ∀ y : Nat, j ≤ y → y < 1194 → T' 813 0 y = T 813 0 (y + 6)
  | 0, j, T, h1, h2 => ⟨T, by rw [ul_m_keeps_43]; simp (maxSteps := 2000000) (disch := omega) only [Int.toNat_natCast, bif_d, bif_n, cond_true, cond_false, Option.bind_some, Option.bind_none, Option.elim_some, Option.elim_none, iI_add, iI_sub, iI_mul, iI_neg, iI_lt, iI_le, iI_eq, inb_t, iI_cl, bI_0, bI_1, zn_b, zn_i0, zn_i1, if_pos, if_neg, if_true, if_false, reduceIte, not_true_eq_false, not_false_eq_true, and_true, true_and, and_self, li_0, li_1, li_2, li_3, li_4, li_5, li_6, li_7, li_8, li_9, li_10, li_11, li_12, li_13, li_14, li_15, li_16, li_17, li_18, li_19, li_20, li_21, li_22, li_23, li_24, li_25, li_26, li_27, li_28, li_29, li_30, li_31, li_32, li_33, li_34, li_35, li_36, li_37, li_38, li_39, li_40, li_41, li_42, li_43, li_44, li_45, li_46, li_47, li_48, li_49, li_50, li_51, li_52, li_53, li_54, li_55, li_56, li_57, li_58, li_59, li_60, li_61, li_62, li_63, li_64, li_90, li_99, li_100, li_104, li_115, li_120, li_121, li_122, li_123, li_124, li_125, li_126, li_127, li_128, li_129, li_130, li_131, li_132, li_133, li_134, li_135, li_136, li_199, li_200, li_255, li_256, li_512, li_680, li_999, li_1000, li_1194, li_1199, li_1200, li_9999, li_10000, li_27064, li_27200, li_99999, li_1000000000, li_2000000000, iL_of, lL_0, lL_1, lL_3, lL_5, lL_8, lL_9, lL_11, lL_17, lL_29, lL_60, lL_99, lL_999, lL_9999, lL_99999, m_isInL, m_outL, x_out, x_ref, m_no, oI_l, oI_g, oI_i, wr_s, wr_f, wr_j, wr_i, rs_f, rw_rs], fun _ _ _ => rfl, fun _ _ => rfl, fun y a b => by omega⟩
  | m + 1, j, T, h1, h2 => by
    have ei : (j + 6).toNat = j.toNat + 6 := by omega
    obtain ⟨T', p1, p2, p3, p4⟩ := m_k43 (c := c) m (j + 1) (st_wr T 813 0 j.toNat (T 813 0 (j.toNat + 6))) (by omega) (by omega)
    refine ⟨T', ?_, fun f i a => by rw [p2 f i a, wr_f a], fun y hy => ?_, fun y a b => ?_⟩
    · rw [ul_m_keeps_43]; simp (maxSteps := 2000000) (disch := omega) only [Int.toNat_natCast, bif_d, bif_n, cond_true, cond_false, Option.bind_some, Option.bind_none, Option.elim_some, Option.elim_none, iI_add, iI_sub, iI_mul, iI_neg, iI_lt, iI_le, iI_eq, inb_t, iI_cl, bI_0, bI_1, zn_b, zn_i0, zn_i1, if_pos, if_neg, if_true, if_false, reduceIte, not_true_eq_false, not_false_eq_true, and_true, true_and, and_self, li_0, li_1, li_2, li_3, li_4, li_5, li_6, li_7, li_8, li_9, li_10, li_11, li_12, li_13, li_14, li_15, li_16, li_17, li_18, li_19, li_20, li_21, li_22, li_23, li_24, li_25, li_26, li_27, li_28, li_29, li_30, li_31, li_32, li_33, li_34, li_35, li_36, li_37, li_38, li_39, li_40, li_41, li_42, li_43, li_44, li_45, li_46, li_47, li_48, li_49, li_50, li_51, li_52, li_53, li_54, li_55, li_56, li_57, li_58, li_59, li_60, li_61, li_62, li_63, li_64, li_90, li_99, li_100, li_104, li_115, li_120, li_121, li_122, li_123, li_124, li_125, li_126, li_127, li_128, li_129, li_130, li_131, li_132, li_133, li_134, li_135, li_136, li_199, li_200, li_255, li_256, li_512, li_680, li_999, li_1000, li_1194, li_1199, li_1200, li_9999, li_10000, li_27064, li_27200, li_99999, li_1000000000, li_2000000000, iL_of, lL_0, lL_1, lL_3, lL_5, lL_8, lL_9, lL_11, lL_17, lL_29, lL_60, lL_99, lL_999, lL_9999, lL_99999, m_isInL, m_outL, x_out, x_ref, m_no, oI_l, oI_g, oI_i, wr_s, wr_f, wr_j, wr_i, rs_f, rw_rs, ei]; exact p1
    · rw [p3 y (by omega), wr_j (by omega)]
    · by_cases ex : (y : Int) = j
      · rw [p3 y (by omega), show y = j.toNat by omega, wr_s]
      · rw [p4 y (by omega) b, wr_j (by omega)]
theorem m_k73 {c : Nat} : ∀ (m : Nat) (j : Int) (T : St), j + m = 199 → 0 ≤ j → T 814 0 0 = iI 200 → ∃ T', l_m_keeps_73 (iI c) (iI j) T = l_m_keeps_122 (iI c) (iI 0) T' ∧ (∀ f i, f ≠ 811 → f ≠ 814 → T' f i = T f i) ∧ T' 814 0 0 = iI 199 ∧ T' 811 0 199 = iI c ∧ (∀ y : Nat, (y : Int) < j → T' 811 0 y = T 811 0 y) ∧ ∀ y : Nat, j ≤ y → y < 199 → T' 811 0 y = T 811 0 (y + 1)
  | 0, j, T, h1, h2, e => ⟨st_wr (st_wr T 814 0 0 (iI 199)) 811 0 199 (iI c), by rw [ul_m_keeps_73]; simp (maxSteps := 2000000) (disch := omega) only [Int.toNat_natCast, bif_d, bif_n, cond_true, cond_false, Option.bind_some, Option.bind_none, Option.elim_some, Option.elim_none, iI_add, iI_sub, iI_mul, iI_neg, iI_lt, iI_le, iI_eq, inb_t, iI_cl, bI_0, bI_1, zn_b, zn_i0, zn_i1, if_pos, if_neg, if_true, if_false, reduceIte, not_true_eq_false, not_false_eq_true, and_true, true_and, and_self, li_0, li_1, li_2, li_3, li_4, li_5, li_6, li_7, li_8, li_9, li_10, li_11, li_12, li_13, li_14, li_15, li_16, li_17, li_18, li_19, li_20, li_21, li_22, li_23, li_24, li_25, li_26, li_27, li_28, li_29, li_30, li_31, li_32, li_33, li_34, li_35, li_36, li_37, li_38, li_39, li_40, li_41, li_42, li_43, li_44, li_45, li_46, li_47, li_48, li_49, li_50, li_51, li_52, li_53, li_54, li_55, li_56, li_57, li_58, li_59, li_60, li_61, li_62, li_63, li_64, li_90, li_99, li_100, li_104, li_115, li_120, li_121, li_122, li_123, li_124, li_125, li_126, li_127, li_128, li_129, li_130, li_131, li_132, li_133, li_134, li_135, li_136, li_199, li_200, li_255, li_256, li_512, li_680, li_999, li_1000, li_1194, li_1199, li_1200, li_9999, li_10000, li_27064, li_27200, li_99999, li_1000000000, li_2000000000, iL_of, lL_0, lL_1, lL_3, lL_5, lL_8, lL_9, lL_11, lL_17, lL_29, lL_60, lL_99, lL_999, lL_9999, lL_99999, m_isInL, m_outL, x_out, x_ref, m_no, oI_l, oI_g, oI_i, wr_s, wr_f, wr_j, wr_i, rs_f, rw_rs, e, show (200 : Int) - 1 = 199 by omega, show (199 : Int).toNat = 199 by omega], fun f i a b => by rw [wr_f a, wr_f b], by rw [wr_f (by omega), wr_s], wr_s, fun y hy => by rw [wr_j (by omega), wr_f (by omega)], fun y a b => by omega⟩
  | m + 1, j, T, h1, h2, e => by
    have ei : (j + 1).toNat = j.toNat + 1 := by omega
    obtain ⟨T', p1, p2, p3, p4, p5, p6⟩ := m_k73 (c := c) m (j + 1) (st_wr T 811 0 j.toNat (T 811 0 (j.toNat + 1))) (by omega) (by omega) (by rw [wr_f (by omega), e])
    refine ⟨T', ?_, fun f i a b => by rw [p2 f i a b, wr_f a], p3, p4, fun y hy => ?_, fun y a b => ?_⟩
    · rw [ul_m_keeps_73]; simp (maxSteps := 2000000) (disch := omega) only [Int.toNat_natCast, bif_d, bif_n, cond_true, cond_false, Option.bind_some, Option.bind_none, Option.elim_some, Option.elim_none, iI_add, iI_sub, iI_mul, iI_neg, iI_lt, iI_le, iI_eq, inb_t, iI_cl, bI_0, bI_1, zn_b, zn_i0, zn_i1, if_pos, if_neg, if_true, if_false, reduceIte, not_true_eq_false, not_false_eq_true, and_true, true_and, and_self, li_0, li_1, li_2, li_3, li_4, li_5, li_6, li_7, li_8, li_9, li_10, li_11, li_12, li_13, li_14, li_15, li_16, li_17, li_18, li_19, li_20, li_21, li_22, li_23, li_24, li_25, li_26, li_27, li_28, li_29, li_30, li_31, li_32, li_33, li_34, li_35, li_36, li_37, li_38, li_39, li_40, li_41, li_42, li_43, li_44, li_45, li_46, li_47, li_48, li_49, li_50, li_51, li_52, li_53, li_54, li_55, li_56, li_57, li_58, li_59, li_60, li_61, li_62, li_63, li_64, li_90, li_99, li_100, li_104, li_115, li_120, li_121, li_122, li_123, li_124, li_125, li_126, li_127, li_128, li_129, li_130, li_131, li_132, li_133, li_134, li_135, li_136, li_199, li_200, li_255, li_256, li_512, li_680, li_999, li_1000, li_1194, li_1199, li_1200, li_9999, li_10000, li_27064, li_27200, li_99999, li_1000000000, li_2000000000, iL_of, lL_0, lL_1, lL_3, lL_5, lL_8, lL_9, lL_11, lL_17, lL_29, lL_60, lL_99, lL_999, lL_9999, lL_99999, m_isInL, m_outL, x_out, x_ref, m_no, oI_l, oI_g, oI_i, wr_s, wr_f, wr_j, wr_i, rs_f, rw_rs, ei]; exact p1
    · rw [p5 y (by omega), wr_j (by omega)]
    · by_cases ex : (y : Int) = j
      · rw [p5 y (by omega), show y = j.toNat by omega, wr_s]
      · rw [p6 y (by omega) b, wr_j (by omega)]
theorem m_keep {M : St} {k c : Nat} (hk : k ≤ 200) (hc : c < 5) (e : M 814 0 0 = iI k) : ∃ (M' : St) (k' s : Nat), f_m_keeps (iI c) M = some M' ∧ ((s = 0 ∧ k' = k ∧ k < 200) ∨ (s = 1 ∧ k' = 199 ∧ k = 200)) ∧ (∀ f i, f < 811 ∨ 814 < f → M' f i = M f i) ∧ M' 814 0 0 = iI ((k' + 1 : Nat) : Int) ∧ M' 811 0 k' = iI c ∧ (∀ x : Nat, x < 136 → M' 812 0 (136 * k' + x) = rw_ M c x) ∧ (∀ x : Nat, x < 6 → M' 813 0 (6 * k' + x) = M 787 0 x) ∧ ∀ j : Nat, j < k' → M' 811 0 j = M 811 0 (j + s) ∧ (∀ x : Nat, x < 136 → M' 812 0 (136 * j + x) = M 812 0 (136 * (j + s) + x)) ∧ ∀ x : Nat, x < 6 → M' 813 0 (6 * j + x) = M 813 0 (6 * (j + s) + x) := by
  by_cases h : k < 200
  · obtain ⟨T', p1, p2, p3, p4, p5, p6, p7⟩ := m_k122 h hc 136 0 (st_wr M 811 0 k (iI c)) (by omega) (by omega) (by rw [wr_f (by omega), e])
    refine ⟨T', k, 0, ?_, Or.inl ⟨rfl, rfl, h⟩, fun f i q => by rw [p2 f i (by omega) (by omega) (by omega), wr_f (by omega)], p3, by rw [p2 811 0 (by omega) (by omega) (by omega), wr_s], fun x hx => ?_, fun x hx => by rw [p5 x hx, wr_f (by omega)], fun j hj => ⟨?_, fun x hx => ?_, fun x hx => ?_⟩⟩
    · rw [uf_m_keeps]; simp (maxSteps := 2000000) (disch := omega) only [Int.toNat_natCast, bif_d, bif_n, cond_true, cond_false, Option.bind_some, Option.bind_none, Option.elim_some, Option.elim_none, iI_add, iI_sub, iI_mul, iI_neg, iI_lt, iI_le, iI_eq, inb_t, iI_cl, bI_0, bI_1, zn_b, zn_i0, zn_i1, if_pos, if_neg, if_true, if_false, reduceIte, not_true_eq_false, not_false_eq_true, and_true, true_and, and_self, li_0, li_1, li_2, li_3, li_4, li_5, li_6, li_7, li_8, li_9, li_10, li_11, li_12, li_13, li_14, li_15, li_16, li_17, li_18, li_19, li_20, li_21, li_22, li_23, li_24, li_25, li_26, li_27, li_28, li_29, li_30, li_31, li_32, li_33, li_34, li_35, li_36, li_37, li_38, li_39, li_40, li_41, li_42, li_43, li_44, li_45, li_46, li_47, li_48, li_49, li_50, li_51, li_52, li_53, li_54, li_55, li_56, li_57, li_58, li_59, li_60, li_61, li_62, li_63, li_64, li_90, li_99, li_100, li_104, li_115, li_120, li_121, li_122, li_123, li_124, li_125, li_126, li_127, li_128, li_129, li_130, li_131, li_132, li_133, li_134, li_135, li_136, li_199, li_200, li_255, li_256, li_512, li_680, li_999, li_1000, li_1194, li_1199, li_1200, li_9999, li_10000, li_27064, li_27200, li_99999, li_1000000000, li_2000000000, iL_of, lL_0, lL_1, lL_3, lL_5, lL_8, lL_9, lL_11, lL_17, lL_29, lL_60, lL_99, lL_999, lL_9999, lL_99999, m_isInL, m_outL, x_out, x_ref, m_no, oI_l, oI_g, oI_i, wr_s, wr_f, wr_j, wr_i, rs_f, rw_rs, e]; exact p1
    · rw [p7 x (by omega) hx]; exact rw_fr (wr_f (by omega)) _ _
    · rw [p2 811 0 (by omega) (by omega) (by omega), wr_j (by omega)]; rfl
    · rw [p6 _ (by omega), wr_f (by omega)]; rfl
    · rw [p4 _ (by omega), wr_f (by omega)]; rfl
  · have hk2 : k = 200 := by omega
    subst hk2
    have e : M 814 0 0 = iI 200 := e
    obtain ⟨A, a1, a2, a3, a4⟩ := m_k12 (c := c) 27064 0 M (by omega) (by omega)
    obtain ⟨B, b1, b2, b3, b4⟩ := m_k43 (c := c) 1194 0 A (by omega) (by omega)
    obtain ⟨C, d1, d2, d3, d4, d5, d6⟩ := m_k73 (c := c) 199 0 B (by omega) (by omega) (by rw [b2 814 0 (by omega), a2 814 0 (by omega), e])
    obtain ⟨T', p1, p2, p3, p4, p5, p6, p7⟩ := m_k122 (k := 199) (by omega) hc 136 0 C (by omega) (by omega) d3
    have kC : ∀ f i, f < 811 ∨ 814 < f → C f i = M f i := fun f i q => by rw [d2 f i (by omega) (by omega), b2 f i (by omega), a2 f i (by omega)]
    refine ⟨T', 199, 1, ?_, Or.inr ⟨rfl, rfl, rfl⟩, fun f i q => by rw [p2 f i (by omega) (by omega) (by omega), kC f i q], p3, by rw [p2 811 0 (by omega) (by omega) (by omega), d4], fun x hx => ?_, fun x hx => by rw [p5 x hx, kC 787 0 (by omega)], fun j hj => ⟨?_, fun x hx => ?_, fun x hx => ?_⟩⟩
    · rw [uf_m_keeps]; simp (maxSteps := 2000000) (disch := omega) only [Int.toNat_natCast, bif_d, bif_n, cond_true, cond_false, Option.bind_some, Option.bind_none, Option.elim_some, Option.elim_none, iI_add, iI_sub, iI_mul, iI_neg, iI_lt, iI_le, iI_eq, inb_t, iI_cl, bI_0, bI_1, zn_b, zn_i0, zn_i1, if_pos, if_neg, if_true, if_false, reduceIte, not_true_eq_false, not_false_eq_true, and_true, true_and, and_self, li_0, li_1, li_2, li_3, li_4, li_5, li_6, li_7, li_8, li_9, li_10, li_11, li_12, li_13, li_14, li_15, li_16, li_17, li_18, li_19, li_20, li_21, li_22, li_23, li_24, li_25, li_26, li_27, li_28, li_29, li_30, li_31, li_32, li_33, li_34, li_35, li_36, li_37, li_38, li_39, li_40, li_41, li_42, li_43, li_44, li_45, li_46, li_47, li_48, li_49, li_50, li_51, li_52, li_53, li_54, li_55, li_56, li_57, li_58, li_59, li_60, li_61, li_62, li_63, li_64, li_90, li_99, li_100, li_104, li_115, li_120, li_121, li_122, li_123, li_124, li_125, li_126, li_127, li_128, li_129, li_130, li_131, li_132, li_133, li_134, li_135, li_136, li_199, li_200, li_255, li_256, li_512, li_680, li_999, li_1000, li_1194, li_1199, li_1200, li_9999, li_10000, li_27064, li_27200, li_99999, li_1000000000, li_2000000000, iL_of, lL_0, lL_1, lL_3, lL_5, lL_8, lL_9, lL_11, lL_17, lL_29, lL_60, lL_99, lL_999, lL_9999, lL_99999, m_isInL, m_outL, x_out, x_ref, m_no, oI_l, oI_g, oI_i, wr_s, wr_f, wr_j, wr_i, rs_f, rw_rs, e]; rw [a1, b1, d1]; exact p1
    · rw [p7 x (by omega) hx]; exact rw_fr (kC 780 0 (by omega)) _ _
    · rw [p2 811 0 (by omega) (by omega) (by omega), d6 j (by omega) (by omega), b2 811 0 (by omega), a2 811 0 (by omega)]
    · rw [p6 _ (by omega), d2 812 0 (by omega) (by omega), b2 812 0 (by omega), a4 _ (by omega) (by omega), show 136 * j + x + 136 = 136 * (j + 1) + x by omega]
    · rw [p4 _ (by omega), d2 813 0 (by omega) (by omega), b4 _ (by omega) (by omega), a2 813 0 (by omega), show 6 * j + x + 6 = 6 * (j + 1) + x by omega]
/-- what keeping an act changes -/
def KpX (X X' : St) : Prop := ∀ f i, ¬ (f = 65 ∨ f = 66 ∨ f = 0 ∨ f = 3 ∨ f = 4 ∨ (512 ≤ f ∧ f ≤ 521 ∧ 12 ≤ i) ∨ (576 ≤ f ∧ f ≤ 580 ∧ 5 ≤ i)) → X' f i = X f i
def KpM (M M' : St) : Prop := ∀ f i, f < 811 ∨ 814 < f → M' f i = M f i
theorem ar_at {M : St} {j : Nat} {k : Int} (hk : 0 ≤ k) : ar_ M j k = M 812 0 (136 * j + k.toNat) := by
  unfold ar_
  rw [show (136 * (j : Int) + k).toNat = 136 * j + k.toNat by omega]
set_option maxHeartbeats 4000000 in
theorem keep_rel {n cnt c : Nat} {X M : St} (h : Rel n X M) (r1 : CvR X M n cnt) (hc : c < cnt) : ∃ X' M', f_Acts_keep (iI c) c X = some X' ∧ f_m_keeps (iI c) M = some M' ∧ KpX X X' ∧ KpM M M' ∧ Rel n X' M' ∧ CvR X' M' n cnt ∧ DrR X' M' := by
  have r1' := r1
  obtain ⟨cnt', r1, r2, r3, r4, r5, r6, r7, r8, r9, r10, r11, r12, r13, r14⟩ := h
  have ecnt : cnt' = cnt := by
    have e := r1.2.1
    rw [r1'.2.1] at e
    have h5 := r1.1
    have h6 := r1'.1
    have := (iI_eq (by omega) (by omega)).mp e
    omega
  subst ecnt
  clear r1'
  obtain ⟨c5, c1, c2, cK, cM, cN⟩ := id r1
  have hc5 : c < 5 := by omega
  obtain ⟨f, k, a1, a2, a3, a4, a5, a6⟩ := r2
  obtain ⟨X', f', k', s, x1, x2, x3, x4, x5, x6, x7, x8, x9, x10, x11, x12⟩ := x_keep (c := c) a1 a2 hc5 a3 a4
  obtain ⟨M', k2, s2, m1, m2, m3, m4, m5, m6, m7, m8⟩ := m_keep (c := c) a2 hc5 a5
  have ek : k2 = k' := by omega
  have es : s2 = s := by omega
  subst ek es
  have kx : KpX X X' := fun g i q => x5 g i (by unfold acI; omega)
  have hX : ∀ g i, ¬ (g = 65 ∨ g = 66 ∨ g = 0 ∨ g = 3 ∨ g = 4 ∨ (512 ≤ g ∧ g ≤ 521 ∧ 12 ≤ i) ∨ (576 ≤ g ∧ g ≤ 580 ∧ 5 ≤ i)) → X' g i = X g i := kx
  have hM : ∀ g i, g < 811 ∨ 814 < g → M' g i = M g i := m3
  have hr : ∀ (c' : Nat) k, rw_ M' c' k = rw_ M c' k := fun c' k => rw_fr (hM 780 0 (by omega)) c' k
  have hA : AcR X' M' n cnt' := by
    refine ⟨f', k2 + 1, by omega, by omega, x3, x4, m4, fun j hj => ?_⟩
    by_cases e : j = k2
    · subst e
      obtain ⟨a, b, u, F, w, v, sl, z, p, kk, q1, q2, q3, q4, q5⟩ := cav_pk (cM c hc)
      obtain ⟨K1, K2, K3, K4, K5, K6, K7, -⟩ := cK c hc5
      have ar : ∀ k : Int, 0 ≤ k → k < 136 → ar_ M' j k = rw_ M c k := fun k h1 h2 => by
        rw [ar_at h1, m6 k.toNat (by omega), show ((k.toNat : Nat) : Int) = k by omega]
      have hsp := spk_to (spk_cp kk x7 x8)
      refine ⟨c, a, b, hc, x6, m5, hsp.1, ?_, ?_, hsp.2.fr (fun _ _ _ => rfl) (fun k hk => ar k (by unfold shK at hk; omega) (by unfold shK at hk; omega)), (K1.cp x9 x10).fr (fun _ _ _ => rfl) (fun k hk => ar k (by unfold skK at hk; omega) (by unfold skK at hk; omega)), ?_, fun k hk => ?_, ?_, fun k hk => ?_⟩
      · rw [hX 513 c (by omega)]; exact kk.2.1
      · rw [hX 514 c (by omega)]; exact kk.2.2.1
      · rw [x11]; exact K2.fr (fun k hk => ar k (by unfold flK at hk; omega) (by unfold flK at hk; omega))
      · rw [ar k (by omega) (by omega), hr]
      · rw [ar 129 (by omega) (by omega), hr]
      · rw [x12 k hk, m7 k hk]; exact r8 k hk
    · have hj2 : j < k2 := by omega
      obtain ⟨c', p, q, b1, b2, b3, b4, b5, b6, b7, b8, b9, b10, b11, b12⟩ := a6 (j + s2) (by omega)
      have eidx : (f + (j + s2)) % 200 = (f' + j) % 200 := by omega
      rw [eidx] at b2 b4 b7 b8 b9 b12
      obtain ⟨n1, n2, n3⟩ := m8 j hj2
      have ne : (f' + j) % 200 ≠ (f' + k2) % 200 := by omega
      have hlt : (f' + j) % 200 < 200 := Nat.mod_lt _ (by omega)
      have ar : ∀ k : Int, 0 ≤ k → k < 136 → ar_ M' j k = ar_ M (j + s2) k := fun k h1 h2 => by
        rw [ar_at h1, ar_at h1, n2 k.toNat (by omega)]
      generalize (f' + j) % 200 = a at *
      have sX : ∀ g i, (i = a ∧ (g = 0 ∨ g = 3 ∨ g = 4)) ∨ (i = a + 12 ∧ 512 ≤ g ∧ g ≤ 521) ∨ (i = a + 5 ∧ 576 ≤ g ∧ g ≤ 580) → X' g i = X g i := fun g i q => x5 g i (by unfold acI; omega)
      refine ⟨c', p, q, b1, ?_, ?_, b4.fr (fun g h1 h2 => sX g _ (by omega)) (Int.le_refl _), ?_, ?_, b7.fr (fun g h1 h2 => sX g _ (by omega)) (fun k hk => ar k (by unfold shK at hk; omega) (by unfold shK at hk; omega)), b8.fr (fun g h1 h2 => sX g _ (by omega)) (fun k hk => ar k (by unfold skK at hk; omega) (by unfold skK at hk; omega)), ?_, fun k hk => ?_, ?_, fun k hk => ?_⟩
      · rw [sX 0 a (by omega)]; exact b2
      · rw [n1]; exact b3
      · rw [hX 513 c' (by omega)]; exact b5
      · rw [hX 514 c' (by omega)]; exact b6
      · rw [sX 3 a (by omega)]; exact b9.fr (fun k hk => ar k (by unfold flK at hk; omega) (by unfold flK at hk; omega))
      · rw [ar k (by omega) (by omega), hr]; exact b10 k hk
      · rw [ar 129 (by omega) (by omega), hr]; exact b11
      · rw [sX 4 a (by omega), n3 k hk]; exact b12 k hk
  have h1 : CvR X' M' n cnt' := r1.fr (Nat.le_refl n) (fun g hg i hi => hX g i (by unfold cvX kF at hg; omega)) (fun g hg => hM g 0 (by unfold cvM at hg; omega))
  have h8 : DrR X' M' := r8.fr (hX 711 0 (by omega)) (hM 787 0 (by omega))
  exact ⟨X', M', x1, m1, kx, m3, ⟨cnt', h1, hA, r3.fr (hX 128 0 (by omega)) (hX 129 0 (by omega)) (hM 769 0 (by omega)) (hM 773 0 (by omega)), r4.fr (hX 448 0 (by omega)) (hM 770 0 (by omega)), r5.fr (hX 449 0 (by omega)) (hM 782 0 (by omega)), r6.fr (hX 709 0 (by omega)) (hM 784 0 (by omega)), r7.fr (hX 708 0 (by omega)) (hM 785 0 (by omega)) (hX 710 0 (by omega)) (hM 788 0 (by omega)) (hX 712 0 (by omega)) (hM 786 0 (by omega)), r8.fr (hX 711 0 (by omega)) (hM 787 0 (by omega)), r9.fr (fun g _ _ => hX g 0 (by omega)) (fun g _ _ => hM g 0 (by omega)), r10.fr (hX 717 0 (by omega)) (hM 768 0 (by omega)), r11.fr (hX 640 0 (by omega)) (hM 802 0 (by omega)), r12.fr (hX 320 0 (by omega)) (hM 804 0 (by omega)), r13.fr (fun g _ _ => hX g 0 (by omega)) (fun g _ _ _ _ => hM g 0 (by omega)), r14.fr (hX 708 0 (by omega)) (fun i _ => hX 200 i (by omega))⟩, h1, h8⟩
/-- one cavern changes, as acts change it -/
def caF (f : Nat) : Prop := (512 ≤ f ∧ f ≤ 521 ∧ f ≠ 513 ∧ f ≠ 514) ∨ (576 ≤ f ∧ f ≤ 580) ∨ f = 198
def caM (k : Int) : Prop := shK k ∨ skK k ∨ flK k
theorem rel_cav {n cnt c : Nat} {X M X' M' : St} (h : Rel n X M) (r1 : CvR X M n cnt) (hc : c < cnt) (hX : ∀ f i, ¬ (i = c ∧ caF f) → f ≠ 711 → X' f i = X f i) (hM : ∀ f i, f ≠ 780 → f ≠ 787 → M' f i = M f i) (hr : ∀ (c' : Nat) (k : Int), c' < 5 → 0 ≤ k → k < 136 → ¬ (c' = c ∧ caM k) → rw_ M' c' k = rw_ M c' k) (hK : CvK X' M' c (n + 1)) (hm : CvM X' M' c (n + 1)) (hD : DrR X' M') : Rel (n + 1) X' M' := by
  have r1' := r1
  obtain ⟨cnt', r1, r2, r3, r4, r5, r6, r7, r8, r9, r10, r11, r12, r13, r14⟩ := h
  have ecnt : cnt' = cnt := by
    have e := r1.2.1
    rw [r1'.2.1] at e
    have h5 := r1.1
    have h6 := r1'.1
    have := (iI_eq (by omega) (by omega)).mp e
    omega
  subst ecnt
  clear r1'
  have c5 := r1.1
  have gX : ∀ f i, ¬ caF f → f ≠ 711 → X' f i = X f i := fun f i q1 q2 => hX f i (fun z => q1 z.2) q2
  refine ⟨cnt', r1.one (Nat.le_succ n) hc (fun f hf h7 i hi hne => hX f i (fun z => hne z.1) (by unfold cvX kF at hf; omega)) (congrFun (gX 707 0 (by unfold caF; omega) (by omega)) 0) (fun f hf h8 => hM f 0 h8 (by unfold cvM at hf; omega)) (fun c' h1 h2 k' h3 h4 => hr c' k' h1 h3 h4 (fun z => h2 z.1)) hK hm, r2.fr (Nat.le_succ n) (Nat.le_refl _) c5 (fun f hf i hi => ?_) (fun c' _ => ⟨gX 513 c' (by unfold caF; omega) (by omega), gX 514 c' (by unfold caF; omega) (by omega)⟩) (fun f _ _ => hM f 0 (by omega) (by omega)) (fun c' k' hc' hk' => hr c' k' hc' (by omega) (by omega) (by unfold caM shK skK flK; omega)), r3.fr (gX 128 0 (by unfold caF; omega) (by omega)) (gX 129 0 (by unfold caF; omega) (by omega)) (hM 769 0 (by omega) (by omega)) (hM 773 0 (by omega) (by omega)), r4.fr (gX 448 0 (by unfold caF; omega) (by omega)) (hM 770 0 (by omega) (by omega)), r5.fr (gX 449 0 (by unfold caF; omega) (by omega)) (hM 782 0 (by omega) (by omega)), r6.fr (gX 709 0 (by unfold caF; omega) (by omega)) (hM 784 0 (by omega) (by omega)), r7.fr (gX 708 0 (by unfold caF; omega) (by omega)) (hM 785 0 (by omega) (by omega)) (gX 710 0 (by unfold caF; omega) (by omega)) (hM 788 0 (by omega) (by omega)) (gX 712 0 (by unfold caF; omega) (by omega)) (hM 786 0 (by omega) (by omega)), hD, r9.fr (fun f _ _ => gX f 0 (by unfold caF; omega) (by omega)) (fun f _ _ => hM f 0 (by omega) (by omega)), r10.fr (gX 717 0 (by unfold caF; omega) (by omega)) (hM 768 0 (by omega) (by omega)), r11.fr (gX 640 0 (by unfold caF; omega) (by omega)) (hM 802 0 (by omega) (by omega)), r12.fr (gX 320 0 (by unfold caF; omega) (by omega)) (hM 804 0 (by omega) (by omega)), r13.fr (fun f _ _ => gX f 0 (by unfold caF; omega) (by omega)) (fun f _ _ _ _ => hM f 0 (by omega) (by omega)), r14.fr (gX 708 0 (by unfold caF; omega) (by omega)) (fun i _ => gX 200 i (by unfold caF; omega) (by omega))⟩
  exact hX f i (by unfold caF; unfold acX at hf; omega) (by unfold acX at hf; omega)
