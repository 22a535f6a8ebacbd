def shX (f : Nat) : Prop := f = 512 ∨ (515 ≤ f ∧ f ≤ 521)
def waM (k : Int) : Prop := shK k ∨ k = 131
section W
variable {X X' M M' : St} {i c : Nat} {r r' : Int → Int32} {Fm Fm' a b u F F' w v s : Int} {z z' : Int → Int}
theorem spk_ch (h : SPk X i r Fm a b u F w v s z) (q1 : ∀ f, f = 513 ∨ f = 514 ∨ f = 515 ∨ (519 ≤ f ∧ f ≤ 521) → X' f i = X f i) (q2 : ∀ k, (121 ≤ k ∧ k ≤ 123) ∨ k = 135 → r' k = r k) (q3 : 0 ≤ F' ∧ F' ≤ Fm') (q4 : X' 516 i 0 = iI F') (q5 : r' 120 = iI F') (q6 : X' 517 i 0 = r' 125) (q7 : X' 518 i 0 = r' 126) (q8 : ∀ l : Int, 0 ≤ l ∧ l < 30 → X' 512 i l.toNat = iI (z' l) ∧ r' l = iI (z' l) ∧ (0 ≤ z' l ∧ z' l ≤ 99999) ∧ (a ≤ l → l ≤ b → 1 ≤ z' l) ∧ (¬ (a ≤ l ∧ l ≤ b) → z' l = 0)) : SPk X' i r' Fm' a b u F' w v s z' := by
  obtain ⟨h1, h5, h6, h7, h8, h9, h10, h11, h12, h13, h14, h15, h16, h17, h18, h19, h20, h21, h22, h23⟩ := h
  refine ⟨h1, ?_, ?_, ?_, ?_, q3, q4, q5, h12, ?_, ?_, h15, ?_, ?_, h18, ?_, ?_, q6, q7, q8⟩
  · rw [q1 513 (by omega), h5]
  · rw [q1 514 (by omega), h6]
  · rw [q1 515 (by omega), h7]
  · rw [q2 135 (by omega), h8]
  · rw [q1 519 (by omega), h13]
  · rw [q2 121 (by omega), h14]
  · rw [q1 520 (by omega), h16]
  · rw [q2 122 (by omega), h17]
  · rw [q1 521 (by omega), h19]
  · rw [q2 123 (by omega), h20]
theorem spk_fr (h : SPk X i r Fm a b u F w v s z) (hF : Fm ≤ Fm') (q1 : ∀ f, 512 ≤ f → f ≤ 521 → X' f i = X f i) (q2 : ∀ k, shK k → r' k = r k) : SPk X' i r' Fm' a b u F w v s z := by
  obtain ⟨h1, h5, h6, h7, h8, h9, h10, h11, h12, h13, h14, h15, h16, h17, h18, h19, h20, h21, h22, h23⟩ := id h
  refine spk_ch h (fun f hf => q1 f (by omega) (by omega)) (fun k hk => q2 k (by unfold shK; omega)) (by omega) ?_ ?_ ?_ ?_ (fun l hl => ?_)
  · rw [q1 516 (by omega) (by omega), h10]
  · rw [q2 120 (by unfold shK; omega), h11]
  · rw [q1 517 (by omega) (by omega), q2 125 (by unfold shK; omega), h21]
  · rw [q1 518 (by omega) (by omega), q2 126 (by unfold shK; omega), h22]
  · rw [q1 512 (by omega) (by omega), q2 l (by unfold shK; omega)]
    exact h23 l hl
theorem FxS.bl {P : Nat → Prop} (h : FxS P i X X') (hp : ∀ f, P f → 512 ≤ f) (g : FmS waM c M M') (k : BLR X M) : BLR X' M' :=
  k.fr (h 448 0 (fun q => by have := hp _ q.2; omega)) (h 449 0 (fun q => by have := hp _ q.2; omega)) (g.1 770 0 (by omega)) (g.1 782 0 (by omega))
theorem mwS_fr {l d x F t : Int} (hc : c < 5) (hl : 0 ≤ l ∧ l < 30) : FmS shK c M (mwS M c l d x F t) := ((FmS.wr hc (by omega) (by unfold shK; omega)).tr (FmS.wr hc (by omega) (by unfold shK; omega))).tr (FmS.wr hc (by omega) (by unfold shK; omega))
theorem xwS_fr {l d x F t : Int} : FxS shX i X (xwS X i l d x F t) := ((FxS.wr (by unfold shX; omega)).tr (FxS.wr (by unfold shX; omega))).tr (FxS.wr (by unfold shX; omega))
theorem mwS_at {l d x F t k : Int} (hc : c < 5) (hl : 0 ≤ l ∧ l < 30) (hk : 0 ≤ k ∧ k < 136) : rw_ (mwS M c l d x F t) c k = if k = 126 then rw_ M c 126 + iI t else if k = 120 then iI (F + t) else if k = l then iI (x + d) else rw_ M c k := by
  unfold mwS
  by_cases h : k = 126
  · subst h; rw [if_pos rfl, rs_s hc (by omega)]
  rw [if_neg h, rs_n hc (by omega) hk h]
  by_cases h : k = 120
  · subst h; rw [if_pos rfl, rs_s hc (by omega)]
  rw [if_neg h, rs_n hc (by omega) hk h]
  by_cases h : k = l
  · subst h; rw [if_pos rfl, rs_s hc (by omega)]
  rw [if_neg h, rs_n hc (by omega) hk h]
theorem spk_w0 {l : Int} (hc : c < 5) (h : SPk X i (rw_ M c) Fm a b u F w v s z) (hl : 0 ≤ l ∧ l < 30) : SPk X i (rw_ (mwS M c l 0 (z l) F 0) c) Fm a b u F w v s z := by
  obtain ⟨h1, h5, h6, h7, h8, h9, h10, h11, h12, h13, h14, h15, h16, h17, h18, h19, h20, h21, h22, h23⟩ := id h
  refine spk_fr h (Int.le_refl _) (fun _ _ _ => rfl) (fun k hk => ?_)
  rw [mwS_at hc hl (by unfold shK at hk; omega)]
  by_cases e : k = 126
  · rw [if_pos e, e]; exact Int32.add_zero _
  rw [if_neg e]
  by_cases e : k = 120
  · rw [if_pos e, e, h11, Int.add_zero]
  rw [if_neg e]
  by_cases e : k = l
  · rw [if_pos e, e, (h23 l hl).2.1, Int.add_zero]
  rw [if_neg e]
theorem spk_w {l d t : Int} (hc : c < 5) (h : SPk X i (rw_ M c) Fm a b u F w v s z) (hl : a ≤ l ∧ l ≤ b) (hd : 0 ≤ d ∧ d + z l ≤ 99999) (ht : 0 ≤ t ∧ t ≤ 100) : SPk (xwS X i l d (z l) F t) i (rw_ (mwS M c l d (z l) F t) c) (Fm + 100) a b u (F + t) w v s (zu z l d) := by
  obtain ⟨h1, h5, h6, h7, h8, h9, h10, h11, h12, h13, h14, h15, h16, h17, h18, h19, h20, h21, h22, h23⟩ := id h
  refine spk_ch h (fun f hf => ?_) (fun k hk => ?_) (by omega) ?_ ?_ ?_ ?_ (fun j hj => ?_)
  · unfold xwS
    rw [wr_f (by omega), wr_f (by omega), wr_f (by omega)]
  · rw [mwS_at hc (by omega) (by omega), if_neg (by omega), if_neg (by omega), if_neg (by omega)]
  · unfold xwS
    rw [wr_f (by omega), wr_s]
  · rw [mwS_at hc (by omega) (by omega), if_neg (by omega), if_pos rfl]
  · rw [mwS_at hc (by omega) (by omega), if_neg (by omega), if_neg (by omega), if_neg (by omega), ← h21]
    unfold xwS
    rw [wr_f (by omega), wr_f (by omega), wr_f (by omega)]
  · rw [mwS_at hc (by omega) (by omega), if_pos rfl, ← h22]
    unfold xwS
    rw [wr_s]
  · obtain ⟨g1, g2, g3, g4, g5⟩ := h23 j hj
    rw [mwS_at hc (by omega) (by omega), if_neg (by omega), if_neg (by omega)]
    unfold xwS zu
    rw [wr_f (by omega), wr_f (by omega)]
    by_cases e : j = l
    · subst e
      rw [wr_s, if_pos rfl, if_pos rfl]
      exact ⟨rfl, rfl, by omega, fun q1 q2 => by have := g4 q1 q2; omega, fun q => absurd hl q⟩
    · rw [wr_j (by omega), if_neg e, if_neg e]
      exact ⟨g1, g2, g3, g4, g5⟩
end W
theorem x_wash_end {S : St} {i : Nat} {n o q y m : Int} (hm : 0 ≤ m ∧ m < 1000) : l_Sh_wash_42 i (iI n) (iI o) (iI q) (iI y) (iI m) (iI m) S = (f_Sh_settle i (st_wr S 517 i 0 (S 517 i 0 + iI o))).bind fun S1 => some (iI o, S1) := by
  rw [ul_Sh_wash_42]; simp (maxSteps := 2000000) (disch := omega) only [Int.toNat_natCast, bif_d, bif_n, cond_true, cond_false, Option.bind_some, Option.bind_none, Option.elim_some, Option.elim_none, iI_add, iI_sub, iI_mul, iI_neg, iI_lt, iI_le, iI_eq, inb_t, iI_cl, bI_0, bI_1, zn_b, zn_i0, zn_i1, if_pos, if_neg, if_true, if_false, reduceIte, not_true_eq_false, not_false_eq_true, and_true, true_and, and_self, li_0, li_1, li_2, li_3, li_4, li_5, li_6, li_7, li_8, li_9, li_10, li_11, li_12, li_13, li_14, li_15, li_16, li_17, li_18, li_19, li_20, li_21, li_22, li_23, li_24, li_25, li_26, li_27, li_28, li_29, li_30, li_31, li_32, li_33, li_34, li_35, li_36, li_37, li_38, li_39, li_40, li_41, li_42, li_43, li_44, li_45, li_46, li_47, li_48, li_49, li_50, li_51, li_52, li_53, li_54, li_55, li_56, li_57, li_58, li_59, li_60, li_61, li_62, li_63, li_64, li_90, li_99, li_100, li_104, li_115, li_120, li_121, li_122, li_123, li_124, li_125, li_126, li_127, li_128, li_129, li_130, li_131, li_132, li_133, li_134, li_135, li_136, li_199, li_200, li_255, li_256, li_512, li_680, li_999, li_1000, li_1194, li_1199, li_1200, li_9999, li_10000, li_27064, li_27200, li_99999, li_1000000000, li_2000000000, iL_of, lL_0, lL_1, lL_3, lL_5, lL_8, lL_9, lL_11, lL_17, lL_29, lL_60, lL_99, lL_999, lL_9999, lL_99999, m_isInL, m_outL, x_out, x_ref, m_no, oI_l, oI_g, oI_i, wr_s, wr_f, wr_j, wr_i, rs_f, rw_rs]
theorem wash_l {i c : Nat} (hc : c < 5) {n a b u w v s y m Fm : Int} (hn : 1 ≤ n ∧ n ≤ 99) (hm : 1 ≤ m ∧ m ≤ 30) (hF : Fm ≤ 900000000) : ∀ (k : Nat) (j l o F : Int) (z : Int → Int) (S T : St), j + k + 1 = m → 0 ≤ j → (y = 1 ∧ l = w + j ∧ v = w + (m - 1)) ∨ (y = -1 ∧ l = w - j ∧ v = w - (m - 1)) → 0 ≤ o ∧ o ≤ 98 * j → SPk S i (rw_ T c) (Fm + 100 * j) a b u F w v s z → BLR S T → T 778 0 c = iI a →
    ∃ o' X' M' u' F' w' v' s' z', l_Sh_wash_42 i (iI n) (iI o) (iI (strF o n)) (iI y) (iI m) (iI j) S = some (iI o', X') ∧ l_m_washes_37 (iI c) (iI n) (iI (strF o n)) (iI o) (iI l) (iI v) (iI y) T = some (iI o', M') ∧ 0 ≤ o' ∧ SPk X' i (rw_ M' c) (Fm + 100 * m) a b u' F' w' v' s' z' ∧ FxS shX i S X' ∧ FmS waM c T M' ∧ rw_ M' c 131 = iI 1 := by
  intro k
  induction k with
  | zero =>
    intro j l o F z S T hj hj0 hy ho h hB m1
    obtain ⟨⟨h1, h2, h3, h4⟩, h5, h6, h7, h8, h9, h10, h11, h12, h13, h14, h15, h16, h17, h18, h19, h20, h21, h22, h23⟩ := id h
    have hlv : l = v := by omega
    obtain ⟨bd, b1, b2, b3, b4⟩ := hB.1 l (by omega)
    have hst := strF_b (o := o) (n := n) (by omega) hn
    obtain ⟨q, q1, q2, q3, q4⟩ := hB.2 (strF o n / 10) (by omega)
    obtain ⟨z1, z2, z3, z4, z5⟩ := h23 l (by omega)
    have hw := wI_b (l := l) (s := s) (bd := bd) hn ⟨q1, q2⟩
    have hd := dI_b (l := l) (a := a) ⟨hw.2.2.1, hw.2.2.2⟩ z3
    have ht := tyI_b (d := dI l a (wI l s bd n q) (z l)) (by omega) ⟨b1, b2⟩
    have ex := x_wstep (S := S) (T := T) (i := i) (n := n) (o := o) (y := y) (m := m) (j := j) (w := w) (s := s) (l := l) (a := a) (b := b) (u := u) (F := F) (z := z l) (bd := bd) (q := q) hn (by omega) (by omega) (by omega) (by rcases hy with ⟨rfl, e, -⟩ | ⟨rfl, e, -⟩ <;> omega) (by omega) (by omega) (by omega) (by omega) (by omega) (by omega) h5 h6 h7 h10 h13 h19 z3 z1 ⟨b1, b2⟩ b3 ⟨q1, q2⟩ q3 rfl rfl
    have em := m_wstep (T := T) (c := c) (n := n) (o := o) (l := l) (e := v) (y := y) (z := z l) (F := F) (bd := bd) (a := a) (s := s) (q := q) hc hn (by omega) (by omega) (by omega) (by omega) (by omega) m1 h20 ⟨q1, q2⟩ q4 z3 ⟨b1, b2⟩ b4 rfl rfl z2 h11
    unfold mwE at em
    rw [if_pos hlv] at em
    have hg : ∃ S' o' F' z', l_Sh_wash_42 i (iI n) (iI o) (iI (strF o n)) (iI y) (iI m) (iI j) S = l_Sh_wash_42 i (iI n) (iI o') (iI (strF o' n)) (iI y) (iI m) (iI m) S' ∧ o' = o + (dI l a (wI l s bd n q) (z l) - tyI bd (dI l a (wI l s bd n q) (z l))) ∧ 0 ≤ o' ∧ SPk S' i (rw_ (mwS T c l (dI l a (wI l s bd n q) (z l)) (z l) F (tyI bd (dI l a (wI l s bd n q) (z l)))) c) (Fm + 100 * m) a b u F' w v s z' ∧ FxS shX i S S' := by
      by_cases hls : l < s
      · have ed : dI l a (wI l s bd n q) (z l) = 0 := by
          unfold dI wI
          rw [if_pos (Or.inl hls)]
          by_cases g : l = a
          · rw [if_pos g]; omega
          · rw [if_neg g]; omega
        rw [ed] at ht
        rw [ed, show tyI bd 0 = 0 by omega]
        refine ⟨S, o, F, z, ?_, by omega, by omega, spk_fr (spk_w0 hc h (by omega)) (by omega) (fun _ _ _ => rfl) (fun _ _ => rfl), FxS.refl S⟩
        rw [ex, if_pos hls, show j + 1 = m by omega]
      · refine ⟨_, _, _, _, ?_, rfl, by omega, spk_fr (spk_w hc h (by omega) (by omega) (by omega)) (by omega) (fun _ _ _ => rfl) (fun _ _ => rfl), xwS_fr⟩
        rw [ex, if_neg hls, show j + 1 = m by omega]
    obtain ⟨S', o', F', z', g1, g2, g3, g4, g5⟩ := hg
    rw [← g2] at em
    have fm : FmS waM c T (mwS T c l (dI l a (wI l s bd n q) (z l)) (z l) F (tyI bd (dI l a (wI l s bd n q) (z l)))) := (mwS_fr hc (by omega)).mo (fun k q => Or.inl q)
    generalize mwS T c l (dI l a (wI l s bd n q) (z l)) (z l) F (tyI bd (dI l a (wI l s bd n q) (z l))) = T' at *
    have k4 : SPk (st_wr S' 517 i 0 (S' 517 i 0 + iI o')) i (rw_ (rs_ (rs_ T' c 125 (rw_ T' c 125 + iI o')) c 131 (iI 1)) c) (Fm + 100 * m) a b u F' w v s z' := by
      obtain ⟨k1, k5, k6, k7, k8, k9, k10, k11, k12, k13, k14, k15, k16, k17, k18, k19, k20, k21, k22, k23⟩ := id g4
      refine spk_ch g4 (fun f hf => wr_f (by omega)) (fun k hk => by rw [rs_n hc (by omega) (by omega) (by omega), rs_n hc (by omega) (by omega) (by omega)]) k9 (by rw [wr_f (by omega), k10]) (by rw [rs_n hc (by omega) (by omega) (by omega), rs_n hc (by omega) (by omega) (by omega), k11]) (by rw [wr_s, rs_n hc (by omega) (by omega) (by omega), rs_s hc (by omega), k21]) (by rw [wr_f (by omega), rs_n hc (by omega) (by omega) (by omega), rs_n hc (by omega) (by omega) (by omega), k22]) (fun l hl => by rw [wr_f (by omega), rs_n hc (by omega) (by omega) (by omega), rs_n hc (by omega) (by omega) (by omega)]; exact k23 l hl)
    have f3 : FmS waM c T' (rs_ (rs_ T' c 125 (rw_ T' c 125 + iI o')) c 131 (iI 1)) := (FmS.wr hc (by omega) (by unfold waM shK; omega)).tr (FmS.wr hc (by omega) (by unfold waM; omega))
    obtain ⟨X', M', u', F2, w', v', s', p1, p2, p3, p4, p5⟩ := settle_b hc k4 (by omega) (by rw [f3.1 778 0 (by omega), fm.1 778 0 (by omega), m1])
    refine ⟨o', X', M', u', F2, w', v', s', z', ?_, ?_, g3, p3, (g5.tr (FxS.wr (by unfold shX; omega))).tr (p4.mo (fun f q => by unfold stlX at q; unfold shX; omega)), (fm.tr f3).tr (p5.mo (fun k q => by unfold stlM at q; unfold waM shK; omega)), ?_⟩
    · rw [g1, x_wash_end (by omega), p1]; rfl
    · rw [em, p2]; rfl
    · rw [p5.2 c 131 hc (by omega) (by omega) (by unfold stlM; omega), rs_s hc (by omega)]
  | succ k ih =>
    intro j l o F z S T hj hj0 hy ho h hB m1
    obtain ⟨⟨h1, h2, h3, h4⟩, h5, h6, h7, h8, h9, h10, h11, h12, h13, h14, h15, h16, h17, h18, h19, h20, h21, h22, h23⟩ := id h
    have hlv : ¬ l = v := by omega
    obtain ⟨bd, b1, b2, b3, b4⟩ := hB.1 l (by omega)
    have hst := strF_b (o := o) (n := n) (by omega) hn
    obtain ⟨q, q1, q2, q3, q4⟩ := hB.2 (strF o n / 10) (by omega)
    obtain ⟨z1, z2, z3, z4, z5⟩ := h23 l (by omega)
    have hw := wI_b (l := l) (s := s) (bd := bd) hn ⟨q1, q2⟩
    have hd := dI_b (l := l) (a := a) ⟨hw.2.2.1, hw.2.2.2⟩ z3
    have ht := tyI_b (d := dI l a (wI l s bd n q) (z l)) (by omega) ⟨b1, b2⟩
    have ex := x_wstep (S := S) (T := T) (i := i) (n := n) (o := o) (y := y) (m := m) (j := j) (w := w) (s := s) (l := l) (a := a) (b := b) (u := u) (F := F) (z := z l) (bd := bd) (q := q) hn (by omega) (by omega) (by omega) (by rcases hy with ⟨rfl, e, -⟩ | ⟨rfl, e, -⟩ <;> omega) (by omega) (by omega) (by omega) (by omega) (by omega) (by omega) h5 h6 h7 h10 h13 h19 z3 z1 ⟨b1, b2⟩ b3 ⟨q1, q2⟩ q3 rfl rfl
    have em := m_wstep (T := T) (c := c) (n := n) (o := o) (l := l) (e := v) (y := y) (z := z l) (F := F) (bd := bd) (a := a) (s := s) (q := q) hc hn (by omega) (by omega) (by omega) (by omega) (by omega) m1 h20 ⟨q1, q2⟩ q4 z3 ⟨b1, b2⟩ b4 rfl rfl z2 h11
    unfold mwE at em
    rw [if_neg hlv] at em
    have hg : ∃ S' o' F' z', l_Sh_wash_42 i (iI n) (iI o) (iI (strF o n)) (iI y) (iI m) (iI j) S = l_Sh_wash_42 i (iI n) (iI o') (iI (strF o' n)) (iI y) (iI m) (iI (j + 1)) S' ∧ o' = o + (dI l a (wI l s bd n q) (z l) - tyI bd (dI l a (wI l s bd n q) (z l))) ∧ SPk S' i (rw_ (mwS T c l (dI l a (wI l s bd n q) (z l)) (z l) F (tyI bd (dI l a (wI l s bd n q) (z l)))) c) (Fm + 100 * (j + 1)) a b u F' w v s z' ∧ FxS shX i S S' := by
      by_cases hls : l < s
      · have ed : dI l a (wI l s bd n q) (z l) = 0 := by
          unfold dI wI
          rw [if_pos (Or.inl hls)]
          by_cases g : l = a
          · rw [if_pos g]; omega
          · rw [if_neg g]; omega
        rw [ed] at ht
        rw [ed, show tyI bd 0 = 0 by omega]
        refine ⟨S, o, F, z, ?_, by omega, spk_fr (spk_w0 hc h (by omega)) (by omega) (fun _ _ _ => rfl) (fun _ _ => rfl), FxS.refl S⟩
        rw [ex, if_pos hls]
      · refine ⟨_, _, _, _, ?_, rfl, spk_fr (spk_w hc h (by omega) (by omega) (by omega)) (by omega) (fun _ _ _ => rfl) (fun _ _ => rfl), xwS_fr⟩
        rw [ex, if_neg hls]
    obtain ⟨S', o', F', z', g1, g2, g4, g5⟩ := hg
    rw [← g2] at em
    have fm : FmS waM c T (mwS T c l (dI l a (wI l s bd n q) (z l)) (z l) F (tyI bd (dI l a (wI l s bd n q) (z l)))) := (mwS_fr hc (by omega)).mo (fun k q => Or.inl q)
    generalize mwS T c l (dI l a (wI l s bd n q) (z l)) (z l) F (tyI bd (dI l a (wI l s bd n q) (z l))) = T' at *
    obtain ⟨o2, X', M', u', F2, w', v', s', z2, p1, p2, p3, p4, p5, p6, p7⟩ := ih (j + 1) (l + y) o' F' z' S' T' (by omega) (by omega) (by rcases hy with ⟨rfl, e, e2⟩ | ⟨rfl, e, e2⟩ <;> omega) (by omega) g4 (g5.bl (fun f q => by unfold shX at q; omega) fm hB) (by rw [fm.1 778 0 (by omega), m1])
    exact ⟨o2, X', M', u', F2, w', v', s', z2, by rw [g1, p1], by rw [em, p2], p3, p4, g5.tr p5, fm.tr p6, p7⟩
/-- a step keeps a shape and its row in step -/
theorem wash_b {X M : St} {i c : Nat} {Fm a b u F w v s n : Int} {z : Int → Int} (hc : c < 5) (h : SPk X i (rw_ M c) Fm a b u F w v s z) (hF : Fm ≤ 900000000) (m1 : M 778 0 c = iI a) (hB : BLR X M) (hn : 1 ≤ n ∧ n ≤ 99) : ∃ o X' M' u' F' w' v' s' z', f_Sh_wash i (iI n) X = some (iI o, X') ∧ f_m_washes (iI c) (iI n) M = some (iI o, M') ∧ 0 ≤ o ∧ SPk X' i (rw_ M' c) (Fm + 3000) a b u' F' w' v' s' z' ∧ FxS shX i X X' ∧ FmS waM c M M' ∧ rw_ M' c 131 = iI 1 := by
  obtain ⟨⟨h1, h2, h3, h4⟩, h5, h6, h7, h8, h9, h10, h11, h12, h13, h14, h15, h16, h17, h18, h19, h20, h21, h22, h23⟩ := id h
  have e0 : strF 0 n = 0 := by
    unfold strF
    rw [Int.mul_zero, Int.zero_ediv]; rfl
  by_cases hy : w ≤ v
  · obtain ⟨o, X', M', u', F', w', v', s', z', p1, p2, p3, p4, p5, p6, p7⟩ := wash_l (i := i) hc (a := a) (b := b) (u := u) (w := w) (v := v) (s := s) (y := 1) (m := v - w + 1) hn (by omega) hF (v - w).toNat 0 w 0 F z X M (by omega) (by omega) (Or.inl ⟨rfl, by omega, by omega⟩) (by omega) (spk_fr h (by omega) (fun _ _ _ => rfl) (fun _ _ => rfl)) hB m1
    rw [e0] at p1 p2
    refine ⟨o, X', M', u', F', w', v', s', z', ?_, ?_, p3, spk_fr p4 (by omega) (fun _ _ _ => rfl) (fun _ _ => rfl), p5, p6, p7⟩
    · rw [uf_Sh_wash]; simp (maxSteps := 2000000) (disch := omega) only [Int.toNat_natCast, bif_d, bif_n, cond_true, cond_false, Option.bind_some, Option.bind_none, Option.elim_some, Option.elim_none, iI_add, iI_sub, iI_mul, iI_neg, iI_lt, iI_le, iI_eq, inb_t, iI_cl, bI_0, bI_1, zn_b, zn_i0, zn_i1, if_pos, if_neg, if_true, if_false, reduceIte, not_true_eq_false, not_false_eq_true, and_true, true_and, and_self, li_0, li_1, li_2, li_3, li_4, li_5, li_6, li_7, li_8, li_9, li_10, li_11, li_12, li_13, li_14, li_15, li_16, li_17, li_18, li_19, li_20, li_21, li_22, li_23, li_24, li_25, li_26, li_27, li_28, li_29, li_30, li_31, li_32, li_33, li_34, li_35, li_36, li_37, li_38, li_39, li_40, li_41, li_42, li_43, li_44, li_45, li_46, li_47, li_48, li_49, li_50, li_51, li_52, li_53, li_54, li_55, li_56, li_57, li_58, li_59, li_60, li_61, li_62, li_63, li_64, li_90, li_99, li_100, li_104, li_115, li_120, li_121, li_122, li_123, li_124, li_125, li_126, li_127, li_128, li_129, li_130, li_131, li_132, li_133, li_134, li_135, li_136, li_199, li_200, li_255, li_256, li_512, li_680, li_999, li_1000, li_1194, li_1199, li_1200, li_9999, li_10000, li_27064, li_27200, li_99999, li_1000000000, li_2000000000, iL_of, lL_0, lL_1, lL_3, lL_5, lL_8, lL_9, lL_11, lL_17, lL_29, lL_60, lL_99, lL_999, lL_9999, lL_99999, m_isInL, m_outL, x_out, x_ref, m_no, oI_l, oI_g, oI_i, wr_s, wr_f, wr_j, wr_i, rs_f, rw_rs, h13, h16, ab_i]
      rw [show ((v - w).natAbs : Int) + 1 = v - w + 1 by omega]; exact p1
    · rw [uf_m_washes]; simp (maxSteps := 2000000) (disch := omega) only [Int.toNat_natCast, bif_d, bif_n, cond_true, cond_false, Option.bind_some, Option.bind_none, Option.elim_some, Option.elim_none, iI_add, iI_sub, iI_mul, iI_neg, iI_lt, iI_le, iI_eq, inb_t, iI_cl, bI_0, bI_1, zn_b, zn_i0, zn_i1, if_pos, if_neg, if_true, if_false, reduceIte, not_true_eq_false, not_false_eq_true, and_true, true_and, and_self, li_0, li_1, li_2, li_3, li_4, li_5, li_6, li_7, li_8, li_9, li_10, li_11, li_12, li_13, li_14, li_15, li_16, li_17, li_18, li_19, li_20, li_21, li_22, li_23, li_24, li_25, li_26, li_27, li_28, li_29, li_30, li_31, li_32, li_33, li_34, li_35, li_36, li_37, li_38, li_39, li_40, li_41, li_42, li_43, li_44, li_45, li_46, li_47, li_48, li_49, li_50, li_51, li_52, li_53, li_54, li_55, li_56, li_57, li_58, li_59, li_60, li_61, li_62, li_63, li_64, li_90, li_99, li_100, li_104, li_115, li_120, li_121, li_122, li_123, li_124, li_125, li_126, li_127, li_128, li_129, li_130, li_131, li_132, li_133, li_134, li_135, li_136, li_199, li_200, li_255, li_256, li_512, li_680, li_999, li_1000, li_1194, li_1199, li_1200, li_9999, li_10000, li_27064, li_27200, li_99999, li_1000000000, li_2000000000, iL_of, lL_0, lL_1, lL_3, lL_5, lL_8, lL_9, lL_11, lL_17, lL_29, lL_60, lL_99, lL_999, lL_9999, lL_99999, m_isInL, m_outL, x_out, x_ref, m_no, oI_l, oI_g, oI_i, wr_s, wr_f, wr_j, wr_i, rs_f, rw_rs, m_get, h14, h17]; exact p2
  · obtain ⟨o, X', M', u', F', w', v', s', z', p1, p2, p3, p4, p5, p6, p7⟩ := wash_l (i := i) hc (a := a) (b := b) (u := u) (w := w) (v := v) (s := s) (y := -1) (m := w - v + 1) hn (by omega) hF (w - v).toNat 0 w 0 F z X M (by omega) (by omega) (Or.inr ⟨rfl, by omega, by omega⟩) (by omega) (spk_fr h (by omega) (fun _ _ _ => rfl) (fun _ _ => rfl)) hB m1
    rw [e0] at p1 p2
    refine ⟨o, X', M', u', F', w', v', s', z', ?_, ?_, p3, spk_fr p4 (by omega) (fun _ _ _ => rfl) (fun _ _ => rfl), p5, p6, p7⟩
    · rw [uf_Sh_wash]; simp (maxSteps := 2000000) (disch := omega) only [Int.toNat_natCast, bif_d, bif_n, cond_true, cond_false, Option.bind_some, Option.bind_none, Option.elim_some, Option.elim_none, iI_add, iI_sub, iI_mul, iI_neg, iI_lt, iI_le, iI_eq, inb_t, iI_cl, bI_0, bI_1, zn_b, zn_i0, zn_i1, if_pos, if_neg, if_true, if_false, reduceIte, not_true_eq_false, not_false_eq_true, and_true, true_and, and_self, li_0, li_1, li_2, li_3, li_4, li_5, li_6, li_7, li_8, li_9, li_10, li_11, li_12, li_13, li_14, li_15, li_16, li_17, li_18, li_19, li_20, li_21, li_22, li_23, li_24, li_25, li_26, li_27, li_28, li_29, li_30, li_31, li_32, li_33, li_34, li_35, li_36, li_37, li_38, li_39, li_40, li_41, li_42, li_43, li_44, li_45, li_46, li_47, li_48, li_49, li_50, li_51, li_52, li_53, li_54, li_55, li_56, li_57, li_58, li_59, li_60, li_61, li_62, li_63, li_64, li_90, li_99, li_100, li_104, li_115, li_120, li_121, li_122, li_123, li_124, li_125, li_126, li_127, li_128, li_129, li_130, li_131, li_132, li_133, li_134, li_135, li_136, li_199, li_200, li_255, li_256, li_512, li_680, li_999, li_1000, li_1194, li_1199, li_1200, li_9999, li_10000, li_27064, li_27200, li_99999, li_1000000000, li_2000000000, iL_of, lL_0, lL_1, lL_3, lL_5, lL_8, lL_9, lL_11, lL_17, lL_29, lL_60, lL_99, lL_999, lL_9999, lL_99999, m_isInL, m_outL, x_out, x_ref, m_no, oI_l, oI_g, oI_i, wr_s, wr_f, wr_j, wr_i, rs_f, rw_rs, h13, h16, ab_i]
      rw [show ((v - w).natAbs : Int) + 1 = w - v + 1 by omega]; exact p1
    · rw [uf_m_washes]; simp (maxSteps := 2000000) (disch := omega) only [Int.toNat_natCast, bif_d, bif_n, cond_true, cond_false, Option.bind_some, Option.bind_none, Option.elim_some, Option.elim_none, iI_add, iI_sub, iI_mul, iI_neg, iI_lt, iI_le, iI_eq, inb_t, iI_cl, bI_0, bI_1, zn_b, zn_i0, zn_i1, if_pos, if_neg, if_true, if_false, reduceIte, not_true_eq_false, not_false_eq_true, and_true, true_and, and_self, li_0, li_1, li_2, li_3, li_4, li_5, li_6, li_7, li_8, li_9, li_10, li_11, li_12, li_13, li_14, li_15, li_16, li_17, li_18, li_19, li_20, li_21, li_22, li_23, li_24, li_25, li_26, li_27, li_28, li_29, li_30, li_31, li_32, li_33, li_34, li_35, li_36, li_37, li_38, li_39, li_40, li_41, li_42, li_43, li_44, li_45, li_46, li_47, li_48, li_49, li_50, li_51, li_52, li_53, li_54, li_55, li_56, li_57, li_58, li_59, li_60, li_61, li_62, li_63, li_64, li_90, li_99, li_100, li_104, li_115, li_120, li_121, li_122, li_123, li_124, li_125, li_126, li_127, li_128, li_129, li_130, li_131, li_132, li_133, li_134, li_135, li_136, li_199, li_200, li_255, li_256, li_512, li_680, li_999, li_1000, li_1194, li_1199, li_1200, li_9999, li_10000, li_27064, li_27200, li_99999, li_1000000000, li_2000000000, iL_of, lL_0, lL_1, lL_3, lL_5, lL_8, lL_9, lL_11, lL_17, lL_29, lL_60, lL_99, lL_999, lL_9999, lL_99999, m_isInL, m_outL, x_out, x_ref, m_no, oI_l, oI_g, oI_i, wr_s, wr_f, wr_j, wr_i, rs_f, rw_rs, m_get, h14, h17]; exact p2
