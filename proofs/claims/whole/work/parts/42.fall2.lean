def faX (f : Nat) : Prop := shX f ∨ f = 195 ∨ f = 198 ∨ f = 199
def faM (k : Int) : Prop := shK k ∨ (30 ≤ k ∧ k < 60) ∨ k = 124 ∨ k = 134
section F
variable {X M : St} {c : Nat} {l t d F w v a : Int}
theorem falX_fr : FxS faX c X (falX X c l t d F w v a) := by
  have h1 : FxS faX c X (fa1X X c l t) := (FxS.wr (by unfold faX shX; omega)).tr (FxS.wr (by unfold faX; omega))
  have h2 : ∀ Y (p : Prop) [Decidable p], FxS faX c Y (fa2X Y c p) := fun Y p _ => by
    unfold fa2X
    by_cases h : p
    · rw [if_pos h]; exact FxS.wr (by unfold faX; omega)
    · rw [if_neg h]; exact FxS.refl _
  have h3 : ∀ Y (p : Prop) [Decidable p], FxS faX c Y (fa3X Y c p) := fun Y p _ => by
    unfold fa3X
    by_cases h : p
    · rw [if_pos h]; exact FxS.wr (by unfold faX; omega)
    · rw [if_neg h]; exact FxS.refl _
  exact (((h1.tr (h2 _ _)).tr (h3 _ _)).tr (FxS.wr (by unfold faX shX; omega))).tr (FxS.wr (by unfold faX shX; omega))
theorem fa2_f {Y : St} {p : Prop} [Decidable p] {f i : Nat} (h : f ≠ 199) : fa2X Y c p f i = Y f i := by
  unfold fa2X
  by_cases q : p
  · rw [if_pos q, wr_f h]
  · rw [if_neg q]
theorem fa3_f {Y : St} {p : Prop} [Decidable p] {f i : Nat} (h : f ≠ 198) : fa3X Y c p f i = Y f i := by
  unfold fa3X
  by_cases q : p
  · rw [if_pos q, wr_f h]
  · rw [if_neg q]
theorem falX_n {f i : Nat} (h : f ≠ 512) (h1 : f ≠ 195) (h2 : f ≠ 198) (h3 : f ≠ 199) (h4 : f ≠ 516) (h5 : f ≠ 518) : falX X c l t d F w v a f i = X f i := by
  unfold falX fa1X
  rw [wr_f h5, wr_f h4, fa3_f h2, fa2_f h3, wr_f h1, wr_f h]
theorem falX_z {k : Nat} : falX X c l t d F w v a 512 c k = if k = l.toNat then iI t else X 512 c k := by
  unfold falX fa1X
  rw [wr_f (by omega), wr_f (by omega), fa3_f (by omega), fa2_f (by omega), wr_f (by omega), wr_ap]
  by_cases e : k = l.toNat
  · rw [if_pos e, if_pos ⟨rfl, rfl, e⟩]
  · rw [if_neg e, if_neg (fun q => e q.2.2)]
theorem falX_195 {k : Nat} : falX X c l t d F w v a 195 c k = if k = l.toNat then iI 1 else X 195 c k := by
  unfold falX fa1X
  rw [wr_f (by omega), wr_f (by omega), fa3_f (by omega), fa2_f (by omega), wr_ap]
  by_cases e : k = l.toNat
  · rw [if_pos e, if_pos ⟨rfl, rfl, e⟩]
  · rw [if_neg e, if_neg (fun q => e q.2.2), wr_f (by omega)]
theorem falX_199 : falX X c l t d F w v a 199 c 0 = if l < w ∨ l < v then iI 1 else X 199 c 0 := by
  unfold falX
  rw [wr_f (by omega), wr_f (by omega), fa3_f (by omega)]
  unfold fa2X fa1X
  by_cases h : l < w ∨ l < v
  · rw [if_pos h, if_pos h, wr_s]
  · rw [if_neg h, if_neg h, wr_f (by omega), wr_f (by omega)]
theorem falX_198 : falX X c l t d F w v a 198 c 0 = if l = a then iI 4 else X 198 c 0 := by
  unfold falX
  rw [wr_f (by omega), wr_f (by omega)]
  unfold fa3X
  by_cases h : l = a
  · rw [if_pos h, if_pos h, wr_s]
  · rw [if_neg h, if_neg h, fa2_f (by omega)]
    unfold fa1X
    rw [wr_f (by omega), wr_f (by omega)]
theorem falM_fr (hc : c < 5) (hl : 0 ≤ l ∧ l < 30) : FmS faM c (st_wr M 814 0 0 (iI 0)) (falM M c l t d F w v) := by
  have h1 : FmS faM c (st_wr M 814 0 0 (iI 0)) (fa1M M c l t d F) := (((FmS.wr hc (by omega) (by unfold faM shK; omega)).tr (FmS.wr hc (by omega) (by unfold faM shK; omega))).tr (FmS.wr hc (by omega) (by unfold faM shK; omega))).tr (FmS.wr hc (by omega) (by unfold faM shK; omega))
  unfold falM
  by_cases h : l < w ∨ l < v
  · rw [if_pos h]; exact h1.tr (FmS.wr hc (by omega) (by unfold faM; omega))
  · rw [if_neg h]; exact h1
theorem falM_at {k : Int} (hc : c < 5) (hl : 0 ≤ l ∧ l < 30) (hk : 0 ≤ k ∧ k < 136) : rw_ (falM M c l t d F w v) c k = if k = 124 ∧ (l < w ∨ l < v) then iI 1 else if k = 30 + l then iI 1 else if k = 126 then rw_ M c 126 + iI d else if k = 120 then iI (F + d) else if k = l then iI t else rw_ M c k := by
  have h1 : rw_ (fa1M M c l t d F) c k = if k = 30 + l then iI 1 else if k = 126 then rw_ M c 126 + iI d else if k = 120 then iI (F + d) else if k = l then iI t else rw_ M c k := by
    unfold fa1M
    by_cases e : k = 30 + l
    · rw [if_pos e, e, rs_s hc (by omega)]
    rw [if_neg e, rs_n hc (by omega) hk e]
    by_cases e : k = 126
    · rw [if_pos e, e, rs_s hc (by omega)]
    rw [if_neg e, rs_n hc (by omega) hk e]
    by_cases e : k = 120
    · rw [if_pos e, e, rs_s hc (by omega)]
    rw [if_neg e, rs_n hc (by omega) hk e]
    by_cases e : k = l
    · rw [if_pos e, e, rs_s hc (by omega)]
    rw [if_neg e, rs_n hc (by omega) hk e, rw_fr (wr_f (by omega))]
  unfold falM
  by_cases h : l < w ∨ l < v
  · rw [if_pos h]
    by_cases e : k = 124
    · rw [if_pos ⟨e, h⟩, e, rs_s hc (by omega)]
    · rw [if_neg (fun q => e q.1), rs_n hc (by omega) hk e, h1]
  · rw [if_neg h, if_neg (fun q => h q.2), h1]
theorem falM_lo {k : Int} (hc : c < 5) (hl : 0 ≤ l ∧ l < 30) (hk : 0 ≤ k ∧ k < 30) : rw_ (falM M c l t d F w v) c k = if k = l then iI t else rw_ M c k := by
  rw [falM_at hc hl (by omega), if_neg (by omega), if_neg (by omega), if_neg (by omega), if_neg (by omega)]
theorem falM_md {k : Int} (hc : c < 5) (hl : 0 ≤ l ∧ l < 30) (hk : 30 ≤ k ∧ k < 60) : rw_ (falM M c l t d F w v) c k = if k = 30 + l then iI 1 else rw_ M c k := by
  rw [falM_at hc hl (by omega), if_neg (by omega)]
  by_cases e : k = 30 + l
  · rw [if_pos e, if_pos e]
  · rw [if_neg e, if_neg e, if_neg (by omega), if_neg (by omega), if_neg (by omega)]
theorem falM_124 (hc : c < 5) (hl : 0 ≤ l ∧ l < 30) : rw_ (falM M c l t d F w v) c 124 = if l < w ∨ l < v then iI 1 else rw_ M c 124 := by
  rw [falM_at hc hl (by omega)]
  by_cases e : l < w ∨ l < v
  · rw [if_pos ⟨rfl, e⟩, if_pos e]
  · rw [if_neg (fun q => e q.2), if_neg e, if_neg (by omega), if_neg (by omega), if_neg (by omega), if_neg (by omega)]
end F
theorem spk_fall {X M : St} {c : Nat} {Fm a b u F w v s l d : Int} {z : Int → Int} (hc : c < 5) (h : SPk X c (rw_ M c) Fm a b u F w v s z) (hl : a ≤ l ∧ l ≤ b) (hd : 0 ≤ d ∧ d ≤ 100000) (hz : z l + d ≤ 99999) : SPk (falX X c l (z l + d) d F w v a) c (rw_ (falM M c l (z l + d) d F w v) c) (Fm + 100000) a b u (F + d) w v s (zu z l d) := by
  obtain ⟨⟨h1, h2, h3, h4⟩, h5, h6, h7, h8, h9, h10, h11, h12, h13, h14, h15, h16, h17, h18, h19, h20, h21, h22, h23⟩ := id h
  have mr : ∀ k, 0 ≤ k ∧ k < 136 → k ≠ 124 → ¬ (k = 30 + l) → k ≠ 126 → k ≠ 120 → k ≠ l → rw_ (falM M c l (z l + d) d F w v) c k = rw_ M c k := fun k hk q1 q2 q3 q4 q5 => by
    rw [falM_at hc (by omega) hk, if_neg (fun q => q1 q.1), if_neg q2, if_neg q3, if_neg q4, if_neg q5]
  refine spk_ch h (fun f hf => falX_n (by omega) (by omega) (by omega) (by omega) (by omega) (by omega)) (fun k hk => mr k (by omega) (by omega) (by omega) (by omega) (by omega) (by omega)) (by omega) ?_ ?_ ?_ ?_ (fun j hj => ?_)
  · unfold falX
    rw [wr_f (by omega), wr_s]
  · rw [falM_at hc (by omega) (by omega), if_neg (by omega), if_neg (by omega), if_neg (by omega), if_pos rfl]
  · rw [falX_n (by omega) (by omega) (by omega) (by omega) (by omega) (by omega), mr 125 (by omega) (by omega) (by omega) (by omega) (by omega) (by omega), h21]
  · rw [falM_at hc (by omega) (by omega), if_neg (by omega), if_neg (by omega), if_pos rfl, ← h22]
    unfold falX
    rw [wr_s]
  · obtain ⟨g1, g2, g3, g4, g5⟩ := h23 j hj
    rw [falX_z, falM_lo hc (by omega) (by omega)]
    unfold zu
    by_cases e : j = l
    · subst e
      rw [if_pos rfl, if_pos rfl, if_pos rfl]
      exact ⟨rfl, rfl, by omega, fun q1 q2 => by have := g4 q1 q2; omega, fun q => absurd hl q⟩
    · rw [if_neg (by omega), if_neg e, if_neg e]
      exact ⟨g1, g2, g3, g4, g5⟩
theorem fall_end {n cnt c : Nat} {X M X2 M2 : St} {a b u F w v s l d p u2 F2 w2' v2 s2' : Int} {z : Int → Int} (h : Rel n X M) (r1 : CvR X M n cnt) (hc : c < cnt) (k : SPk X c (rw_ M c) (n * 100000) a b u F w v s z) (m1 : M 778 0 c = iI a) (m2 : M 779 0 c = iI b) (m3 : 0 ≤ p ∧ p ≤ 999) (m4 : X 197 c 0 = iI p) (m5 : M 777 0 c = iI p) (hla : a ≤ l ∧ l ≤ b) (fm : FmS faM c (st_wr M 814 0 0 (iI 0)) (falM M c l (z l + d) d F w v)) (g3 : SPk X2 c (rw_ M2 c) (n * 100000 + 100000) a b u2 F2 w2' v2 s2' (zu z l d)) (g4 : FxS stlX c (falX X c l (z l + d) d F w v a) X2) (g5 : FmS stlM c (falM M c l (z l + d) d F w v) M2) (hX : ∀ f i, ¬ (i = c ∧ faX f) → f ≠ 66 → st_wr X2 66 0 0 (iI 0) f i = X f i) : Rel (n + 1) (st_wr X2 66 0 0 (iI 0)) (if l = a then rs_ M2 c 134 (iI 1) else M2) := by
  have r1' := r1
  obtain ⟨cnt', r1, r2, r3, r4, r5, r6, r7, r8, r9, r10, r11, r12, r13, r14⟩ := h
  have ecnt : cnt' = cnt := by
    have e := r1.2.1
    rw [r1'.2.1] at e
    have h5 := r1.1
    have h6 := r1'.1
    have := (iI_eq (by omega) (by omega)).mp e
    omega
  subst ecnt
  obtain ⟨c5, c1, c2, cK, cM, cN⟩ := id r1
  have hc5 : c < 5 := by omega
  obtain ⟨⟨h1, h2, h3, h4⟩, h5, h6, h7, h8, h9, h10, h11, h12, h13, h14, h15, h16, h17, h18, h19, h20, h21, h22, h23⟩ := id k
  obtain ⟨K1, K2, K3, K4, K5, K6, K7, -⟩ := id (cK c hc5)
  have fM_ := fm
  have fM : FmS faM c (st_wr M 814 0 0 (iI 0)) (if l = a then rs_ M2 c 134 (iI 1) else M2) := by
    have := fm.tr (g5.mo (fun k q => by unfold stlM at q; unfold faM shK; omega))
    by_cases e : l = a
    · rw [if_pos e]; exact this.tr (FmS.wr hc5 (by omega) (by unfold faM; omega))
    · rw [if_neg e]; exact this
  have at3 : ∀ k, 0 ≤ k ∧ k < 136 → ¬ stlM k → rw_ (if l = a then rs_ M2 c 134 (iI 1) else M2) c k = if l = a ∧ k = 134 then iI 1 else rw_ (falM M c l (z l + d) d F w v) c k := fun k hk hs => by
    by_cases e : l = a
    · rw [if_pos e]
      by_cases e2 : k = 134
      · rw [if_pos ⟨e, e2⟩, e2, rs_s hc5 (by omega)]
      · rw [if_neg (fun q => e2 q.2), rs_n hc5 (by omega) hk e2, g5.2 c k hc5 hk.1 hk.2 (fun q => hs q.2)]
    · rw [if_neg e, if_neg (fun q => e q.1), g5.2 c k hc5 hk.1 hk.2 (fun q => hs q.2)]
  have g6 : SPk X2 c (rw_ (if l = a then rs_ M2 c 134 (iI 1) else M2) c) (n * 100000 + 100000) a b u2 F2 w2' v2 s2' (zu z l d) := by
    by_cases e : l = a
    · rw [if_pos e]; exact spk_fr g3 (Int.le_refl _) (fun _ _ _ => rfl) (fun k hk => rs_n hc5 (by omega) (by unfold shK at hk; omega) (by unfold shK at hk; omega))
    · rw [if_neg e]; exact g3
  generalize (if l = a then rs_ M2 c 134 (iI 1) else M2) = M3 at *
  have hM : ∀ f i, f ≠ 780 → f ≠ 814 → M3 f i = M f i := fun f i q1 q2 => by rw [fM.1 f i q1, wr_f q2]
  have hr : ∀ (c' : Nat) k, c' < 5 → 0 ≤ k → k < 136 → ¬ (c' = c ∧ faM k) → rw_ M3 c' k = rw_ M c' k := fun c' k q1 q2 q3 q4 => by rw [fM.2 c' k q1 q2 q3 q4, rw_fr (wr_f (by omega))]
  have ox : ∀ f, ¬ stlX f → f ≠ 66 → st_wr X2 66 0 0 (iI 0) f c = falX X c l (z l + d) d F w v a f c := fun f q1 q2 => by rw [wr_f q2, g4 f c (fun z => q1 z.2)]
  have hK : CvK (st_wr X2 66 0 0 (iI 0)) M3 c (n + 1) := by
    refine (cK c hc5).ch (K1.fr (fun f q1 q2 => hX f c (by unfold faX shX; omega) (by omega)) (fun k hk => hr c k hc5 (by unfold skK at hk; omega) (by unfold skK at hk; omega) (by unfold skK at hk; unfold faM shK; omega))) ?_ ?_ ?_ (fun j hj => ?_) ?_ ?_ (fun f hf => hX f c (by unfold faX shX; omega) (by omega)) (fun f _ _ _ => hM f 0 (by omega) (by omega))
    · rw [ox 198 (by unfold stlX; omega) (by omega), falX_198]
      by_cases e : l = a
      · rw [if_pos e]
        have e134 : rw_ M3 c 134 = iI 1 := by rw [at3 134 (by omega) (by unfold stlM; omega), if_pos ⟨e, rfl⟩]
        obtain ⟨f1, f2, f3, f4, f5, f6⟩ := K2
        have nr : ∀ k, 127 ≤ k ∧ k ≤ 133 → rw_ M3 c k = rw_ M c k := fun k hk => hr c k hc5 (by omega) (by omega) (by unfold faM shK; omega)
        refine ⟨?_, ?_, ?_, ?_, ?_, ?_⟩
        · unfold stF
          rw [if_pos e134]
        · rw [nr 131 (by omega)]; exact f2
        · rw [nr 132 (by omega)]; exact f3
        · rw [nr 133 (by omega)]; exact f4
        · rw [e134]; exact ⟨1, by omega, by omega, rfl⟩
        · rw [nr 132 (by omega), nr 127 (by omega), nr 128 (by omega)]; exact f6
      · rw [if_neg e]
        refine K2.fr (fun k hk => ?_)
        rw [at3 k (by unfold flK at hk; omega) (by unfold flK at hk; unfold stlM; omega), if_neg (fun q => e q.1), falM_at hc5 (by omega) (by unfold flK at hk; omega), if_neg (by unfold flK at hk; omega), if_neg (by unfold flK at hk; omega), if_neg (by unfold flK at hk; omega), if_neg (by unfold flK at hk; omega), if_neg (by unfold flK at hk; omega)]
    · rw [ox 199 (by unfold stlX; omega) (by omega), falX_199, at3 124 (by omega) (by unfold stlM; omega), if_neg (show ¬ (l = a ∧ (124 : Int) = 134) by omega), falM_124 hc5 (by omega)]
      by_cases e : l < w ∨ l < v
      · rw [if_pos e, if_pos e]
      · rw [if_neg e, if_neg e]; exact K3
    · rw [ox 199 (by unfold stlX; omega) (by omega), falX_199]
      by_cases e : l < w ∨ l < v
      · rw [if_pos e]; exact ⟨1, by omega, by omega, rfl⟩
      · rw [if_neg e]; exact K4
    · rw [ox 195 (by unfold stlX; omega) (by omega), falX_195, at3 _ (by omega) (by unfold stlM; omega), if_neg (show ¬ (l = a ∧ 30 + j = 134) by omega), falM_md hc5 (by omega) (by omega)]
      by_cases e : j = l
      · subst e
        rw [if_pos rfl, if_pos rfl]
        exact ⟨rfl, ⟨1, by omega, by omega, rfl⟩⟩
      · rw [if_neg (by omega), if_neg (by omega)]
        exact K5 j hj
    · rw [hX 200 c (by unfold faX shX; omega) (by omega), hr c 129 hc5 (by omega) (by omega) (by unfold faM shK; omega)]; exact K6
    · rw [hX 200 c (by unfold faX shX; omega) (by omega)]; exact K7
  have hMm : CvM (st_wr X2 66 0 0 (iI 0)) M3 c (n + 1) := CvM.of (spk_fr g6 (by omega) (fun f _ _ => wr_f (by omega)) (fun _ _ => rfl)) (by rw [hM 778 0 (by omega) (by omega), m1]) (by rw [hM 779 0 (by omega) (by omega), m2]) m3 (by rw [hX 197 c (by unfold faX shX; omega) (by omega), m4]) (by rw [hM 777 0 (by omega) (by omega), m5])
  have hC : CvR (st_wr X2 66 0 0 (iI 0)) M3 (n + 1) cnt' := r1.one (Nat.le_succ n) hc (fun f hf h7 i hi hne => hX f i (by omega) (by unfold cvX kF at hf; omega)) (congrFun (hX 707 0 (by unfold faX shX; omega) (by omega)) 0) (fun f hf h8 => hM f 0 h8 (by unfold cvM at hf; omega)) (fun c' q1 q2 k' q3 q4 => hr c' k' q1 q3 q4 (by omega)) hK hMm
  have hA : AcR (st_wr X2 66 0 0 (iI 0)) M3 (n + 1) cnt' := r2.none (congrFun (hX 65 0 (by unfold faX shX; omega) (by omega)) 0) wr_s (by rw [fM.1 814 0 (by omega), wr_s])
  have hXz : ∀ f i, ¬ (faX f) → f ≠ 66 → st_wr X2 66 0 0 (iI 0) f i = X f i := fun f i q1 q2 => hX f i (fun z => q1 z.2) q2
  refine ⟨cnt', hC, hA, r3.fr (hXz 128 0 (by unfold faX shX; omega) (by omega)) (hXz 129 0 (by unfold faX shX; omega) (by omega)) (hM 769 0 (by omega) (by omega)) (hM 773 0 (by omega) (by omega)), r4.fr (hXz 448 0 (by unfold faX shX; omega) (by omega)) (hM 770 0 (by omega) (by omega)), r5.fr (hXz 449 0 (by unfold faX shX; omega) (by omega)) (hM 782 0 (by omega) (by omega)), r6.fr (hXz 709 0 (by unfold faX shX; omega) (by omega)) (hM 784 0 (by omega) (by omega)), r7.fr (hXz 708 0 (by unfold faX shX; omega) (by omega)) (hM 785 0 (by omega) (by omega)) (hXz 710 0 (by unfold faX shX; omega) (by omega)) (hM 788 0 (by omega) (by omega)) (hXz 712 0 (by unfold faX shX; omega) (by omega)) (hM 786 0 (by omega) (by omega)), r8.fr (hXz 711 0 (by unfold faX shX; omega) (by omega)) (hM 787 0 (by omega) (by omega)), r9.fr (fun f _ _ => hXz f 0 (by unfold faX shX; omega) (by omega)) (fun f _ _ => hM f 0 (by omega) (by omega)), r10.fr (hXz 717 0 (by unfold faX shX; omega) (by omega)) (hM 768 0 (by omega) (by omega)), r11.fr (hXz 640 0 (by unfold faX shX; omega) (by omega)) (hM 802 0 (by omega) (by omega)), r12.fr (hXz 320 0 (by unfold faX shX; omega) (by omega)) (hM 804 0 (by omega) (by omega)), r13.fr (fun f _ _ => hXz f 0 (by unfold faX shX; omega) (by omega)) (fun f _ _ _ _ => hM f 0 (by omega) (by omega)), r14.fr (hXz 708 0 (by unfold faX shX; omega) (by omega)) (fun i _ => hXz 200 i (by unfold faX shX; omega) (by omega))⟩
theorem op_fall {n : Nat} {X M : St} (hn : n ≤ 600) (h : Rel n X M) (x1 x2 : Int32) : Both n (f_x_fall x1 x2 X) (f_m_fall x1 x2 M) := by
  obtain ⟨a, a1, a2, rfl⟩ := iI_ex x1
  obtain ⟨l, l1, l2, rfl⟩ := iI_ex x2
  have h0 := h
  obtain ⟨cnt, r1, r2, r3, r4, r5, r6, r7, r8, r9, r10, r11, r12, r13, r14⟩ := h
  obtain ⟨c5, c1, c2, cK, cM, cN⟩ := id r1
  have em1 := isCav c5 c2 ⟨a1, a2⟩
  by_cases ha : 0 ≤ a ∧ a < cnt
  · have et1 := told_s c5 c1 ha
    obtain ⟨c, hc, rfl⟩ : ∃ c : Nat, c < cnt ∧ a = c := ⟨a.toNat, by omega, by omega⟩
    have hc5 : c < 5 := by omega
    obtain ⟨a, b, u, F, w, v, s, z, p, k, m1, m2, m3, m4, m5⟩ := cav_pk (cM c hc)
    obtain ⟨⟨h1, h2, h3, h4⟩, h5, h6, h7, h8, h9, h10, h11, h12, h13, h14, h15, h16, h17, h18, h19, h20, h21, h22, h23⟩ := id k
    have e1 := Sh_hasLevel (S := X) (i := c) (l := l) ⟨l1, l2⟩ (by omega) (by omega) h5 h6
    have e2 := m_isRing (M := M) (c := c) (l := l) (by omega) ⟨l1, l2⟩ (by omega) (by omega) m1 m2
    by_cases gA : ¬ (a ≤ l ∧ l ≤ b)
    · rw [bI_t (by omega)] at em1
      rw [bI_f gA] at e2
      refine both_rf h0 (k := 1) (by omega) ?_ ?_
      · rw [uf_x_fall]; simp (maxSteps := 2000000) (disch := omega) only [Int.toNat_natCast, bif_d, bif_n, cond_true, cond_false, Option.bind_some, Option.bind_none, Option.elim_some, Option.elim_none, iI_add, iI_sub, iI_mul, iI_neg, iI_lt, iI_le, iI_eq, inb_t, iI_cl, bI_0, bI_1, zn_b, zn_i0, zn_i1, if_pos, if_neg, if_true, if_false, reduceIte, not_true_eq_false, not_false_eq_true, and_true, true_and, and_self, li_0, li_1, li_2, li_3, li_4, li_5, li_6, li_7, li_8, li_9, li_10, li_11, li_12, li_13, li_14, li_15, li_16, li_17, li_18, li_19, li_20, li_21, li_22, li_23, li_24, li_25, li_26, li_27, li_28, li_29, li_30, li_31, li_32, li_33, li_34, li_35, li_36, li_37, li_38, li_39, li_40, li_41, li_42, li_43, li_44, li_45, li_46, li_47, li_48, li_49, li_50, li_51, li_52, li_53, li_54, li_55, li_56, li_57, li_58, li_59, li_60, li_61, li_62, li_63, li_64, li_90, li_99, li_100, li_104, li_115, li_120, li_121, li_122, li_123, li_124, li_125, li_126, li_127, li_128, li_129, li_130, li_131, li_132, li_133, li_134, li_135, li_136, li_199, li_200, li_255, li_256, li_512, li_680, li_999, li_1000, li_1194, li_1199, li_1200, li_9999, li_10000, li_27064, li_27200, li_99999, li_1000000000, li_2000000000, iL_of, lL_0, lL_1, lL_3, lL_5, lL_8, lL_9, lL_11, lL_17, lL_29, lL_60, lL_99, lL_999, lL_9999, lL_99999, m_isInL, m_outL, x_out, x_ref, m_no, oI_l, oI_g, oI_i, wr_s, wr_f, wr_j, wr_i, rs_f, rw_rs, ↓bif_d, ↓bif_n, ↓reduceIte, lt_t, lt_f, le_t, le_f, eq_t, eq_f, et1, e1]
      · rw [uf_m_fall, em1, Option.bind_some, bif_d, if_neg (show ¬ iI 1 = 0 by decide), e2, Option.bind_some, bif_n, if_pos (show iI 0 = 0 by decide)]; simp (maxSteps := 2000000) (disch := omega) only [Int.toNat_natCast, bif_d, bif_n, cond_true, cond_false, Option.bind_some, Option.bind_none, Option.elim_some, Option.elim_none, iI_add, iI_sub, iI_mul, iI_neg, iI_lt, iI_le, iI_eq, inb_t, iI_cl, bI_0, bI_1, zn_b, zn_i0, zn_i1, if_pos, if_neg, if_true, if_false, reduceIte, not_true_eq_false, not_false_eq_true, and_true, true_and, and_self, li_0, li_1, li_2, li_3, li_4, li_5, li_6, li_7, li_8, li_9, li_10, li_11, li_12, li_13, li_14, li_15, li_16, li_17, li_18, li_19, li_20, li_21, li_22, li_23, li_24, li_25, li_26, li_27, li_28, li_29, li_30, li_31, li_32, li_33, li_34, li_35, li_36, li_37, li_38, li_39, li_40, li_41, li_42, li_43, li_44, li_45, li_46, li_47, li_48, li_49, li_50, li_51, li_52, li_53, li_54, li_55, li_56, li_57, li_58, li_59, li_60, li_61, li_62, li_63, li_64, li_90, li_99, li_100, li_104, li_115, li_120, li_121, li_122, li_123, li_124, li_125, li_126, li_127, li_128, li_129, li_130, li_131, li_132, li_133, li_134, li_135, li_136, li_199, li_200, li_255, li_256, li_512, li_680, li_999, li_1000, li_1194, li_1199, li_1200, li_9999, li_10000, li_27064, li_27200, li_99999, li_1000000000, li_2000000000, iL_of, lL_0, lL_1, lL_3, lL_5, lL_8, lL_9, lL_11, lL_17, lL_29, lL_60, lL_99, lL_999, lL_9999, lL_99999, m_isInL, m_outL, x_out, x_ref, m_no, oI_l, oI_g, oI_i, wr_s, wr_f, wr_j, wr_i, rs_f, rw_rs]
    obtain ⟨st, q, hs, k1, k2, hq, k3, k4⟩ := cv_st (cK c hc5)
    obtain ⟨st', s1, s2, s3, s4, -⟩ := stF_ex (rw_ M c)
    have es : st' = st := by
      rw [k2] at s3
      exact ((iI_eq (by omega) (by omega)).mp s3).symm
    subst es
    rw [bI_t (by omega)] at e1 e2 em1
    by_cases gB : st' = 4
    · refine both_rf h0 (k := 3) (by omega) ?_ ?_
      · rw [uf_x_fall]; simp (maxSteps := 2000000) (disch := omega) only [Int.toNat_natCast, bif_d, bif_n, cond_true, cond_false, Option.bind_some, Option.bind_none, Option.elim_some, Option.elim_none, iI_add, iI_sub, iI_mul, iI_neg, iI_lt, iI_le, iI_eq, inb_t, iI_cl, bI_0, bI_1, zn_b, zn_i0, zn_i1, if_pos, if_neg, if_true, if_false, reduceIte, not_true_eq_false, not_false_eq_true, and_true, true_and, and_self, li_0, li_1, li_2, li_3, li_4, li_5, li_6, li_7, li_8, li_9, li_10, li_11, li_12, li_13, li_14, li_15, li_16, li_17, li_18, li_19, li_20, li_21, li_22, li_23, li_24, li_25, li_26, li_27, li_28, li_29, li_30, li_31, li_32, li_33, li_34, li_35, li_36, li_37, li_38, li_39, li_40, li_41, li_42, li_43, li_44, li_45, li_46, li_47, li_48, li_49, li_50, li_51, li_52, li_53, li_54, li_55, li_56, li_57, li_58, li_59, li_60, li_61, li_62, li_63, li_64, li_90, li_99, li_100, li_104, li_115, li_120, li_121, li_122, li_123, li_124, li_125, li_126, li_127, li_128, li_129, li_130, li_131, li_132, li_133, li_134, li_135, li_136, li_199, li_200, li_255, li_256, li_512, li_680, li_999, li_1000, li_1194, li_1199, li_1200, li_9999, li_10000, li_27064, li_27200, li_99999, li_1000000000, li_2000000000, iL_of, lL_0, lL_1, lL_3, lL_5, lL_8, lL_9, lL_11, lL_17, lL_29, lL_60, lL_99, lL_999, lL_9999, lL_99999, m_isInL, m_outL, x_out, x_ref, m_no, oI_l, oI_g, oI_i, wr_s, wr_f, wr_j, wr_i, rs_f, rw_rs, ↓bif_d, ↓bif_n, ↓reduceIte, lt_t, lt_f, le_t, le_f, eq_t, eq_f, et1, e1, k1]
      · rw [uf_m_fall, em1, Option.bind_some, bif_d, if_neg (show ¬ iI 1 = 0 by decide), e2, Option.bind_some, bif_n, if_neg (show ¬ iI 1 = 0 by decide), m_state (by omega), Option.bind_some, k2, bif_d, if_pos (by rw [gB]; exact li_4.symm)]; simp (maxSteps := 2000000) (disch := omega) only [Int.toNat_natCast, bif_d, bif_n, cond_true, cond_false, Option.bind_some, Option.bind_none, Option.elim_some, Option.elim_none, iI_add, iI_sub, iI_mul, iI_neg, iI_lt, iI_le, iI_eq, inb_t, iI_cl, bI_0, bI_1, zn_b, zn_i0, zn_i1, if_pos, if_neg, if_true, if_false, reduceIte, not_true_eq_false, not_false_eq_true, and_true, true_and, and_self, li_0, li_1, li_2, li_3, li_4, li_5, li_6, li_7, li_8, li_9, li_10, li_11, li_12, li_13, li_14, li_15, li_16, li_17, li_18, li_19, li_20, li_21, li_22, li_23, li_24, li_25, li_26, li_27, li_28, li_29, li_30, li_31, li_32, li_33, li_34, li_35, li_36, li_37, li_38, li_39, li_40, li_41, li_42, li_43, li_44, li_45, li_46, li_47, li_48, li_49, li_50, li_51, li_52, li_53, li_54, li_55, li_56, li_57, li_58, li_59, li_60, li_61, li_62, li_63, li_64, li_90, li_99, li_100, li_104, li_115, li_120, li_121, li_122, li_123, li_124, li_125, li_126, li_127, li_128, li_129, li_130, li_131, li_132, li_133, li_134, li_135, li_136, li_199, li_200, li_255, li_256, li_512, li_680, li_999, li_1000, li_1194, li_1199, li_1200, li_9999, li_10000, li_27064, li_27200, li_99999, li_1000000000, li_2000000000, iL_of, lL_0, lL_1, lL_3, lL_5, lL_8, lL_9, lL_11, lL_17, lL_29, lL_60, lL_99, lL_999, lL_9999, lL_99999, m_isInL, m_outL, x_out, x_ref, m_no, oI_l, oI_g, oI_i, wr_s, wr_f, wr_j, wr_i, rs_f, rw_rs]
    obtain ⟨b1, -, -, -, ⟨o, o1, o2, b2⟩⟩ := id r6
    obtain ⟨K1, K2, K3, K4, K5, K6, K7, -⟩ := id (cK c hc5)
    have b3 : M 784 0 3 = iI o := by rw [← b1 3 (by omega), b2]
    obtain ⟨qq, q1, q2, q3⟩ := Cav_isShelf (n := n) (cnt := cnt) (p := p) (o := o) hc5 ⟨l1, l2⟩ k m1 m2 (by omega) b3 (fun l hl => (K5 l hl).1)
    have q2 := q2 (by omega)
    cases qq with
    | false =>
      rw [bI_f (by simp)] at q1 q2
      refine both_rf h0 (k := 3) (by omega) ?_ ?_
      · rw [uf_x_fall]; simp (maxSteps := 2000000) (disch := omega) only [Int.toNat_natCast, bif_d, bif_n, cond_true, cond_false, Option.bind_some, Option.bind_none, Option.elim_some, Option.elim_none, iI_add, iI_sub, iI_mul, iI_neg, iI_lt, iI_le, iI_eq, inb_t, iI_cl, bI_0, bI_1, zn_b, zn_i0, zn_i1, if_pos, if_neg, if_true, if_false, reduceIte, not_true_eq_false, not_false_eq_true, and_true, true_and, and_self, li_0, li_1, li_2, li_3, li_4, li_5, li_6, li_7, li_8, li_9, li_10, li_11, li_12, li_13, li_14, li_15, li_16, li_17, li_18, li_19, li_20, li_21, li_22, li_23, li_24, li_25, li_26, li_27, li_28, li_29, li_30, li_31, li_32, li_33, li_34, li_35, li_36, li_37, li_38, li_39, li_40, li_41, li_42, li_43, li_44, li_45, li_46, li_47, li_48, li_49, li_50, li_51, li_52, li_53, li_54, li_55, li_56, li_57, li_58, li_59, li_60, li_61, li_62, li_63, li_64, li_90, li_99, li_100, li_104, li_115, li_120, li_121, li_122, li_123, li_124, li_125, li_126, li_127, li_128, li_129, li_130, li_131, li_132, li_133, li_134, li_135, li_136, li_199, li_200, li_255, li_256, li_512, li_680, li_999, li_1000, li_1194, li_1199, li_1200, li_9999, li_10000, li_27064, li_27200, li_99999, li_1000000000, li_2000000000, iL_of, lL_0, lL_1, lL_3, lL_5, lL_8, lL_9, lL_11, lL_17, lL_29, lL_60, lL_99, lL_999, lL_9999, lL_99999, m_isInL, m_outL, x_out, x_ref, m_no, oI_l, oI_g, oI_i, wr_s, wr_f, wr_j, wr_i, rs_f, rw_rs, ↓bif_d, ↓bif_n, ↓reduceIte, lt_t, lt_f, le_t, le_f, eq_t, eq_f, et1, e1, k1, show (3 : Int).toNat = 3 from rfl, b2, q1]
      · rw [uf_m_fall, em1, Option.bind_some, bif_d, if_neg (show ¬ iI 1 = 0 by decide), e2, Option.bind_some, bif_n, if_neg (show ¬ iI 1 = 0 by decide), m_state (by omega), Option.bind_some, k2, bif_d, li_4, if_neg (fun z => gB ((iI_eq (by omega) (by omega)).mp z)), q2, Option.bind_some, bif_n, if_pos (show iI 0 = 0 by decide)]; simp (maxSteps := 2000000) (disch := omega) only [Int.toNat_natCast, bif_d, bif_n, cond_true, cond_false, Option.bind_some, Option.bind_none, Option.elim_some, Option.elim_none, iI_add, iI_sub, iI_mul, iI_neg, iI_lt, iI_le, iI_eq, inb_t, iI_cl, bI_0, bI_1, zn_b, zn_i0, zn_i1, if_pos, if_neg, if_true, if_false, reduceIte, not_true_eq_false, not_false_eq_true, and_true, true_and, and_self, li_0, li_1, li_2, li_3, li_4, li_5, li_6, li_7, li_8, li_9, li_10, li_11, li_12, li_13, li_14, li_15, li_16, li_17, li_18, li_19, li_20, li_21, li_22, li_23, li_24, li_25, li_26, li_27, li_28, li_29, li_30, li_31, li_32, li_33, li_34, li_35, li_36, li_37, li_38, li_39, li_40, li_41, li_42, li_43, li_44, li_45, li_46, li_47, li_48, li_49, li_50, li_51, li_52, li_53, li_54, li_55, li_56, li_57, li_58, li_59, li_60, li_61, li_62, li_63, li_64, li_90, li_99, li_100, li_104, li_115, li_120, li_121, li_122, li_123, li_124, li_125, li_126, li_127, li_128, li_129, li_130, li_131, li_132, li_133, li_134, li_135, li_136, li_199, li_200, li_255, li_256, li_512, li_680, li_999, li_1000, li_1194, li_1199, li_1200, li_9999, li_10000, li_27064, li_27200, li_99999, li_1000000000, li_2000000000, iL_of, lL_0, lL_1, lL_3, lL_5, lL_8, lL_9, lL_11, lL_17, lL_29, lL_60, lL_99, lL_999, lL_9999, lL_99999, m_isInL, m_outL, x_out, x_ref, m_no, oI_l, oI_g, oI_i, wr_s, wr_f, wr_j, wr_i, rs_f, rw_rs]
    | true =>
      rw [bI_t rfl] at q1 q2
      obtain ⟨-, hu, hsh⟩ := q3 rfl
      obtain ⟨z1, z2, z3, z4, z5⟩ := h23 l (by omega)
      obtain ⟨y1, y2, y3, -⟩ := h23 (l + 1) (by omega)
      obtain ⟨t1, t2, t3, t4⟩ := rt_s z3
      obtain ⟨w1, w2, -⟩ := rt_s y3
      have hR1 : (rt (z l) + 1) * (rt (z l) + 1) ≤ (rt (z (l + 1)) - o) * (rt (z (l + 1)) - o) := Int.mul_le_mul (by omega) (by omega) (by omega) (by omega)
      have hR2 : (rt (z (l + 1)) - o) * (rt (z (l + 1)) - o) ≤ 315 * 315 := Int.mul_le_mul (by omega) (by omega) (by omega) (by omega)
      obtain ⟨d, hd⟩ : ∃ d, (rt (z (l + 1)) - o) * (rt (z (l + 1)) - o) - z l = d := ⟨_, rfl⟩
      have kk := spk_fall hc5 k (l := l) (d := d) (by omega) (by omega) (by omega)
      have fm := falM_fr (M := M) (c := c) (l := l) (t := z l + d) (d := d) (F := F) (w := w) (v := v) hc5 (by omega)
      have fx := falX_fr (X := X) (c := c) (l := l) (t := z l + d) (d := d) (F := F) (w := w) (v := v) (a := a)
      obtain ⟨X2, M2, u2, F2, w2', v2, s2', g1, g2, g3, g4, g5⟩ := settle_b hc5 kk (by omega) (by rw [fm.1 778 0 (by omega), wr_f (by omega), m1])
      have ex := x_fall hc5 k (l := l) (o := o) (d := d) (by omega) (by omega) rfl hd (by omega)
      rw [g1] at ex
      have em := m_fall (st := st') hc5 k (l := l) (o := o) (d := d) (by omega) (by omega) b3 rfl hd (by omega) em1 e2 (by omega) k2 q2 g2 (by rw [g5.1 778 0 (by omega), fm.1 778 0 (by omega), wr_f (by omega), m1])
      have fX : FxS faX c X X2 := fx.tr (g4.mo (fun f q => by unfold stlX at q; unfold faX shX; omega))
      have hX : ∀ f i, ¬ (i = c ∧ faX f) → f ≠ 66 → st_wr X2 66 0 0 (iI 0) f i = X f i := fun f i q1 q2 => by rw [wr_f q2, fX f i q1]
      refine ⟨iI d, st_wr X2 66 0 0 (iI 0), if l = a then rs_ M2 c 134 (iI 1) else M2, ?_, em, fall_end h0 r1 hc k m1 m2 m3 m4 m5 (by omega) fm g3 g4 g5 hX⟩
      · rw [uf_x_fall]; simp (maxSteps := 2000000) (disch := omega) only [Int.toNat_natCast, bif_d, bif_n, cond_true, cond_false, Option.bind_some, Option.bind_none, Option.elim_some, Option.elim_none, iI_add, iI_sub, iI_mul, iI_neg, iI_lt, iI_le, iI_eq, inb_t, iI_cl, bI_0, bI_1, zn_b, zn_i0, zn_i1, if_pos, if_neg, if_true, if_false, reduceIte, not_true_eq_false, not_false_eq_true, and_true, true_and, and_self, li_0, li_1, li_2, li_3, li_4, li_5, li_6, li_7, li_8, li_9, li_10, li_11, li_12, li_13, li_14, li_15, li_16, li_17, li_18, li_19, li_20, li_21, li_22, li_23, li_24, li_25, li_26, li_27, li_28, li_29, li_30, li_31, li_32, li_33, li_34, li_35, li_36, li_37, li_38, li_39, li_40, li_41, li_42, li_43, li_44, li_45, li_46, li_47, li_48, li_49, li_50, li_51, li_52, li_53, li_54, li_55, li_56, li_57, li_58, li_59, li_60, li_61, li_62, li_63, li_64, li_90, li_99, li_100, li_104, li_115, li_120, li_121, li_122, li_123, li_124, li_125, li_126, li_127, li_128, li_129, li_130, li_131, li_132, li_133, li_134, li_135, li_136, li_199, li_200, li_255, li_256, li_512, li_680, li_999, li_1000, li_1194, li_1199, li_1200, li_9999, li_10000, li_27064, li_27200, li_99999, li_1000000000, li_2000000000, iL_of, lL_0, lL_1, lL_3, lL_5, lL_8, lL_9, lL_11, lL_17, lL_29, lL_60, lL_99, lL_999, lL_9999, lL_99999, m_isInL, m_outL, x_out, x_ref, m_no, oI_l, oI_g, oI_i, wr_s, wr_f, wr_j, wr_i, rs_f, rw_rs, ↓bif_d, ↓bif_n, ↓reduceIte, lt_t, lt_f, le_t, le_f, eq_t, eq_f, et1, e1, k1, show (3 : Int).toNat = 3 from rfl, b2, q1, ex, uf_Acts_forget]
  · have et1 := told_n c5 c1 ⟨a1, a2⟩ ha
    refine both_rf h0 (k := 1) (by omega) ?_ ?_
    · rw [uf_x_fall]; simp (maxSteps := 2000000) (disch := omega) only [Int.toNat_natCast, bif_d, bif_n, cond_true, cond_false, Option.bind_some, Option.bind_none, Option.elim_some, Option.elim_none, iI_add, iI_sub, iI_mul, iI_neg, iI_lt, iI_le, iI_eq, inb_t, iI_cl, bI_0, bI_1, zn_b, zn_i0, zn_i1, if_pos, if_neg, if_true, if_false, reduceIte, not_true_eq_false, not_false_eq_true, and_true, true_and, and_self, li_0, li_1, li_2, li_3, li_4, li_5, li_6, li_7, li_8, li_9, li_10, li_11, li_12, li_13, li_14, li_15, li_16, li_17, li_18, li_19, li_20, li_21, li_22, li_23, li_24, li_25, li_26, li_27, li_28, li_29, li_30, li_31, li_32, li_33, li_34, li_35, li_36, li_37, li_38, li_39, li_40, li_41, li_42, li_43, li_44, li_45, li_46, li_47, li_48, li_49, li_50, li_51, li_52, li_53, li_54, li_55, li_56, li_57, li_58, li_59, li_60, li_61, li_62, li_63, li_64, li_90, li_99, li_100, li_104, li_115, li_120, li_121, li_122, li_123, li_124, li_125, li_126, li_127, li_128, li_129, li_130, li_131, li_132, li_133, li_134, li_135, li_136, li_199, li_200, li_255, li_256, li_512, li_680, li_999, li_1000, li_1194, li_1199, li_1200, li_9999, li_10000, li_27064, li_27200, li_99999, li_1000000000, li_2000000000, iL_of, lL_0, lL_1, lL_3, lL_5, lL_8, lL_9, lL_11, lL_17, lL_29, lL_60, lL_99, lL_999, lL_9999, lL_99999, m_isInL, m_outL, x_out, x_ref, m_no, oI_l, oI_g, oI_i, wr_s, wr_f, wr_j, wr_i, rs_f, rw_rs, et1]
    · rw [uf_m_fall]; simp (maxSteps := 2000000) (disch := omega) only [Int.toNat_natCast, bif_d, bif_n, cond_true, cond_false, Option.bind_some, Option.bind_none, Option.elim_some, Option.elim_none, iI_add, iI_sub, iI_mul, iI_neg, iI_lt, iI_le, iI_eq, inb_t, iI_cl, bI_0, bI_1, zn_b, zn_i0, zn_i1, if_pos, if_neg, if_true, if_false, reduceIte, not_true_eq_false, not_false_eq_true, and_true, true_and, and_self, li_0, li_1, li_2, li_3, li_4, li_5, li_6, li_7, li_8, li_9, li_10, li_11, li_12, li_13, li_14, li_15, li_16, li_17, li_18, li_19, li_20, li_21, li_22, li_23, li_24, li_25, li_26, li_27, li_28, li_29, li_30, li_31, li_32, li_33, li_34, li_35, li_36, li_37, li_38, li_39, li_40, li_41, li_42, li_43, li_44, li_45, li_46, li_47, li_48, li_49, li_50, li_51, li_52, li_53, li_54, li_55, li_56, li_57, li_58, li_59, li_60, li_61, li_62, li_63, li_64, li_90, li_99, li_100, li_104, li_115, li_120, li_121, li_122, li_123, li_124, li_125, li_126, li_127, li_128, li_129, li_130, li_131, li_132, li_133, li_134, li_135, li_136, li_199, li_200, li_255, li_256, li_512, li_680, li_999, li_1000, li_1194, li_1199, li_1200, li_9999, li_10000, li_27064, li_27200, li_99999, li_1000000000, li_2000000000, iL_of, lL_0, lL_1, lL_3, lL_5, lL_8, lL_9, lL_11, lL_17, lL_29, lL_60, lL_99, lL_999, lL_9999, lL_99999, m_isInL, m_outL, x_out, x_ref, m_no, oI_l, oI_g, oI_i, wr_s, wr_f, wr_j, wr_i, rs_f, rw_rs, em1]
