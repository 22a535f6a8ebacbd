/-! WHAT DOES NOT CHANGE -/
/-- a row's places that belong to a shape, to a stock, to a state -/
def shK (k : Int) : Prop := (0 ≤ k ∧ k < 30) ∨ (120 ≤ k ∧ k ≤ 123) ∨ k = 125 ∨ k = 126 ∨ k = 135
def skK (k : Int) : Prop := (60 ≤ k ∧ k < 120) ∨ k = 127 ∨ k = 128 ∨ k = 130
def flK (k : Int) : Prop := k = 127 ∨ k = 128 ∨ (131 ≤ k ∧ k ≤ 134)
theorem inR.mono {x : Int32} {a b c d : Int} (h : inR x a b) (h1 : c ≤ a) (h2 : b ≤ d) : inR x c d := by
  obtain ⟨z, q1, q2, q3⟩ := h
  exact ⟨z, by omega, by omega, q3⟩
theorem ShR.fr {X X' : St} {i : Nat} {r r' : Int → Int32} (h : ShR X i r) (hX : ∀ f, 512 ≤ f → f ≤ 521 → X' f i = X f i) (hr : ∀ k, shK k → r' k = r k) : ShR X' i r' := by
  obtain ⟨h1, h2, h3, h4, h5, h6, h7, h8⟩ := h
  refine ⟨fun l hl => ?_, ?_, ?_, ?_, ?_, ?_, ?_, ?_⟩
  · rw [hX 512 (by omega) (by omega), hr l (by unfold shK; omega)]; exact h1 l hl
  · rw [hX 516 (by omega) (by omega), hr _ (by unfold shK; omega)]; exact h2
  · rw [hX 519 (by omega) (by omega), hr _ (by unfold shK; omega)]; exact h3
  · rw [hX 520 (by omega) (by omega), hr _ (by unfold shK; omega)]; exact h4
  · rw [hX 521 (by omega) (by omega), hr _ (by unfold shK; omega)]; exact h5
  · rw [hX 517 (by omega) (by omega), hr _ (by unfold shK; omega)]; exact h6
  · rw [hX 518 (by omega) (by omega), hr _ (by unfold shK; omega)]; exact h7
  · rw [hX 515 (by omega) (by omega), hr _ (by unfold shK; omega)]; exact h8
theorem ShV.fr {X X' : St} {i : Nat} {a b F F' : Int} (h : ShV X i a b F) (hX : ∀ f, 512 ≤ f → f ≤ 521 → X' f i = X f i) (hF : F ≤ F') : ShV X' i a b F' := by
  obtain ⟨h1, h2, h3, h4, h5, ⟨u, u1, u2, u3, u4, u5, u6⟩, h7, h8, h9⟩ := h
  refine ⟨h1, h2, h3, ?_, ?_, ⟨u, u1, u2, ?_, ?_, ?_, ?_⟩, ?_, fun l hl => ?_, fun l hl hn => ?_⟩
  · rw [hX 513 (by omega) (by omega)]; exact h4
  · rw [hX 514 (by omega) (by omega)]; exact h5
  · rw [hX 515 (by omega) (by omega)]; exact u3
  · rw [hX 519 (by omega) (by omega)]; exact u4
  · rw [hX 520 (by omega) (by omega)]; exact u5
  · rw [hX 521 (by omega) (by omega)]; exact u6
  · rw [hX 516 (by omega) (by omega)]; exact h7.mono (by omega) hF
  · rw [hX 512 (by omega) (by omega)]; exact h8 l hl
  · rw [hX 512 (by omega) (by omega)]; exact h9 l hl hn
theorem SkS.fr {X X' : St} {i i' : Nat} (h : X' 577 i' = X 577 i) : ∀ n, SkS X' i' n = SkS X i n
  | 0 => rfl
  | n + 1 => by unfold SkS; rw [SkS.fr h n, h]
theorem SkR.fr {X X' : St} {i : Nat} {r r' : Int → Int32} (h : SkR X i r) (hX : ∀ f, 576 ≤ f → f ≤ 580 → X' f i = X f i) (hr : ∀ k, skK k → r' k = r k) : SkR X' i r' := by
  obtain ⟨k, h1, h2, h3, h4, h5, h6, h7, h8, h9⟩ := h
  refine ⟨k, h1, ?_, ?_, ?_, ?_, ?_, ?_, fun j hj => ?_, ?_⟩
  · rw [hX 578 (by omega) (by omega)]; exact h2
  · rw [hr _ (by unfold skK; omega)]; exact h3
  · rw [hX 579 (by omega) (by omega), hr _ (by unfold skK; omega)]; exact h4
  · rw [hX 580 (by omega) (by omega), hr _ (by unfold skK; omega)]; exact h5
  · rw [hX 579 (by omega) (by omega)]; exact h6
  · rw [hX 580 (by omega) (by omega)]; exact h7
  · rw [hX 576 (by omega) (by omega), hX 577 (by omega) (by omega), hr _ (by unfold skK; omega), hr _ (by unfold skK; omega)]; exact h8 j hj
  · rw [hX 579 (by omega) (by omega), SkS.fr (hX 577 (by omega) (by omega))]; exact h9
theorem stF.fr {r r' : Int → Int32} (hr : ∀ k, flK k → r' k = r k) : stF r' = stF r := by
  unfold stF
  rw [hr 134 (by unfold flK; omega), hr 133 (by unfold flK; omega), hr 132 (by unfold flK; omega), hr 131 (by unfold flK; omega)]
theorem FlR.fr {x : Int32} {r r' : Int → Int32} (h : FlR x r) (hr : ∀ k, flK k → r' k = r k) : FlR x r' := by
  obtain ⟨h1, h2, h3, h4, h5, h6⟩ := h
  refine ⟨by rw [stF.fr hr]; exact h1, ?_, ?_, ?_, ?_, ?_⟩
  · rw [hr _ (by unfold flK; omega)]; exact h2
  · rw [hr _ (by unfold flK; omega)]; exact h3
  · rw [hr _ (by unfold flK; omega)]; exact h4
  · rw [hr _ (by unfold flK; omega)]; exact h5
  · rw [hr 132 (by unfold flK; omega), hr 127 (by unfold flK; omega), hr 128 (by unfold flK; omega)]; exact h6
/-- the fields of a cavern beside its shape -/
def kF (f : Nat) : Prop := (576 ≤ f ∧ f ≤ 580) ∨ (195 ≤ f ∧ f ≤ 201 ∧ f ≠ 196) ∨ (256 ≤ f ∧ f ≤ 261)
theorem CvK.fr {X X' M M' : St} {c n n' : Nat} (h : CvK X M c n) (hX : ∀ f, kF f → X' f c = X f c) (hr : ∀ k, 0 ≤ k → k < 136 → rw_ M' c k = rw_ M c k) (hM : ∀ f, 796 ≤ f → f ≤ 803 → f ≠ 802 → M' f 0 = M f 0) : CvK X' M' c n' := by
  obtain ⟨h1, h2, h3, h4, h5, h6, h7, h8, h9, k, k1, k2, k3, k4⟩ := h
  have g : ∀ f, kF f → X' f c = X f c := hX
  refine ⟨h1.fr (fun f a b => hX f (Or.inl ⟨a, b⟩)) (fun k hk => hr k (by unfold skK at hk; omega) (by unfold skK at hk; omega)), ?_, ?_, ?_, fun l hl => ?_, ?_, ?_, ?_, ?_, k, k1, ?_, ?_, fun j hj => ?_⟩
  · rw [hX 198 (by unfold kF; omega)]; exact h2.fr (fun k hk => hr k (by unfold flK at hk; omega) (by unfold flK at hk; omega))
  · rw [hX 199 (by unfold kF; omega), hr _ (by omega) (by omega)]; exact h3
  · rw [hX 199 (by unfold kF; omega)]; exact h4
  · rw [hX 195 (by unfold kF; omega), hr _ (by omega) (by omega)]; exact h5 l hl
  · rw [hX 200 (by unfold kF; omega), hr _ (by omega) (by omega)]; exact h6
  · rw [hX 200 (by unfold kF; omega)]; exact h7
  · rw [hX 201 (by unfold kF; omega), hM 803 (by omega) (by omega) (by omega)]; exact h8
  · rw [hX 201 (by unfold kF; omega)]; exact h9
  · rw [hX 261 (by unfold kF; omega)]; exact k2
  · rw [hM 796 (by omega) (by omega) (by omega)]; exact k3
  · rw [hX 256 (by unfold kF; omega), hX 257 (by unfold kF; omega), hX 258 (by unfold kF; omega), hX 259 (by unfold kF; omega), hX 260 (by unfold kF; omega), hM 797 (by omega) (by omega) (by omega), hM 798 (by omega) (by omega) (by omega), hM 799 (by omega) (by omega) (by omega), hM 800 (by omega) (by omega) (by omega), hM 801 (by omega) (by omega) (by omega)]
    exact k4 j hj
theorem CvM.fr {X X' M M' : St} {c n n' : Nat} (h : CvM X M c n) (hn : n ≤ n') (hX : ∀ f, 512 ≤ f → f ≤ 521 → X' f c = X f c) (hp : X' 197 c = X 197 c) (hr : ∀ k, 0 ≤ k → k < 136 → rw_ M' c k = rw_ M c k) (hM : ∀ f, 777 ≤ f → f ≤ 779 → M' f 0 = M f 0) : CvM X' M' c n' := by
  obtain ⟨a, b, h1, h2, h3, h4, h5, h6⟩ := h
  refine ⟨a, b, h1.fr hX (by omega), ?_, ?_, h4.fr hX (fun k hk => hr k (by unfold shK at hk; omega) (by unfold shK at hk; omega)), ?_, ?_⟩
  · rw [hM 778 (by omega) (by omega)]; exact h2
  · rw [hM 779 (by omega) (by omega)]; exact h3
  · rw [hp, hM 777 (by omega) (by omega)]; exact h5
  · rw [hp]; exact h6
theorem CvN.fr {M M' : St} {c : Nat} (h : CvN M c) (hr : ∀ k, 0 ≤ k → k < 136 → rw_ M' c k = rw_ M c k) : CvN M' c := fun k hk => by
  rw [hr k hk.1 hk.2]; exact h k hk
/-- the fields of X, of M, that the caverns' relation reads -/
def cvX (f : Nat) : Prop := kF f ∨ (512 ≤ f ∧ f ≤ 521) ∨ f = 707
def cvM (f : Nat) : Prop := (777 ≤ f ∧ f ≤ 781) ∨ (796 ≤ f ∧ f ≤ 803 ∧ f ≠ 802)
theorem rw_fr {M M' : St} (h : M' 780 0 = M 780 0) (c k : Int) : rw_ M' c k = rw_ M c k := by unfold rw_; rw [h]
theorem CvR.fr {X X' M M' : St} {n n' cnt : Nat} (h : CvR X M n cnt) (hn : n ≤ n') (hX : ∀ f, cvX f → ∀ i, i < 5 → X' f i = X f i) (hM : ∀ f, cvM f → M' f 0 = M f 0) : CvR X' M' n' cnt := by
  obtain ⟨h1, h2, h3, h4, h5, h6⟩ := h
  have hr : ∀ (c : Nat) k, 0 ≤ k → k < 136 → rw_ M' c k = rw_ M c k := fun c k _ _ => rw_fr (hM 780 (by unfold cvM; omega)) c k
  refine ⟨h1, ?_, ?_, fun c hc => ?_, fun c hc => ?_, fun c hc => ?_⟩
  · rw [hX 707 (by unfold cvX; omega) 0 (by omega)]; exact h2
  · rw [hM 781 (by unfold cvM; omega)]; exact h3
  · exact (h4 c hc).fr (fun f hf => hX f (Or.inl hf) c hc) (hr c) (fun f a b d => hM f (by unfold cvM; omega))
  · exact (h5 c hc).fr hn (fun f a b => hX f (by unfold cvX; omega) c (by omega)) (hX 197 (by unfold cvX kF; omega) c (by omega)) (hr c) (fun f a b => hM f (by unfold cvM; omega))
  · exact (h6 c hc).fr (hr c)
/-- the fields that the acts' relation reads -/
def acX (f : Nat) : Prop := f ≤ 4 ∨ f = 65 ∨ f = 66 ∨ (512 ≤ f ∧ f ≤ 521) ∨ (576 ≤ f ∧ f ≤ 580)
theorem AcR.fr {X X' M M' : St} {n n' cnt cnt' : Nat} (h : AcR X M n cnt) (hn : n ≤ n') (hc : cnt ≤ cnt') (hc5 : cnt ≤ 5) (h1 : ∀ f, acX f → ∀ i, (f < 512 ∨ 5 ≤ i) → X' f i = X f i) (h2 : ∀ c, c < 5 → X' 513 c = X 513 c ∧ X' 514 c = X 514 c) (h3 : ∀ f, 811 ≤ f → f ≤ 814 → M' f 0 = M f 0) (h4 : ∀ (c : Nat) (k : Int), c < 5 → (30 ≤ k ∧ k < 60 ∨ k = 129) → rw_ M' c k = rw_ M c k) : AcR X' M' n' cnt' := by
  obtain ⟨f, k, a1, a2, a3, a4, a5, a6⟩ := h
  refine ⟨f, k, a1, a2, ?_, ?_, ?_, fun j hj => ?_⟩
  · rw [h1 65 (by unfold acX; omega) 0 (by omega)]; exact a3
  · rw [h1 66 (by unfold acX; omega) 0 (by omega)]; exact a4
  · rw [h3 814 (by omega) (by omega)]; exact a5
  · obtain ⟨c, p, q, b1, b2, b3, b4, b5, b6, b7, b8, b9, b10, b11, b12⟩ := a6 j hj
    have ha : ∀ k, 0 ≤ k → k < 136 → ar_ M' j k = ar_ M j k := fun k _ _ => by unfold ar_; rw [h3 812 (by omega) (by omega)]
    refine ⟨c, p, q, by omega, ?_, ?_, b4.fr (fun f a b => h1 f (by unfold acX; omega) _ (by omega)) (by omega), ?_, ?_, b7.fr (fun f a b => h1 f (by unfold acX; omega) _ (by omega)) (fun k hk => ha k (by unfold shK at hk; omega) (by unfold shK at hk; omega)), b8.fr (fun f a b => h1 f (by unfold acX; omega) _ (by omega)) (fun k hk => ha k (by unfold skK at hk; omega) (by unfold skK at hk; omega)), ?_, fun k hk => ?_, ?_, fun k hk => ?_⟩
    · rw [h1 0 (by unfold acX; omega) _ (by omega)]; exact b2
    · rw [h3 811 (by omega) (by omega)]; exact b3
    · rw [(h2 c (by omega)).1]; exact b5
    · rw [(h2 c (by omega)).2]; exact b6
    · rw [h1 3 (by unfold acX; omega) _ (by omega)]; exact b9.fr (fun k hk => ha k (by unfold flK at hk; omega) (by unfold flK at hk; omega))
    · rw [ha k (by omega) (by omega), h4 c k (by omega) (by omega)]; exact b10 k hk
    · rw [ha 129 (by omega) (by omega), h4 c 129 (by omega) (by omega)]; exact b11
    · rw [h1 4 (by unfold acX; omega) _ (by omega), h3 813 (by omega) (by omega)]; exact b12 k hk
theorem TxR.fr {X X' M M' : St} (h : TxR X M) (a : X' 128 0 = X 128 0) (b : X' 129 0 = X 129 0) (c : M' 769 0 = M 769 0) (d : M' 773 0 = M 773 0) : TxR X' M' := by
  unfold TxR at h ⊢
  rw [a, b, c, d]
  exact h
theorem BdR.fr {X X' M M' : St} (h : BdR X M) (a : X' 448 0 = X 448 0) (b : M' 770 0 = M 770 0) : BdR X' M' := by
  unfold BdR at h ⊢
  rw [a, b]
  exact h
theorem LwR.fr {X X' M M' : St} (h : LwR X M) (a : X' 449 0 = X 449 0) (b : M' 782 0 = M 782 0) : LwR X' M' := by
  unfold LwR at h ⊢
  rw [a, b]
  exact h
theorem SeR.fr {X X' M M' : St} (h : SeR X M) (a : X' 709 0 = X 709 0) (b : M' 784 0 = M 784 0) : SeR X' M' := by
  unfold SeR at h ⊢
  rw [a, b]
  exact h
theorem SmR.fr {X X' M M' : St} (h : SmR X M) (a : X' 708 0 = X 708 0) (b : M' 785 0 = M 785 0) (c : X' 710 0 = X 710 0) (d : M' 788 0 = M 788 0) (e : X' 712 0 = X 712 0) (f : M' 786 0 = M 786 0) : SmR X' M' := by
  unfold SmR at h ⊢
  rw [a, b, c, d, e, f]
  exact h
theorem DrR.fr {X X' M M' : St} (h : DrR X M) (a : X' 711 0 = X 711 0) (b : M' 787 0 = M 787 0) : DrR X' M' := by
  unfold DrR at h ⊢
  rw [a, b]
  exact h
theorem RdR.fr {X X' M M' : St} (h : RdR X M) (hX : ∀ f, 384 ≤ f → f ≤ 388 → X' f 0 = X f 0) (hM : ∀ f, 789 ≤ f → f ≤ 793 → M' f 0 = M f 0) : RdR X' M' := by
  unfold RdR at h ⊢
  rw [hX 384 (by omega) (by omega), hX 385 (by omega) (by omega), hX 386 (by omega) (by omega), hX 387 (by omega) (by omega), hX 388 (by omega) (by omega), hM 789 (by omega) (by omega), hM 790 (by omega) (by omega), hM 791 (by omega) (by omega), hM 792 (by omega) (by omega), hM 793 (by omega) (by omega)]
  exact h
theorem RfR.fr {X X' M M' : St} (h : RfR X M) (a : X' 717 0 = X 717 0) (b : M' 768 0 = M 768 0) : RfR X' M' := by
  unfold RfR at h ⊢
  rw [a, b]
  exact h
theorem NdR.fr {X X' M M' : St} (h : NdR X M) (a : X' 640 0 = X 640 0) (b : M' 802 0 = M 802 0) : NdR X' M' := by
  unfold NdR at h ⊢
  rw [a, b]
  exact h
theorem AmR.fr {X X' M M' : St} (h : AmR X M) (a : X' 320 0 = X 320 0) (b : M' 804 0 = M 804 0) : AmR X' M' := by
  unfold AmR at h ⊢
  rw [a, b]
  exact h
theorem ChR.fr {X X' M M' : St} (h : ChR X M) (hX : ∀ f, 321 ≤ f → f ≤ 324 → X' f 0 = X f 0) (hM : ∀ f, 805 ≤ f → f ≤ 810 → f ≠ 808 → f ≠ 809 → M' f 0 = M f 0) : ChR X' M' := by
  unfold ChR at h ⊢
  rw [hX 321 (by omega) (by omega), hX 322 (by omega) (by omega), hX 323 (by omega) (by omega), hX 324 (by omega) (by omega), hM 805 (by omega) (by omega) (by omega) (by omega), hM 806 (by omega) (by omega) (by omega) (by omega), hM 807 (by omega) (by omega) (by omega) (by omega), hM 810 (by omega) (by omega) (by omega) (by omega)]
  exact h
theorem LoR.fr {X X' : St} (h : LoR X) (a : X' 708 0 = X 708 0) (b : ∀ c, c < 5 → X' 200 c = X 200 c) : LoR X' := by
  obtain ⟨y, y1, y2, y3, y4⟩ := h
  exact ⟨y, y1, y2, by rw [a]; exact y3, fun c hc => by rw [b c hc]; exact y4 c hc⟩
/-- the fields of the class that the relation reads; all others are scratch -/
def scrX (f : Nat) : Prop := (130 ≤ f ∧ f ≤ 135) ∨ f = 196 ∨ (325 ≤ f ∧ f ≤ 328) ∨ f = 389 ∨ f = 390 ∨ f = 641 ∨ f = 719
def scrM (f : Nat) : Prop := (771 ≤ f ∧ f ≤ 772) ∨ (774 ≤ f ∧ f ≤ 776) ∨ f = 783 ∨ f = 794 ∨ f = 795 ∨ f = 808 ∨ f = 809
/-- one cavern changes -/
theorem CvR.one {X X' M M' : St} {n n' cnt c : Nat} (h : CvR X M n cnt) (hn : n ≤ n') (hc : c < cnt) (hX : ∀ f, cvX f → f ≠ 707 → ∀ i, i < 5 → i ≠ c → X' f i = X f i) (h7 : X' 707 0 0 = X 707 0 0) (hM : ∀ f, cvM f → f ≠ 780 → M' f 0 = M f 0) (hr : ∀ c' : Nat, c' < 5 → c' ≠ c → ∀ k, 0 ≤ k → k < 136 → rw_ M' c' k = rw_ M c' k) (hK : CvK X' M' c n') (hm : CvM X' M' c n') : CvR X' M' n' cnt := by
  obtain ⟨h1, h2, h3, h4, h5, h6⟩ := h
  refine ⟨h1, ?_, ?_, fun i hi => ?_, fun i hi => ?_, fun i hi => ?_⟩
  · rw [h7]; exact h2
  · rw [hM 781 (by unfold cvM; omega) (by omega)]; exact h3
  · by_cases e : i = c
    · subst e; exact hK
    · exact (h4 i hi).fr (fun f hf => hX f (Or.inl hf) (by unfold kF at hf; omega) i hi e) (hr i hi e) (fun f a b d => hM f (by unfold cvM; omega) (by omega))
  · by_cases e : i = c
    · subst e; exact hm
    · exact (h5 i hi).fr hn (fun f a b => hX f (by unfold cvX; omega) (by omega) i (by omega) e) (hX 197 (by unfold cvX kF; omega) (by omega) i (by omega) e) (hr i (by omega) e) (fun f a b => hM f (by unfold cvM; omega) (by omega))
  · exact (h6 i hi).fr (hr i hi.2 (by omega))
theorem rs_f {M : St} {c k : Int} {v : Int32} {f i : Nat} (h : f ≠ 780) : rs_ M c k v f i = M f i := by
  unfold rs_
  exact st_wr_ne (fun q => h q.1)
/-- the acts are forgotten -/
theorem AcR.none {X X' M M' : St} {n n' cnt cnt' : Nat} (h : AcR X M n cnt) (h1 : X' 65 0 0 = X 65 0 0) (h2 : X' 66 0 0 = iI 0) (h3 : M' 814 0 0 = iI 0) : AcR X' M' n' cnt' := by
  obtain ⟨f, k, a1, a2, a3, a4, a5, a6⟩ := h
  exact ⟨f, 0, a1, by omega, by rw [h1]; exact a3, h2, h3, fun j hj => absurd hj (by omega)⟩
theorem stF_c (r : Int → Int32) : (r 134 = iI 1 ∧ stF r = iI 4) ∨ (r 134 ≠ iI 1 ∧ r 133 = iI 1 ∧ stF r = iI 3) ∨ (r 134 ≠ iI 1 ∧ r 133 ≠ iI 1 ∧ r 132 = iI 1 ∧ stF r = iI 2) ∨ (r 134 ≠ iI 1 ∧ r 133 ≠ iI 1 ∧ r 132 ≠ iI 1 ∧ r 131 = iI 1 ∧ stF r = iI 1) ∨ (r 134 ≠ iI 1 ∧ r 133 ≠ iI 1 ∧ r 132 ≠ iI 1 ∧ r 131 ≠ iI 1 ∧ stF r = iI 0) := by
  unfold stF
  by_cases h1 : r 134 = iI 1
  · exact Or.inl ⟨h1, by rw [if_pos h1]⟩
  · by_cases h2 : r 133 = iI 1
    · exact Or.inr (Or.inl ⟨h1, h2, by rw [if_neg h1, if_pos h2]⟩)
    · by_cases h3 : r 132 = iI 1
      · exact Or.inr (Or.inr (Or.inl ⟨h1, h2, h3, by rw [if_neg h1, if_neg h2, if_pos h3]⟩))
      · by_cases h4 : r 131 = iI 1
        · exact Or.inr (Or.inr (Or.inr (Or.inl ⟨h1, h2, h3, h4, by rw [if_neg h1, if_neg h2, if_neg h3, if_pos h4]⟩)))
        · exact Or.inr (Or.inr (Or.inr (Or.inr ⟨h1, h2, h3, h4, by rw [if_neg h1, if_neg h2, if_neg h3, if_neg h4]⟩)))
theorem stF_ex (r : Int → Int32) : ∃ s : Int, 0 ≤ s ∧ s ≤ 4 ∧ stF r = iI s ∧ (s = 4 ↔ r 134 = iI 1) ∧ (s = 3 → r 133 = iI 1) ∧ (s ≤ 2 → r 133 ≠ iI 1) ∧ (s = 2 → r 132 = iI 1) ∧ (s < 2 → r 132 ≠ iI 1) ∧ (s = 1 → r 131 = iI 1) ∧ (s = 0 → r 131 ≠ iI 1) := by
  rcases stF_c r with ⟨a, e⟩ | ⟨a, b, e⟩ | ⟨a, b, c, e⟩ | ⟨a, b, c, d, e⟩ | ⟨a, b, c, d, e⟩
  · exact ⟨4, by omega, by omega, e, ⟨fun _ => a, fun _ => rfl⟩, by omega, by omega, by omega, by omega, by omega, by omega⟩
  · exact ⟨3, by omega, by omega, e, ⟨by omega, fun q => absurd q a⟩, fun _ => b, by omega, by omega, by omega, by omega, by omega⟩
  · exact ⟨2, by omega, by omega, e, ⟨by omega, fun q => absurd q a⟩, by omega, fun _ => b, fun _ => c, by omega, by omega, by omega⟩
  · exact ⟨1, by omega, by omega, e, ⟨by omega, fun q => absurd q a⟩, by omega, fun _ => b, by omega, fun _ => c, fun _ => d, by omega⟩
  · exact ⟨0, by omega, by omega, e, ⟨by omega, fun q => absurd q a⟩, by omega, fun _ => b, by omega, fun _ => c, by omega, fun _ => d⟩
