/-! THE CELLS OF BOTH WORLDS ARE CLOSED (printed by wip/gen9.py) -/
def cn_ (k : Nat) : Nat := (gN gCnt k).getD 0
def MX (k i : Nat) : Prop := (k < 12 ∧ i < cn_ k) ∨ (1000 ≤ k ∧ k < 1768 ∧ 2 ≤ (gF (k - 1000)).1 ∧ (gF (k - 1000)).1 ≤ 4 ∧ i < cn_ ((k - 1000) / 64))
def MXb (q : Nat × Nat) : Bool := (Nat.blt q.1 12 && Nat.blt q.2 (cn_ q.1)) || (Nat.ble 1000 q.1 && (Nat.blt q.1 1768 && (Nat.ble 2 (gF (q.1 - 1000)).1 && (Nat.ble (gF (q.1 - 1000)).1 4 && Nat.blt q.2 (cn_ ((q.1 - 1000) / 64))))))
theorem MX_of {q : Nat × Nat} (h : MXb q = true) : MX q.1 q.2 := by
  unfold MXb at h
  unfold MX
  simp only [Bool.or_eq_true, Bool.and_eq_true, Nat.blt_eq, Nat.ble_eq] at h
  exact h
theorem mX_all : cellsX.all MXb = true := by decide +kernel
theorem mX_of {k i : Nat} (h : (k, i) ∈ cellsX) : MX k i := MX_of (List.all_eq_true.mp mX_all _ h)
theorem in_act {q : Nat × Nat} {y : Nat} (hy : y < 200) (h : q ∈ csAct y) : q ∈ cellsX := by
  have h1 : q ∈ csActs := by
    show q ∈ [(1, 0)] ++ (1064, 0) :: ([] ++ catC csAct 200)
    exact List.mem_append_right _ (List.mem_cons_of_mem _ (List.mem_append_right _ ((mem_catC 200).mpr ⟨y, hy, h⟩)))
  exact List.mem_append_right _ (List.mem_cons_of_mem _ (List.mem_append_left _ (List.mem_append_right _ (List.mem_append_right _ (List.mem_append_right _ (List.mem_append_right _ (List.mem_append_right _ (List.mem_append_left _ h1))))))))
theorem in_cav {q : Nat × Nat} {y : Nat} (hy : y < 5) (h : q ∈ csCav y) : q ∈ cellsX := List.mem_append_right _ (List.mem_cons_of_mem _ (List.mem_append_right _ ((mem_catC 5).mpr ⟨y, hy, h⟩)))
theorem in_pn {q : Nat × Nat} (h : q ∈ csPn) : q ∈ cellsX := List.mem_append_right _ (List.mem_cons_of_mem _ (List.mem_append_left _ (List.mem_append_right _ (List.mem_append_right _ (List.mem_append_right _ (List.mem_append_right _ (List.mem_append_left _ h)))))))
theorem in_psh {q : Nat × Nat} {y : Nat} (hy : y < 6) (h : q ∈ csSh (y + 6)) : q ∈ cellsX := in_pn (List.mem_append_right _ (List.mem_cons_of_mem _ (List.mem_append_right _ ((mem_catC 6).mpr ⟨y, hy, h⟩))))
theorem in_el {q : Nat × Nat} (h : cellsX.elem q = true) : q ∈ cellsX := List.elem_iff.mp h
theorem bk_0 (i : Nat) (h : i < 200) : (0, i) ∈ cellsX := in_act h (by simp [csAct, csSh, csSk])
theorem bk_1 (i : Nat) (h : i < 1) : (1, i) ∈ cellsX := by
  have e : i = 0 := by omega
  subst e
  exact in_el (by decide +kernel)
theorem bk_2 (i : Nat) (h : i < 1) : (2, i) ∈ cellsX := by
  have e : i = 0 := by omega
  subst e
  exact in_el (by decide +kernel)
theorem bk_3 (i : Nat) (h : i < 5) : (3, i) ∈ cellsX := in_cav h (by simp [csCav, csSh, csSk, csLt])
theorem bk_4 (i : Nat) (h : i < 5) : (4, i) ∈ cellsX := in_cav h (by simp [csCav, csSh, csSk, csLt])
theorem bk_5 (i : Nat) (h : i < 1) : (5, i) ∈ cellsX := by
  have e : i = 0 := by omega
  subst e
  exact in_el (by decide +kernel)
theorem bk_6 (i : Nat) (h : i < 1) : (6, i) ∈ cellsX := by
  have e : i = 0 := by omega
  subst e
  exact in_el (by decide +kernel)
theorem bk_7 (i : Nat) (h : i < 1) : (7, i) ∈ cellsX := by
  have e : i = 0 := by omega
  subst e
  exact in_el (by decide +kernel)
theorem bk_8 (i : Nat) (h : i < 212) : (8, i) ∈ cellsX := by
  by_cases h1 : i < 5
  · exact in_cav h1 (by simp [csCav, csSh, csSk, csLt])
  by_cases h2 : i = 5
  · subst h2
    exact in_el (by decide +kernel)
  by_cases h3 : i < 12
  · obtain ⟨y, rfl⟩ : ∃ y, i = y + 6 := ⟨i - 6, by omega⟩
    exact in_psh (y := y) (by omega) (by simp [csSh])
  obtain ⟨y, rfl⟩ : ∃ y, i = y + 12 := ⟨i - 12, by omega⟩
  exact in_act (y := y) (by omega) (by simp [csAct, csSh, csSk])
theorem bk_9 (i : Nat) (h : i < 205) : (9, i) ∈ cellsX := by
  by_cases h1 : i < 5
  · exact in_cav h1 (by simp [csCav, csSh, csSk, csLt])
  obtain ⟨y, rfl⟩ : ∃ y, i = y + 5 := ⟨i - 5, by omega⟩
  exact in_act (y := y) (by omega) (by simp [csAct, csSh, csSk])
theorem bk_10 (i : Nat) (h : i < 1) : (10, i) ∈ cellsX := by
  have e : i = 0 := by omega
  subst e
  exact in_el (by decide +kernel)
theorem bk_11 (i : Nat) (h : i < 1) : (11, i) ∈ cellsX := by
  have e : i = 0 := by omega
  subst e
  exact in_el (by decide +kernel)
theorem bk_1004 (i : Nat) (h : i < 200) : (1004, i) ∈ cellsX := in_act h (by simp [csAct, csSh, csSk])
theorem bk_1064 (i : Nat) (h : i < 1) : (1064, i) ∈ cellsX := by
  have e : i = 0 := by omega
  subst e
  exact in_el (by decide +kernel)
theorem bk_1128 (i : Nat) (h : i < 1) : (1128, i) ∈ cellsX := by
  have e : i = 0 := by omega
  subst e
  exact in_el (by decide +kernel)
theorem bk_1130 (i : Nat) (h : i < 1) : (1130, i) ∈ cellsX := by
  have e : i = 0 := by omega
  subst e
  exact in_el (by decide +kernel)
theorem bk_1132 (i : Nat) (h : i < 1) : (1132, i) ∈ cellsX := by
  have e : i = 0 := by omega
  subst e
  exact in_el (by decide +kernel)
theorem bk_1195 (i : Nat) (h : i < 5) : (1195, i) ∈ cellsX := in_cav h (by simp [csCav, csSh, csSk, csLt])
theorem bk_1196 (i : Nat) (h : i < 5) : (1196, i) ∈ cellsX := in_cav h (by simp [csCav, csSh, csSk, csLt])
theorem bk_1256 (i : Nat) (h : i < 5) : (1256, i) ∈ cellsX := in_cav h (by simp [csCav, csSh, csSk, csLt])
theorem bk_1257 (i : Nat) (h : i < 5) : (1257, i) ∈ cellsX := in_cav h (by simp [csCav, csSh, csSk, csLt])
theorem bk_1258 (i : Nat) (h : i < 5) : (1258, i) ∈ cellsX := in_cav h (by simp [csCav, csSh, csSk, csLt])
theorem bk_1259 (i : Nat) (h : i < 5) : (1259, i) ∈ cellsX := in_cav h (by simp [csCav, csSh, csSk, csLt])
theorem bk_1260 (i : Nat) (h : i < 5) : (1260, i) ∈ cellsX := in_cav h (by simp [csCav, csSh, csSk, csLt])
theorem bk_1320 (i : Nat) (h : i < 1) : (1320, i) ∈ cellsX := by
  have e : i = 0 := by omega
  subst e
  exact in_el (by decide +kernel)
theorem bk_1321 (i : Nat) (h : i < 1) : (1321, i) ∈ cellsX := by
  have e : i = 0 := by omega
  subst e
  exact in_el (by decide +kernel)
theorem bk_1322 (i : Nat) (h : i < 1) : (1322, i) ∈ cellsX := by
  have e : i = 0 := by omega
  subst e
  exact in_el (by decide +kernel)
theorem bk_1323 (i : Nat) (h : i < 1) : (1323, i) ∈ cellsX := by
  have e : i = 0 := by omega
  subst e
  exact in_el (by decide +kernel)
theorem bk_1325 (i : Nat) (h : i < 1) : (1325, i) ∈ cellsX := by
  have e : i = 0 := by omega
  subst e
  exact in_el (by decide +kernel)
theorem bk_1326 (i : Nat) (h : i < 1) : (1326, i) ∈ cellsX := by
  have e : i = 0 := by omega
  subst e
  exact in_el (by decide +kernel)
theorem bk_1327 (i : Nat) (h : i < 1) : (1327, i) ∈ cellsX := by
  have e : i = 0 := by omega
  subst e
  exact in_el (by decide +kernel)
theorem bk_1384 (i : Nat) (h : i < 1) : (1384, i) ∈ cellsX := by
  have e : i = 0 := by omega
  subst e
  exact in_el (by decide +kernel)
theorem bk_1385 (i : Nat) (h : i < 1) : (1385, i) ∈ cellsX := by
  have e : i = 0 := by omega
  subst e
  exact in_el (by decide +kernel)
theorem bk_1386 (i : Nat) (h : i < 1) : (1386, i) ∈ cellsX := by
  have e : i = 0 := by omega
  subst e
  exact in_el (by decide +kernel)
theorem bk_1387 (i : Nat) (h : i < 1) : (1387, i) ∈ cellsX := by
  have e : i = 0 := by omega
  subst e
  exact in_el (by decide +kernel)
theorem bk_1448 (i : Nat) (h : i < 1) : (1448, i) ∈ cellsX := by
  have e : i = 0 := by omega
  subst e
  exact in_el (by decide +kernel)
theorem bk_1449 (i : Nat) (h : i < 1) : (1449, i) ∈ cellsX := by
  have e : i = 0 := by omega
  subst e
  exact in_el (by decide +kernel)
theorem bk_1512 (i : Nat) (h : i < 212) : (1512, i) ∈ cellsX := by
  by_cases h1 : i < 5
  · exact in_cav h1 (by simp [csCav, csSh, csSk, csLt])
  by_cases h2 : i = 5
  · subst h2
    exact in_el (by decide +kernel)
  by_cases h3 : i < 12
  · obtain ⟨y, rfl⟩ : ∃ y, i = y + 6 := ⟨i - 6, by omega⟩
    exact in_psh (y := y) (by omega) (by simp [csSh])
  obtain ⟨y, rfl⟩ : ∃ y, i = y + 12 := ⟨i - 12, by omega⟩
  exact in_act (y := y) (by omega) (by simp [csAct, csSh, csSk])
theorem bk_1576 (i : Nat) (h : i < 205) : (1576, i) ∈ cellsX := by
  by_cases h1 : i < 5
  · exact in_cav h1 (by simp [csCav, csSh, csSk, csLt])
  obtain ⟨y, rfl⟩ : ∃ y, i = y + 5 := ⟨i - 5, by omega⟩
  exact in_act (y := y) (by omega) (by simp [csAct, csSh, csSk])
theorem bk_1577 (i : Nat) (h : i < 205) : (1577, i) ∈ cellsX := by
  by_cases h1 : i < 5
  · exact in_cav h1 (by simp [csCav, csSh, csSk, csLt])
  obtain ⟨y, rfl⟩ : ∃ y, i = y + 5 := ⟨i - 5, by omega⟩
  exact in_act (y := y) (by omega) (by simp [csAct, csSh, csSk])
theorem bk_1640 (i : Nat) (h : i < 1) : (1640, i) ∈ cellsX := by
  have e : i = 0 := by omega
  subst e
  exact in_el (by decide +kernel)
theorem bk_1706 (i : Nat) (h : i < 1) : (1706, i) ∈ cellsX := by
  have e : i = 0 := by omega
  subst e
  exact in_el (by decide +kernel)
theorem bk_1709 (i : Nat) (h : i < 1) : (1709, i) ∈ cellsX := by
  have e : i = 0 := by omega
  subst e
  exact in_el (by decide +kernel)
theorem bk_1711 (i : Nat) (h : i < 1) : (1711, i) ∈ cellsX := by
  have e : i = 0 := by omega
  subst e
  exact in_el (by decide +kernel)
theorem bk_1717 (i : Nat) (h : i < 1) : (1717, i) ∈ cellsX := by
  have e : i = 0 := by omega
  subst e
  exact in_el (by decide +kernel)
theorem bk_1719 (i : Nat) (h : i < 1) : (1719, i) ∈ cellsX := by
  have e : i = 0 := by omega
  subst e
  exact in_el (by decide +kernel)
theorem arrs : ∀ f, f < 768 → 2 ≤ (gF f).1 → (gF f).1 ≤ 4 → f ∈ [4, 64, 128, 130, 132, 195, 196, 256, 257, 258, 259, 260, 320, 321, 322, 323, 325, 326, 327, 384, 385, 386, 387, 448, 449, 512, 576, 577, 640, 706, 709, 711, 717, 719] := by decide +kernel
theorem mX_back {k i : Nat} (h : MX k i) : (k, i) ∈ cellsX := by
  rcases h with ⟨h1, h2⟩ | ⟨h1, h2, h3, h4, h5⟩
  · rcases (show k = 0 ∨ k = 1 ∨ k = 2 ∨ k = 3 ∨ k = 4 ∨ k = 5 ∨ k = 6 ∨ k = 7 ∨ k = 8 ∨ k = 9 ∨ k = 10 ∨ k = 11 by omega) with rfl | rfl | rfl | rfl | rfl | rfl | rfl | rfl | rfl | rfl | rfl | rfl
    · exact bk_0 i h2
    · exact bk_1 i h2
    · exact bk_2 i h2
    · exact bk_3 i h2
    · exact bk_4 i h2
    · exact bk_5 i h2
    · exact bk_6 i h2
    · exact bk_7 i h2
    · exact bk_8 i h2
    · exact bk_9 i h2
    · exact bk_10 i h2
    · exact bk_11 i h2
  · obtain ⟨f, rfl⟩ : ∃ f, k = 1000 + f := ⟨k - 1000, by omega⟩
    rw [Nat.add_sub_cancel_left] at h3 h4 h5
    have hm := arrs f (by omega) h3 h4
    simp only [List.mem_cons, List.not_mem_nil, or_false] at hm
    rcases hm with rfl | rfl | rfl | rfl | rfl | rfl | rfl | rfl | rfl | rfl | rfl | rfl | rfl | rfl | rfl | rfl | rfl | rfl | rfl | rfl | rfl | rfl | rfl | rfl | rfl | rfl | rfl | rfl | rfl | rfl | rfl | rfl | rfl | rfl
    · exact bk_1004 i h5
    · exact bk_1064 i h5
    · exact bk_1128 i h5
    · exact bk_1130 i h5
    · exact bk_1132 i h5
    · exact bk_1195 i h5
    · exact bk_1196 i h5
    · exact bk_1256 i h5
    · exact bk_1257 i h5
    · exact bk_1258 i h5
    · exact bk_1259 i h5
    · exact bk_1260 i h5
    · exact bk_1320 i h5
    · exact bk_1321 i h5
    · exact bk_1322 i h5
    · exact bk_1323 i h5
    · exact bk_1325 i h5
    · exact bk_1326 i h5
    · exact bk_1327 i h5
    · exact bk_1384 i h5
    · exact bk_1385 i h5
    · exact bk_1386 i h5
    · exact bk_1387 i h5
    · exact bk_1448 i h5
    · exact bk_1449 i h5
    · exact bk_1512 i h5
    · exact bk_1576 i h5
    · exact bk_1577 i h5
    · exact bk_1640 i h5
    · exact bk_1706 i h5
    · exact bk_1709 i h5
    · exact bk_1711 i h5
    · exact bk_1717 i h5
    · exact bk_1719 i h5
theorem tabO : ∀ k, k < 12 → ∀ j, j < nfl k → (gF (64 * k + j)).1 = 1 → (gF (64 * k + j)).2.1 < 12 ∧ cn_ k + (gF (64 * k + j)).2.2.1 ≤ cn_ (gF (64 * k + j)).2.1 := by decide +kernel
theorem tabR : ∀ f, f < 768 → (gF f).1 = 4 → (gF f).2.2.1 < 12 ∧ (gF f).2.1 + (gF f).2.2.2 ≤ cn_ (gF f).2.2.1 := by decide +kernel
theorem cl_X : Cl cellsX := by
  refine ⟨fun k i h hk => ?_, fun k i j h hk hj h1 => ?_, fun k i j h hk hj h1 h2 => ?_, fun k i j h h4 hj => ?_, fun k i n h hk hn j hj => ?_, fun k i h hk => ?_⟩
  · rcases mX_of h with ⟨a, _⟩ | ⟨a, _⟩ <;> omega
  · rcases mX_of h with ⟨a, b⟩ | ⟨a, _⟩
    · obtain ⟨t1, t2⟩ := tabO k a j hj h1
      exact mX_back (Or.inl ⟨t1, by omega⟩)
    · omega
  · rcases mX_of h with ⟨a, b⟩ | ⟨a, _⟩
    · have := nfl_le k
      refine mX_back (Or.inr ⟨by omega, by omega, ?_⟩)
      rw [Nat.add_sub_cancel_left, show (64 * k + j) / 64 = k by omega]
      exact ⟨h1, h2, b⟩
    · omega
  · have hk := gA_ge h4 (by decide)
    rcases mX_of h with ⟨a, b⟩ | ⟨a, b, _⟩
    · omega
    · obtain ⟨f, rfl⟩ : ∃ f, k = 1000 + f := ⟨k - 1000, by omega⟩
      rw [gA_f] at h4 hj ⊢
      obtain ⟨t1, t2⟩ := tabR f (by omega) h4
      exact mX_back (Or.inl ⟨t1, by omega⟩)
  · exact mX_back (Or.inl ⟨hn, hj⟩)
  · rcases mX_of h with ⟨a, b⟩ | ⟨a, b, c, d, _⟩
    · omega
    · obtain ⟨f, rfl⟩ : ∃ f, k = 1000 + f := ⟨k - 1000, by omega⟩
      rw [gA_f]
      rw [Nat.add_sub_cancel_left] at c d
      exact ⟨c, d⟩
theorem mem_X0 : (11, 0) ∈ cellsX := List.mem_append_left _ List.mem_cons_self
theorem mem_M0 : (12, 0) ∈ cellsM := List.mem_cons_self
theorem mM_1 : ∀ q ∈ cellsM, q.1 = 12 ∨ (1768 ≤ q.1 ∧ 2 ≤ (gA q.1).1 ∧ (gA q.1).1 ≤ 3) := by decide +kernel
theorem mM_2 : ∀ q ∈ cellsM, q.1 < 1000 → ∀ j, j < nfl q.1 → (gF (64 * q.1 + j)).1 ≠ 1 := by decide +kernel
theorem mM_3 : cellsM.all (fun q => Nat.ble 1000 q.1 || (List.range (nfl q.1)).all (fun j => Nat.blt (gF (64 * q.1 + j)).1 2 || (Nat.blt 4 (gF (64 * q.1 + j)).1 || cellsM.elem (1000 + (64 * q.1 + j), q.2)))) = true := by decide +kernel
theorem cl_M : Cl cellsM := by
  refine ⟨fun k i h hk => ?_, fun k i j h hk hj h1 => ?_, fun k i j h hk hj h1 h2 => ?_, fun k i j h h4 hj => ?_, fun k i n h hk hn j hj => ?_, fun k i h hk => ?_⟩
  · rcases mM_1 _ h with a | ⟨a, _⟩
    · have a : k = 12 := a
      omega
    · have a : 1768 ≤ k := a
      omega
  · exact absurd h1 (mM_2 _ h hk j hj)
  · have a := List.all_eq_true.mp mM_3 _ h
    simp only [Bool.or_eq_true, Nat.ble_eq, List.all_eq_true, List.mem_range, Nat.blt_eq, List.elem_iff] at a
    rcases a with a | a
    · omega
    · rcases a j hj with b | b | b
      · omega
      · omega
      · exact b
  · rcases mM_1 _ h with a | ⟨a, b, c⟩
    · have a : k = 12 := a
      have := gA_ge h4 (by decide)
      omega
    · have c : (gA k).1 ≤ 3 := c
      omega
  · rcases mM_1 _ h with a | ⟨a, _⟩
    · have a : k = 12 := a
      omega
    · have a : 1768 ≤ k := a
      omega
  · rcases mM_1 _ h with a | ⟨a, b, c⟩
    · have a : k = 12 := a
      omega
    · have b : 2 ≤ (gA k).1 := b
      have c : (gA k).1 ≤ 3 := c
      exact ⟨b, by omega⟩
/-! THE RELATION AT THE START -/
theorem s0z (f i j : Nat) (h : f ∉ [514, 515, 712, 786, 709, 784, 449, 782]) : S0 f i j = iI 0 := by
  simp only [List.mem_cons, List.not_mem_nil, or_false, not_or] at h
  obtain ⟨h1, h2, h3, h4, h5, h6, h7, h8⟩ := h
  unfold S0
  rw [if_neg (by omega), if_neg (by omega), if_neg (by omega), if_neg (by omega), li_0]
theorem inR_0 {x : Int32} {lo hi : Int} (h : x = iI 0) (h1 : lo ≤ 0) (h2 : 0 ≤ hi) : inR x lo hi := ⟨0, h1, h2, h⟩
theorem rw_0 (c k : Int) : rw_ S0 c k = iI 0 := s0z _ _ _ (by decide)
theorem rel_0 : Rel 0 S0 S0 := by
  have ne : ¬ iI 0 = iI 1 := by decide
  have e514 : ∀ i j, S0 514 i j = iI (-1) := fun i j => by
    show (-1 : Int32) = iI (-1)
    decide
  refine ⟨0, ⟨by omega, s0z _ _ _ (by decide), s0z _ _ _ (by decide), fun c hc => ⟨?_, ?_, ?_, ?_, fun l hl => ⟨?_, ?_⟩, ?_, ?_, ?_, ?_, ?_⟩, fun c hc => absurd hc (by omega), fun c _ k _ => rw_0 c k⟩, ⟨0, 0, by omega, by omega, s0z _ _ _ (by decide), s0z _ _ _ (by decide), s0z _ _ _ (by decide), fun j hj => absurd hj (by omega)⟩, ⟨0, by omega, s0z _ _ _ (by decide), s0z _ _ _ (by decide), fun k hk => absurd hk (by omega)⟩, ?_, ?_, ?_, ?_, ?_, ?_, ?_, ?_, ?_, ?_, ?_⟩
  · exact ⟨0, by omega, s0z _ _ _ (by decide), rw_0 _ _, (s0z _ _ _ (by decide)).trans (rw_0 _ _).symm, (s0z _ _ _ (by decide)).trans (rw_0 _ _).symm, inR_0 (s0z _ _ _ (by decide)) (by omega) (by omega), inR_0 (s0z _ _ _ (by decide)) (by omega) (by omega), fun j hj => absurd hj (by omega), s0z _ _ _ (by decide)⟩
  · refine ⟨?_, inR_0 (rw_0 _ _) (by omega) (by omega), inR_0 (rw_0 _ _) (by omega) (by omega), inR_0 (rw_0 _ _) (by omega) (by omega), inR_0 (rw_0 _ _) (by omega) (by omega), fun _ => ⟨rw_0 _ _, rw_0 _ _⟩⟩
    unfold stF
    rw [rw_0, rw_0, rw_0, rw_0, if_neg ne, if_neg ne, if_neg ne, if_neg ne]
    exact s0z _ _ _ (by decide)
  · exact (s0z _ _ _ (by decide)).trans (rw_0 _ _).symm
  · exact inR_0 (s0z _ _ _ (by decide)) (by omega) (by omega)
  · exact (s0z _ _ _ (by decide)).trans (rw_0 _ _).symm
  · exact inR_0 (s0z _ _ _ (by decide)) (by omega) (by omega)
  · exact (s0z _ _ _ (by decide)).trans (rw_0 _ _).symm
  · exact inR_0 (s0z _ _ _ (by decide)) (by omega) (by omega)
  · exact (s0z _ _ _ (by decide)).trans (s0z _ _ _ (by decide)).symm
  · exact inR_0 (s0z _ _ _ (by decide)) (by omega) (by omega)
  · exact ⟨0, by omega, s0z _ _ _ (by decide), s0z _ _ _ (by decide), fun j hj => absurd hj (by omega)⟩
  · exact fun l hl => ⟨(s0z _ _ _ (by decide)).trans (s0z _ _ _ (by decide)).symm, inR_0 (s0z _ _ _ (by decide)) (by omega) (by omega)⟩
  · refine fun l hl => ⟨rfl, ⟨90 - 10 * (l : Int), by omega, by omega, ?_⟩⟩
    show (if l < 10 then iI (90 - 10 * (l : Int)) else 0) = _
    rw [if_pos hl]
  · exact ⟨fun k hk => rfl, ⟨2, by omega, by omega, by decide⟩, ⟨5, by omega, by omega, by decide⟩, ⟨10, by omega, by omega, by decide⟩, ⟨5, by omega, by omega, by decide⟩⟩
  · exact ⟨(s0z _ _ _ (by decide)).trans (s0z _ _ _ (by decide)).symm, inR_0 (s0z _ _ _ (by decide)) (by omega) (by omega), (s0z _ _ _ (by decide)).trans (s0z _ _ _ (by decide)).symm, inR_0 (s0z _ _ _ (by decide)) (by omega) (by omega), rfl, ⟨100, by omega, by omega, by decide⟩⟩
  · exact fun k hk => (s0z _ _ _ (by decide)).trans (s0z _ _ _ (by decide)).symm
  · exact ⟨0, by omega, s0z _ _ _ (by decide), s0z _ _ _ (by decide), fun k hk => absurd hk (by omega)⟩
  · exact fun k hk => (s0z _ _ _ (by decide)).trans (s0z _ _ _ (by decide)).symm
  · exact fun k hk => ⟨(s0z _ _ _ (by decide)).trans (s0z _ _ _ (by decide)).symm, inR_0 (s0z _ _ _ (by decide)) (by omega) (by omega)⟩
  · exact fun k hk => ⟨(s0z _ _ _ (by decide)).trans (s0z _ _ _ (by decide)).symm, inR_0 (s0z _ _ _ (by decide)) (by omega) (by omega)⟩
  · exact ⟨0, by omega, s0z _ _ _ (by decide), s0z _ _ _ (by decide), fun k hk => absurd hk (by omega)⟩
  · exact ⟨0, by omega, by omega, s0z _ _ _ (by decide), fun c hc => inR_0 (s0z _ _ _ (by decide)) (by omega) (by omega)⟩
