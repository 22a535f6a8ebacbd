/-! CONSTRUCTORS WITHOUT LOOPS (printed by wip/gen6.py) -/
section ASTO
variable {D : va_G} {cA : Nat → ClassId} {own : String} {cc : ByteArray} {nL : Nat} {p : Program} {l : Launch} {e : Env} {R : Room} {s : State} {m : MethodId} {args : Array Value} {below : List Frame} {meth : Method} {c : Code} {H : Heap} {locs : List Loc} {cells slots : Nat} {Q : State → Prop} {A : Nat → Prop} {ws : va_W} {pc : Nat} {ls : Array Slot} {rest : List Value}
theorem set_last {α : Type} (a : List α) (x y : α) : (a ++ [x]).set a.length y = a ++ [y] := by
  rw [List.set_append_right _ _ (Nat.le_refl _), Nat.sub_self]
  rfl
theorem get_last {α : Type} (a : List α) (x : α) : (a ++ [x])[a.length]? = some x := by
  rw [List.getElem?_append_right (Nat.le_refl _), Nat.sub_self]
  rfl
/-- a number into the row that was made last -/
theorem g_ast (X : Cw D cA own cc nL p s m args c) {a n k : Nat} {f : Nat → Int32} (hP : va_P D vwCl (ws ++ [(a, .inl (cA k, n, .inl f))]) H) (hD : va_D A (ws ++ [(a, .inl (cA k, n, .inl f))])) (hS : va_S A s.heap H locs) (hk : (tysL cA)[k]? = some (cA k, .int)) {i x : Int32} (hin : ¬ (i < 0 ∨ n ≤ i.toNatClampNeg)) (hdg : decode cc pc = .ok (.iastore, 1))
    (kk : ∀ (H1 : Heap) (locs1 : List Loc), va_P D vwCl (ws ++ [(a, .inl (cA k, n, .inl (upd f i.toNatClampNeg x)))]) H1 → va_D A (ws ++ [(a, .inl (cA k, n, .inl (upd f i.toNatClampNeg x)))]) → va_S A s.heap H1 locs1 → W p l e R s m args below meth c H1 locs1 cells slots Q (F0 m (pc + 1) ls rest)) : W p l e R s m args below meth c H locs cells slots Q (F0 m pc ls (.int x :: .int i :: .ref a :: rest)) := by
  refine va_iast X.1 X.2.1 X.2.2.2.2.2.1 hP hD hS ws.length k (get_last _ _) hk hin hdg (fun H1 locs1 h1 h2 h3 => ?_)
  rw [set_last] at h1 h2
  exact kk H1 locs1 h1 h2 h3
end ASTO
def PostK (cA : Nat → ClassId) (k i : Nat) (cells : List (Nat × Nat)) (h0 : Nat) (w : va_W) : Prop := ∃ ad : Nat → Nat → Nat, ad k i = h0 ∧ w = wsO cA ad cells S0
def csSh (i : Nat) : List (Nat × Nat) := [(8, i), (1512, i)]
def csSk (i : Nat) : List (Nat × Nat) := [(9, i), (1576, i), (1577, i)]
def csLt (i : Nat) : List (Nat × Nat) := [(4, i), (1256, i), (1257, i), (1258, i), (1259, i), (1260, i)]
def csAct (i : Nat) : List (Nat × Nat) := (0, i) :: ((csSh (i + 12) ++ csSk (i + 5)) ++ [(1004, i)])
def csCav (i : Nat) : List (Nat × Nat) := (3, i) :: ((((csSh i ++ csSk i) ++ csLt i) ++ [(1195, i)]) ++ [(1196, i)])
def csBt : List (Nat × Nat) := [(2, 0), (1128, 0), (1130, 0), (1132, 0)]
def csRd : List (Nat × Nat) := [(6, 0), (1384, 0), (1385, 0), (1386, 0), (1387, 0)]
def csRk : List (Nat × Nat) := [(7, 0), (1448, 0), (1449, 0)]
def csWi : List (Nat × Nat) := [(10, 0), (1640, 0)]
theorem s0_449 : (fun j => S0 449 0 j) = upd (upd (upd (upd (upd (upd (upd (upd (upd (upd (fun _ => 0) 0 90) 1 80) 2 70) 3 60) 4 50) 5 40) 6 30) 7 20) 8 10) 9 0 := by
  funext j
  unfold S0 upd
  by_cases h : j < 10
  · rcases (show j = 0 ∨ j = 1 ∨ j = 2 ∨ j = 3 ∨ j = 4 ∨ j = 5 ∨ j = 6 ∨ j = 7 ∨ j = 8 ∨ j = 9 by omega) with rfl | rfl | rfl | rfl | rfl | rfl | rfl | rfl | rfl | rfl <;> decide
  · have hk : ∀ k : Nat, k < 10 → (j = k) = False := fun k hk => eq_false (by omega)
    rw [if_neg (by decide), if_neg (by decide), if_neg (by decide), if_pos (by decide), if_neg h]
    simp only [hk 0 (by omega), hk 1 (by omega), hk 2 (by omega), hk 3 (by omega), hk 4 (by omega), hk 5 (by omega), hk 6 (by omega), hk 7 (by omega), hk 8 (by omega), hk 9 (by omega), if_false]
theorem s0_709 : (fun j => S0 709 0 j) = upd (upd (upd (upd (fun _ => 0) 0 2) 1 5) 2 10) 3 5 := by
  funext j
  unfold S0 upd
  by_cases h : j < 4
  · rcases (show j = 0 ∨ j = 1 ∨ j = 2 ∨ j = 3 by omega) with rfl | rfl | rfl | rfl <;> decide
  · have hk : ∀ k : Nat, k < 4 → (j = k) = False := fun k hk => eq_false (by omega)
    simp only [hk 0 (by omega), hk 1 (by omega), hk 2 (by omega), hk 3 (by omega), if_false]
    rfl
set_option maxHeartbeats 4000000 in
set_option maxRecDepth 100000 in
theorem c_X8 {D : va_G} {cA : Nat → ClassId} {l : Launch} (i : Nat) : MetC D cA l yi_8 prog_10_method_1_code 1 8 [.null, .int 0, .int 0, .int 0, .int 0, .int 0, .int 0, .int 0, .int 0, .int 0] 1 1 30 (PostK cA 8 i (csSh i)) := by
  refine MetC_of (by decide) rfl (by decide) (fun p e s m args below meth c h0 A ls Q X hin hA hl hP hD kr => ?_)
  have hS : va_S A s.heap s.heap [] := va_S.rf
  refine g_init X hl mi_8_3 obI obC (by decide +kernel) (by decide +kernel) (Nat.le_of_ble_eq_true rfl) (Nat.le_of_ble_eq_true rfl) ?_
  refine lv_aload_n (k := 0) (i := 0) X.1 X.2.1 (by decide +kernel) rfl (lv_at hl 0 rfl) ?_
  refine lv_bipush (n := 30) (v := 30) X.1 X.2.1 (by decide +kernel) (by decide) ?_
  refine g_newa X arI hA hP hD hS (by decide) rfl (Nat.le_of_ble_eq_true rfl) (Nat.le_of_ble_eq_true rfl) (Nat.le_of_ble_eq_true rfl) (by decide +kernel) (fun q1 H hP hD hS => ?_)
  have hP : va_P D vwCl ((h0, .inr (8, [.null, .int 0, .int 0, .int 0, .int 0, .int 0, .int 0, .int 0, .int 0, .int 0])) :: [(q1, .inl (cA 0, 30, .inl (fun _ => 0)))]) H := hP
  have hD : va_D A ((h0, .inr (8, [.null, .int 0, .int 0, .int 0, .int 0, .int 0, .int 0, .int 0, .int 0, .int 0])) :: [(q1, .inl (cA 0, 30, .inl (fun _ => 0)))]) := hD
  refine W.widen (k := 1) (n := 30) (Nat.le_of_ble_eq_true rfl) (Nat.le_of_ble_eq_true rfl) ?_
  refine g_putF (k := 8) (j := 0) X hin rfl wsi_8 tyX8_ok nmX8 hP hD hS (by decide) fi_8_0 rfl rfl rfl rfl (Nat.le_of_ble_eq_true rfl) (by decide +kernel) (fun H locs hP hD hS => ?_)
  have hP : va_P D vwCl ((h0, .inr (8, [.ref q1, .int 0, .int 0, .int 0, .int 0, .int 0, .int 0, .int 0, .int 0, .int 0])) :: [(q1, .inl (cA 0, 30, .inl (fun _ => 0)))]) H := hP
  have hD : va_D A ((h0, .inr (8, [.ref q1, .int 0, .int 0, .int 0, .int 0, .int 0, .int 0, .int 0, .int 0, .int 0])) :: [(q1, .inl (cA 0, 30, .inl (fun _ => 0)))]) := hD
  refine lv_aload_n (k := 0) (i := 0) X.1 X.2.1 (by decide +kernel) rfl (lv_at hl 0 rfl) ?_
  refine lv_iconst (n := (-1)) (v := (-1)) X.1 X.2.1 (by decide +kernel) (by decide) ?_
  refine g_putN (k := 8) (j := 2) X rfl wsi_8 tyX8_ok nmX8 hP hD hS (by decide) fi_8_2 rfl rfl rfl (Nat.le_of_ble_eq_true rfl) (by decide +kernel) (fun H locs hP hD hS => ?_)
  have hP : va_P D vwCl ((h0, .inr (8, [.ref q1, .int 0, .int (-1), .int 0, .int 0, .int 0, .int 0, .int 0, .int 0, .int 0])) :: [(q1, .inl (cA 0, 30, .inl (fun _ => 0)))]) H := hP
  have hD : va_D A ((h0, .inr (8, [.ref q1, .int 0, .int (-1), .int 0, .int 0, .int 0, .int 0, .int 0, .int 0, .int 0])) :: [(q1, .inl (cA 0, 30, .inl (fun _ => 0)))]) := hD
  refine lv_aload_n (k := 0) (i := 0) X.1 X.2.1 (by decide +kernel) rfl (lv_at hl 0 rfl) ?_
  refine lv_iconst (n := (-1)) (v := (-1)) X.1 X.2.1 (by decide +kernel) (by decide) ?_
  refine g_putN (k := 8) (j := 3) X rfl wsi_8 tyX8_ok nmX8 hP hD hS (by decide) fi_8_3 rfl rfl rfl (Nat.le_of_ble_eq_true rfl) (by decide +kernel) (fun H locs hP hD hS => ?_)
  have hP : va_P D vwCl ((h0, .inr (8, [.ref q1, .int 0, .int (-1), .int (-1), .int 0, .int 0, .int 0, .int 0, .int 0, .int 0])) :: [(q1, .inl (cA 0, 30, .inl (fun _ => 0)))]) H := hP
  have hD : va_D A ((h0, .inr (8, [.ref q1, .int 0, .int (-1), .int (-1), .int 0, .int 0, .int 0, .int 0, .int 0, .int 0])) :: [(q1, .inl (cA 0, 30, .inl (fun _ => 0)))]) := hD
  refine kr _ _ _ _ _ (by decide +kernel) ⟨fun k j => if k = 8 then h0 else q1, rfl, ?_⟩ hP hD hS
  simp only [wsO, csSh, csSk, csLt, csAct, csCav, List.map_cons, List.map_nil, List.map_append, List.cons_append, List.nil_append]
  rfl
set_option maxHeartbeats 4000000 in
set_option maxRecDepth 100000 in
theorem c_X9 {D : va_G} {cA : Nat → ClassId} {l : Launch} (i : Nat) : MetC D cA l yi_9 prog_11_method_1_code 1 9 [.null, .null, .int 0, .int 0, .int 0] 1 2 60 (PostK cA 9 i (csSk i)) := by
  refine MetC_of (by decide) rfl (by decide) (fun p e s m args below meth c h0 A ls Q X hin hA hl hP hD kr => ?_)
  have hS : va_S A s.heap s.heap [] := va_S.rf
  refine g_init X hl mi_9_3 obI obC (by decide +kernel) (by decide +kernel) (Nat.le_of_ble_eq_true rfl) (Nat.le_of_ble_eq_true rfl) ?_
  refine lv_aload_n (k := 0) (i := 0) X.1 X.2.1 (by decide +kernel) rfl (lv_at hl 0 rfl) ?_
  refine lv_bipush (n := 30) (v := 30) X.1 X.2.1 (by decide +kernel) (by decide) ?_
  refine g_newa X arI hA hP hD hS (by decide) rfl (Nat.le_of_ble_eq_true rfl) (Nat.le_of_ble_eq_true rfl) (Nat.le_of_ble_eq_true rfl) (by decide +kernel) (fun q1 H hP hD hS => ?_)
  have hP : va_P D vwCl ((h0, .inr (9, [.null, .null, .int 0, .int 0, .int 0])) :: [(q1, .inl (cA 0, 30, .inl (fun _ => 0)))]) H := hP
  have hD : va_D A ((h0, .inr (9, [.null, .null, .int 0, .int 0, .int 0])) :: [(q1, .inl (cA 0, 30, .inl (fun _ => 0)))]) := hD
  refine W.widen (k := 1) (n := 30) (Nat.le_of_ble_eq_true rfl) (Nat.le_of_ble_eq_true rfl) ?_
  refine g_putF (k := 9) (j := 0) X hin rfl wsi_9 tyX9_ok nmX9 hP hD hS (by decide) fi_9_0 rfl rfl rfl rfl (Nat.le_of_ble_eq_true rfl) (by decide +kernel) (fun H locs hP hD hS => ?_)
  have hP : va_P D vwCl ((h0, .inr (9, [.ref q1, .null, .int 0, .int 0, .int 0])) :: [(q1, .inl (cA 0, 30, .inl (fun _ => 0)))]) H := hP
  have hD : va_D A ((h0, .inr (9, [.ref q1, .null, .int 0, .int 0, .int 0])) :: [(q1, .inl (cA 0, 30, .inl (fun _ => 0)))]) := hD
  refine lv_aload_n (k := 0) (i := 0) X.1 X.2.1 (by decide +kernel) rfl (lv_at hl 0 rfl) ?_
  refine lv_bipush (n := 30) (v := 30) X.1 X.2.1 (by decide +kernel) (by decide) ?_
  refine g_newa X arI hA hP hD hS (by decide) rfl (Nat.le_of_ble_eq_true rfl) (Nat.le_of_ble_eq_true rfl) (Nat.le_of_ble_eq_true rfl) (by decide +kernel) (fun q2 H hP hD hS => ?_)
  have hP : va_P D vwCl ((h0, .inr (9, [.ref q1, .null, .int 0, .int 0, .int 0])) :: ([(q1, .inl (cA 0, 30, .inl (fun _ => 0)))] ++ [(q2, .inl (cA 0, 30, .inl (fun _ => 0)))])) H := hP
  have hD : va_D A ((h0, .inr (9, [.ref q1, .null, .int 0, .int 0, .int 0])) :: ([(q1, .inl (cA 0, 30, .inl (fun _ => 0)))] ++ [(q2, .inl (cA 0, 30, .inl (fun _ => 0)))])) := hD
  refine W.widen (k := 2) (n := 60) (Nat.le_of_ble_eq_true rfl) (Nat.le_of_ble_eq_true rfl) ?_
  refine g_putF (k := 9) (j := 1) X hin rfl wsi_9 tyX9_ok nmX9 hP hD hS (by decide) fi_9_1 rfl rfl rfl rfl (Nat.le_of_ble_eq_true rfl) (by decide +kernel) (fun H locs hP hD hS => ?_)
  have hP : va_P D vwCl ((h0, .inr (9, [.ref q1, .ref q2, .int 0, .int 0, .int 0])) :: ([(q1, .inl (cA 0, 30, .inl (fun _ => 0)))] ++ [(q2, .inl (cA 0, 30, .inl (fun _ => 0)))])) H := hP
  have hD : va_D A ((h0, .inr (9, [.ref q1, .ref q2, .int 0, .int 0, .int 0])) :: ([(q1, .inl (cA 0, 30, .inl (fun _ => 0)))] ++ [(q2, .inl (cA 0, 30, .inl (fun _ => 0)))])) := hD
  refine kr _ _ _ _ _ (by decide +kernel) ⟨fun k j => if k = 9 then h0 else if k = 1576 then q1 else q2, rfl, ?_⟩ hP hD hS
  simp only [wsO, csSh, csSk, csLt, csAct, csCav, List.map_cons, List.map_nil, List.map_append, List.cons_append, List.nil_append]
  rfl
set_option maxHeartbeats 4000000 in
set_option maxRecDepth 100000 in
theorem c_X4 {D : va_G} {cA : Nat → ClassId} {l : Launch} (i : Nat) : MetC D cA l yi_4 prog_6_method_1_code 1 4 [.null, .null, .null, .null, .null, .int 0] 1 5 30 (PostK cA 4 i (csLt i)) := by
  refine MetC_of (by decide) rfl (by decide) (fun p e s m args below meth c h0 A ls Q X hin hA hl hP hD kr => ?_)
  have hS : va_S A s.heap s.heap [] := va_S.rf
  refine g_init X hl mi_4_3 obI obC (by decide +kernel) (by decide +kernel) (Nat.le_of_ble_eq_true rfl) (Nat.le_of_ble_eq_true rfl) ?_
  refine lv_aload_n (k := 0) (i := 0) X.1 X.2.1 (by decide +kernel) rfl (lv_at hl 0 rfl) ?_
  refine lv_bipush (n := 6) (v := 6) X.1 X.2.1 (by decide +kernel) (by decide) ?_
  refine g_newa X arI hA hP hD hS (by decide) rfl (Nat.le_of_ble_eq_true rfl) (Nat.le_of_ble_eq_true rfl) (Nat.le_of_ble_eq_true rfl) (by decide +kernel) (fun q1 H hP hD hS => ?_)
  have hP : va_P D vwCl ((h0, .inr (4, [.null, .null, .null, .null, .null, .int 0])) :: [(q1, .inl (cA 0, 6, .inl (fun _ => 0)))]) H := hP
  have hD : va_D A ((h0, .inr (4, [.null, .null, .null, .null, .null, .int 0])) :: [(q1, .inl (cA 0, 6, .inl (fun _ => 0)))]) := hD
  refine W.widen (k := 1) (n := 6) (Nat.le_of_ble_eq_true rfl) (Nat.le_of_ble_eq_true rfl) ?_
  refine g_putF (k := 4) (j := 0) X hin rfl wsi_4 tyX4_ok nmX4 hP hD hS (by decide) fi_4_0 rfl rfl rfl rfl (Nat.le_of_ble_eq_true rfl) (by decide +kernel) (fun H locs hP hD hS => ?_)
  have hP : va_P D vwCl ((h0, .inr (4, [.ref q1, .null, .null, .null, .null, .int 0])) :: [(q1, .inl (cA 0, 6, .inl (fun _ => 0)))]) H := hP
  have hD : va_D A ((h0, .inr (4, [.ref q1, .null, .null, .null, .null, .int 0])) :: [(q1, .inl (cA 0, 6, .inl (fun _ => 0)))]) := hD
  refine lv_aload_n (k := 0) (i := 0) X.1 X.2.1 (by decide +kernel) rfl (lv_at hl 0 rfl) ?_
  refine lv_bipush (n := 6) (v := 6) X.1 X.2.1 (by decide +kernel) (by decide) ?_
  refine g_newa X arI hA hP hD hS (by decide) rfl (Nat.le_of_ble_eq_true rfl) (Nat.le_of_ble_eq_true rfl) (Nat.le_of_ble_eq_true rfl) (by decide +kernel) (fun q2 H hP hD hS => ?_)
  have hP : va_P D vwCl ((h0, .inr (4, [.ref q1, .null, .null, .null, .null, .int 0])) :: ([(q1, .inl (cA 0, 6, .inl (fun _ => 0)))] ++ [(q2, .inl (cA 0, 6, .inl (fun _ => 0)))])) H := hP
  have hD : va_D A ((h0, .inr (4, [.ref q1, .null, .null, .null, .null, .int 0])) :: ([(q1, .inl (cA 0, 6, .inl (fun _ => 0)))] ++ [(q2, .inl (cA 0, 6, .inl (fun _ => 0)))])) := hD
  refine W.widen (k := 2) (n := 12) (Nat.le_of_ble_eq_true rfl) (Nat.le_of_ble_eq_true rfl) ?_
  refine g_putF (k := 4) (j := 1) X hin rfl wsi_4 tyX4_ok nmX4 hP hD hS (by decide) fi_4_1 rfl rfl rfl rfl (Nat.le_of_ble_eq_true rfl) (by decide +kernel) (fun H locs hP hD hS => ?_)
  have hP : va_P D vwCl ((h0, .inr (4, [.ref q1, .ref q2, .null, .null, .null, .int 0])) :: ([(q1, .inl (cA 0, 6, .inl (fun _ => 0)))] ++ [(q2, .inl (cA 0, 6, .inl (fun _ => 0)))])) H := hP
  have hD : va_D A ((h0, .inr (4, [.ref q1, .ref q2, .null, .null, .null, .int 0])) :: ([(q1, .inl (cA 0, 6, .inl (fun _ => 0)))] ++ [(q2, .inl (cA 0, 6, .inl (fun _ => 0)))])) := hD
  refine lv_aload_n (k := 0) (i := 0) X.1 X.2.1 (by decide +kernel) rfl (lv_at hl 0 rfl) ?_
  refine lv_bipush (n := 6) (v := 6) X.1 X.2.1 (by decide +kernel) (by decide) ?_
  refine g_newa X arI hA hP hD hS (by decide) rfl (Nat.le_of_ble_eq_true rfl) (Nat.le_of_ble_eq_true rfl) (Nat.le_of_ble_eq_true rfl) (by decide +kernel) (fun q3 H hP hD hS => ?_)
  have hP : va_P D vwCl ((h0, .inr (4, [.ref q1, .ref q2, .null, .null, .null, .int 0])) :: (([(q1, .inl (cA 0, 6, .inl (fun _ => 0)))] ++ [(q2, .inl (cA 0, 6, .inl (fun _ => 0)))]) ++ [(q3, .inl (cA 0, 6, .inl (fun _ => 0)))])) H := hP
  have hD : va_D A ((h0, .inr (4, [.ref q1, .ref q2, .null, .null, .null, .int 0])) :: (([(q1, .inl (cA 0, 6, .inl (fun _ => 0)))] ++ [(q2, .inl (cA 0, 6, .inl (fun _ => 0)))]) ++ [(q3, .inl (cA 0, 6, .inl (fun _ => 0)))])) := hD
  refine W.widen (k := 3) (n := 18) (Nat.le_of_ble_eq_true rfl) (Nat.le_of_ble_eq_true rfl) ?_
  refine g_putF (k := 4) (j := 2) X hin rfl wsi_4 tyX4_ok nmX4 hP hD hS (by decide) fi_4_2 rfl rfl rfl rfl (Nat.le_of_ble_eq_true rfl) (by decide +kernel) (fun H locs hP hD hS => ?_)
  have hP : va_P D vwCl ((h0, .inr (4, [.ref q1, .ref q2, .ref q3, .null, .null, .int 0])) :: (([(q1, .inl (cA 0, 6, .inl (fun _ => 0)))] ++ [(q2, .inl (cA 0, 6, .inl (fun _ => 0)))]) ++ [(q3, .inl (cA 0, 6, .inl (fun _ => 0)))])) H := hP
  have hD : va_D A ((h0, .inr (4, [.ref q1, .ref q2, .ref q3, .null, .null, .int 0])) :: (([(q1, .inl (cA 0, 6, .inl (fun _ => 0)))] ++ [(q2, .inl (cA 0, 6, .inl (fun _ => 0)))]) ++ [(q3, .inl (cA 0, 6, .inl (fun _ => 0)))])) := hD
  refine lv_aload_n (k := 0) (i := 0) X.1 X.2.1 (by decide +kernel) rfl (lv_at hl 0 rfl) ?_
  refine lv_bipush (n := 6) (v := 6) X.1 X.2.1 (by decide +kernel) (by decide) ?_
  refine g_newa X arI hA hP hD hS (by decide) rfl (Nat.le_of_ble_eq_true rfl) (Nat.le_of_ble_eq_true rfl) (Nat.le_of_ble_eq_true rfl) (by decide +kernel) (fun q4 H hP hD hS => ?_)
  have hP : va_P D vwCl ((h0, .inr (4, [.ref q1, .ref q2, .ref q3, .null, .null, .int 0])) :: ((([(q1, .inl (cA 0, 6, .inl (fun _ => 0)))] ++ [(q2, .inl (cA 0, 6, .inl (fun _ => 0)))]) ++ [(q3, .inl (cA 0, 6, .inl (fun _ => 0)))]) ++ [(q4, .inl (cA 0, 6, .inl (fun _ => 0)))])) H := hP
  have hD : va_D A ((h0, .inr (4, [.ref q1, .ref q2, .ref q3, .null, .null, .int 0])) :: ((([(q1, .inl (cA 0, 6, .inl (fun _ => 0)))] ++ [(q2, .inl (cA 0, 6, .inl (fun _ => 0)))]) ++ [(q3, .inl (cA 0, 6, .inl (fun _ => 0)))]) ++ [(q4, .inl (cA 0, 6, .inl (fun _ => 0)))])) := hD
  refine W.widen (k := 4) (n := 24) (Nat.le_of_ble_eq_true rfl) (Nat.le_of_ble_eq_true rfl) ?_
  refine g_putF (k := 4) (j := 3) X hin rfl wsi_4 tyX4_ok nmX4 hP hD hS (by decide) fi_4_3 rfl rfl rfl rfl (Nat.le_of_ble_eq_true rfl) (by decide +kernel) (fun H locs hP hD hS => ?_)
  have hP : va_P D vwCl ((h0, .inr (4, [.ref q1, .ref q2, .ref q3, .ref q4, .null, .int 0])) :: ((([(q1, .inl (cA 0, 6, .inl (fun _ => 0)))] ++ [(q2, .inl (cA 0, 6, .inl (fun _ => 0)))]) ++ [(q3, .inl (cA 0, 6, .inl (fun _ => 0)))]) ++ [(q4, .inl (cA 0, 6, .inl (fun _ => 0)))])) H := hP
  have hD : va_D A ((h0, .inr (4, [.ref q1, .ref q2, .ref q3, .ref q4, .null, .int 0])) :: ((([(q1, .inl (cA 0, 6, .inl (fun _ => 0)))] ++ [(q2, .inl (cA 0, 6, .inl (fun _ => 0)))]) ++ [(q3, .inl (cA 0, 6, .inl (fun _ => 0)))]) ++ [(q4, .inl (cA 0, 6, .inl (fun _ => 0)))])) := hD
  refine lv_aload_n (k := 0) (i := 0) X.1 X.2.1 (by decide +kernel) rfl (lv_at hl 0 rfl) ?_
  refine lv_bipush (n := 6) (v := 6) X.1 X.2.1 (by decide +kernel) (by decide) ?_
  refine g_newa X arI hA hP hD hS (by decide) rfl (Nat.le_of_ble_eq_true rfl) (Nat.le_of_ble_eq_true rfl) (Nat.le_of_ble_eq_true rfl) (by decide +kernel) (fun q5 H hP hD hS => ?_)
  have hP : va_P D vwCl ((h0, .inr (4, [.ref q1, .ref q2, .ref q3, .ref q4, .null, .int 0])) :: (((([(q1, .inl (cA 0, 6, .inl (fun _ => 0)))] ++ [(q2, .inl (cA 0, 6, .inl (fun _ => 0)))]) ++ [(q3, .inl (cA 0, 6, .inl (fun _ => 0)))]) ++ [(q4, .inl (cA 0, 6, .inl (fun _ => 0)))]) ++ [(q5, .inl (cA 0, 6, .inl (fun _ => 0)))])) H := hP
  have hD : va_D A ((h0, .inr (4, [.ref q1, .ref q2, .ref q3, .ref q4, .null, .int 0])) :: (((([(q1, .inl (cA 0, 6, .inl (fun _ => 0)))] ++ [(q2, .inl (cA 0, 6, .inl (fun _ => 0)))]) ++ [(q3, .inl (cA 0, 6, .inl (fun _ => 0)))]) ++ [(q4, .inl (cA 0, 6, .inl (fun _ => 0)))]) ++ [(q5, .inl (cA 0, 6, .inl (fun _ => 0)))])) := hD
  refine W.widen (k := 5) (n := 30) (Nat.le_of_ble_eq_true rfl) (Nat.le_of_ble_eq_true rfl) ?_
  refine g_putF (k := 4) (j := 4) X hin rfl wsi_4 tyX4_ok nmX4 hP hD hS (by decide) fi_4_4 rfl rfl rfl rfl (Nat.le_of_ble_eq_true rfl) (by decide +kernel) (fun H locs hP hD hS => ?_)
  have hP : va_P D vwCl ((h0, .inr (4, [.ref q1, .ref q2, .ref q3, .ref q4, .ref q5, .int 0])) :: (((([(q1, .inl (cA 0, 6, .inl (fun _ => 0)))] ++ [(q2, .inl (cA 0, 6, .inl (fun _ => 0)))]) ++ [(q3, .inl (cA 0, 6, .inl (fun _ => 0)))]) ++ [(q4, .inl (cA 0, 6, .inl (fun _ => 0)))]) ++ [(q5, .inl (cA 0, 6, .inl (fun _ => 0)))])) H := hP
  have hD : va_D A ((h0, .inr (4, [.ref q1, .ref q2, .ref q3, .ref q4, .ref q5, .int 0])) :: (((([(q1, .inl (cA 0, 6, .inl (fun _ => 0)))] ++ [(q2, .inl (cA 0, 6, .inl (fun _ => 0)))]) ++ [(q3, .inl (cA 0, 6, .inl (fun _ => 0)))]) ++ [(q4, .inl (cA 0, 6, .inl (fun _ => 0)))]) ++ [(q5, .inl (cA 0, 6, .inl (fun _ => 0)))])) := hD
  refine kr _ _ _ _ _ (by decide +kernel) ⟨fun k j => if k = 4 then h0 else if k = 1256 then q1 else if k = 1257 then q2 else if k = 1258 then q3 else if k = 1259 then q4 else q5, rfl, ?_⟩ hP hD hS
  simp only [wsO, csSh, csSk, csLt, csAct, csCav, List.map_cons, List.map_nil, List.map_append, List.cons_append, List.nil_append]
  rfl
set_option maxHeartbeats 4000000 in
set_option maxRecDepth 100000 in
theorem c_X2 {D : va_G} {cA : Nat → ClassId} {l : Launch} : MetC D cA l yi_2 prog_4_method_1_code 1 2 [.null, .int 0, .null, .int 0, .null, .int 0, .int 0, .int 0] 1 3 93 (PostK cA 2 0 csBt) := by
  refine MetC_of (by decide) rfl (by decide) (fun p e s m args below meth c h0 A ls Q X hin hA hl hP hD kr => ?_)
  have hS : va_S A s.heap s.heap [] := va_S.rf
  refine g_init X hl mi_2_3 obI obC (by decide +kernel) (by decide +kernel) (Nat.le_of_ble_eq_true rfl) (Nat.le_of_ble_eq_true rfl) ?_
  refine lv_aload_n (k := 0) (i := 0) X.1 X.2.1 (by decide +kernel) rfl (lv_at hl 0 rfl) ?_
  refine lv_bipush (n := 60) (v := 60) X.1 X.2.1 (by decide +kernel) (by decide) ?_
  refine g_newa X arI hA hP hD hS (by decide) rfl (Nat.le_of_ble_eq_true rfl) (Nat.le_of_ble_eq_true rfl) (Nat.le_of_ble_eq_true rfl) (by decide +kernel) (fun q1 H hP hD hS => ?_)
  have hP : va_P D vwCl ((h0, .inr (2, [.null, .int 0, .null, .int 0, .null, .int 0, .int 0, .int 0])) :: [(q1, .inl (cA 0, 60, .inl (fun _ => 0)))]) H := hP
  have hD : va_D A ((h0, .inr (2, [.null, .int 0, .null, .int 0, .null, .int 0, .int 0, .int 0])) :: [(q1, .inl (cA 0, 60, .inl (fun _ => 0)))]) := hD
  refine W.widen (k := 1) (n := 60) (Nat.le_of_ble_eq_true rfl) (Nat.le_of_ble_eq_true rfl) ?_
  refine g_putF (k := 2) (j := 0) X hin rfl wsi_2 tyX2_ok nmX2 hP hD hS (by decide) fi_2_0 rfl rfl rfl rfl (Nat.le_of_ble_eq_true rfl) (by decide +kernel) (fun H locs hP hD hS => ?_)
  have hP : va_P D vwCl ((h0, .inr (2, [.ref q1, .int 0, .null, .int 0, .null, .int 0, .int 0, .int 0])) :: [(q1, .inl (cA 0, 60, .inl (fun _ => 0)))]) H := hP
  have hD : va_D A ((h0, .inr (2, [.ref q1, .int 0, .null, .int 0, .null, .int 0, .int 0, .int 0])) :: [(q1, .inl (cA 0, 60, .inl (fun _ => 0)))]) := hD
  refine lv_aload_n (k := 0) (i := 0) X.1 X.2.1 (by decide +kernel) rfl (lv_at hl 0 rfl) ?_
  refine lv_bipush (n := 30) (v := 30) X.1 X.2.1 (by decide +kernel) (by decide) ?_
  refine g_newa X arI hA hP hD hS (by decide) rfl (Nat.le_of_ble_eq_true rfl) (Nat.le_of_ble_eq_true rfl) (Nat.le_of_ble_eq_true rfl) (by decide +kernel) (fun q2 H hP hD hS => ?_)
  have hP : va_P D vwCl ((h0, .inr (2, [.ref q1, .int 0, .null, .int 0, .null, .int 0, .int 0, .int 0])) :: ([(q1, .inl (cA 0, 60, .inl (fun _ => 0)))] ++ [(q2, .inl (cA 0, 30, .inl (fun _ => 0)))])) H := hP
  have hD : va_D A ((h0, .inr (2, [.ref q1, .int 0, .null, .int 0, .null, .int 0, .int 0, .int 0])) :: ([(q1, .inl (cA 0, 60, .inl (fun _ => 0)))] ++ [(q2, .inl (cA 0, 30, .inl (fun _ => 0)))])) := hD
  refine W.widen (k := 2) (n := 90) (Nat.le_of_ble_eq_true rfl) (Nat.le_of_ble_eq_true rfl) ?_
  refine g_putF (k := 2) (j := 2) X hin rfl wsi_2 tyX2_ok nmX2 hP hD hS (by decide) fi_2_2 rfl rfl rfl rfl (Nat.le_of_ble_eq_true rfl) (by decide +kernel) (fun H locs hP hD hS => ?_)
  have hP : va_P D vwCl ((h0, .inr (2, [.ref q1, .int 0, .ref q2, .int 0, .null, .int 0, .int 0, .int 0])) :: ([(q1, .inl (cA 0, 60, .inl (fun _ => 0)))] ++ [(q2, .inl (cA 0, 30, .inl (fun _ => 0)))])) H := hP
  have hD : va_D A ((h0, .inr (2, [.ref q1, .int 0, .ref q2, .int 0, .null, .int 0, .int 0, .int 0])) :: ([(q1, .inl (cA 0, 60, .inl (fun _ => 0)))] ++ [(q2, .inl (cA 0, 30, .inl (fun _ => 0)))])) := hD
  refine lv_aload_n (k := 0) (i := 0) X.1 X.2.1 (by decide +kernel) rfl (lv_at hl 0 rfl) ?_
  refine lv_iconst (n := 3) (v := 3) X.1 X.2.1 (by decide +kernel) (by decide) ?_
  refine g_newa X arI hA hP hD hS (by decide) rfl (Nat.le_of_ble_eq_true rfl) (Nat.le_of_ble_eq_true rfl) (Nat.le_of_ble_eq_true rfl) (by decide +kernel) (fun q3 H hP hD hS => ?_)
  have hP : va_P D vwCl ((h0, .inr (2, [.ref q1, .int 0, .ref q2, .int 0, .null, .int 0, .int 0, .int 0])) :: (([(q1, .inl (cA 0, 60, .inl (fun _ => 0)))] ++ [(q2, .inl (cA 0, 30, .inl (fun _ => 0)))]) ++ [(q3, .inl (cA 0, 3, .inl (fun _ => 0)))])) H := hP
  have hD : va_D A ((h0, .inr (2, [.ref q1, .int 0, .ref q2, .int 0, .null, .int 0, .int 0, .int 0])) :: (([(q1, .inl (cA 0, 60, .inl (fun _ => 0)))] ++ [(q2, .inl (cA 0, 30, .inl (fun _ => 0)))]) ++ [(q3, .inl (cA 0, 3, .inl (fun _ => 0)))])) := hD
  refine W.widen (k := 3) (n := 93) (Nat.le_of_ble_eq_true rfl) (Nat.le_of_ble_eq_true rfl) ?_
  refine g_putF (k := 2) (j := 4) X hin rfl wsi_2 tyX2_ok nmX2 hP hD hS (by decide) fi_2_4 rfl rfl rfl rfl (Nat.le_of_ble_eq_true rfl) (by decide +kernel) (fun H locs hP hD hS => ?_)
  have hP : va_P D vwCl ((h0, .inr (2, [.ref q1, .int 0, .ref q2, .int 0, .ref q3, .int 0, .int 0, .int 0])) :: (([(q1, .inl (cA 0, 60, .inl (fun _ => 0)))] ++ [(q2, .inl (cA 0, 30, .inl (fun _ => 0)))]) ++ [(q3, .inl (cA 0, 3, .inl (fun _ => 0)))])) H := hP
  have hD : va_D A ((h0, .inr (2, [.ref q1, .int 0, .ref q2, .int 0, .ref q3, .int 0, .int 0, .int 0])) :: (([(q1, .inl (cA 0, 60, .inl (fun _ => 0)))] ++ [(q2, .inl (cA 0, 30, .inl (fun _ => 0)))]) ++ [(q3, .inl (cA 0, 3, .inl (fun _ => 0)))])) := hD
  refine kr _ _ _ _ _ (by decide +kernel) ⟨fun k j => if k = 2 then h0 else if k = 1128 then q1 else if k = 1130 then q2 else q3, rfl, ?_⟩ hP hD hS
  rfl
set_option maxHeartbeats 4000000 in
set_option maxRecDepth 100000 in
theorem c_X6 {D : va_G} {cA : Nat → ClassId} {l : Launch} : MetC D cA l yi_6 prog_8_method_1_code 1 6 [.null, .null, .null, .null, .int 0, .int 0, .int 0] 1 4 160 (PostK cA 6 0 csRd) := by
  refine MetC_of (by decide) rfl (by decide) (fun p e s m args below meth c h0 A ls Q X hin hA hl hP hD kr => ?_)
  have hS : va_S A s.heap s.heap [] := va_S.rf
  refine g_init X hl mi_6_3 obI obC (by decide +kernel) (by decide +kernel) (Nat.le_of_ble_eq_true rfl) (Nat.le_of_ble_eq_true rfl) ?_
  refine lv_aload_n (k := 0) (i := 0) X.1 X.2.1 (by decide +kernel) rfl (lv_at hl 0 rfl) ?_
  refine lv_bipush (n := 40) (v := 40) X.1 X.2.1 (by decide +kernel) (by decide) ?_
  refine g_newa X arI hA hP hD hS (by decide) rfl (Nat.le_of_ble_eq_true rfl) (Nat.le_of_ble_eq_true rfl) (Nat.le_of_ble_eq_true rfl) (by decide +kernel) (fun q1 H hP hD hS => ?_)
  have hP : va_P D vwCl ((h0, .inr (6, [.null, .null, .null, .null, .int 0, .int 0, .int 0])) :: [(q1, .inl (cA 0, 40, .inl (fun _ => 0)))]) H := hP
  have hD : va_D A ((h0, .inr (6, [.null, .null, .null, .null, .int 0, .int 0, .int 0])) :: [(q1, .inl (cA 0, 40, .inl (fun _ => 0)))]) := hD
  refine W.widen (k := 1) (n := 40) (Nat.le_of_ble_eq_true rfl) (Nat.le_of_ble_eq_true rfl) ?_
  refine g_putF (k := 6) (j := 0) X hin rfl wsi_6 tyX6_ok nmX6 hP hD hS (by decide) fi_6_0 rfl rfl rfl rfl (Nat.le_of_ble_eq_true rfl) (by decide +kernel) (fun H locs hP hD hS => ?_)
  have hP : va_P D vwCl ((h0, .inr (6, [.ref q1, .null, .null, .null, .int 0, .int 0, .int 0])) :: [(q1, .inl (cA 0, 40, .inl (fun _ => 0)))]) H := hP
  have hD : va_D A ((h0, .inr (6, [.ref q1, .null, .null, .null, .int 0, .int 0, .int 0])) :: [(q1, .inl (cA 0, 40, .inl (fun _ => 0)))]) := hD
  refine lv_aload_n (k := 0) (i := 0) X.1 X.2.1 (by decide +kernel) rfl (lv_at hl 0 rfl) ?_
  refine lv_bipush (n := 40) (v := 40) X.1 X.2.1 (by decide +kernel) (by decide) ?_
  refine g_newa X arI hA hP hD hS (by decide) rfl (Nat.le_of_ble_eq_true rfl) (Nat.le_of_ble_eq_true rfl) (Nat.le_of_ble_eq_true rfl) (by decide +kernel) (fun q2 H hP hD hS => ?_)
  have hP : va_P D vwCl ((h0, .inr (6, [.ref q1, .null, .null, .null, .int 0, .int 0, .int 0])) :: ([(q1, .inl (cA 0, 40, .inl (fun _ => 0)))] ++ [(q2, .inl (cA 0, 40, .inl (fun _ => 0)))])) H := hP
  have hD : va_D A ((h0, .inr (6, [.ref q1, .null, .null, .null, .int 0, .int 0, .int 0])) :: ([(q1, .inl (cA 0, 40, .inl (fun _ => 0)))] ++ [(q2, .inl (cA 0, 40, .inl (fun _ => 0)))])) := hD
  refine W.widen (k := 2) (n := 80) (Nat.le_of_ble_eq_true rfl) (Nat.le_of_ble_eq_true rfl) ?_
  refine g_putF (k := 6) (j := 1) X hin rfl wsi_6 tyX6_ok nmX6 hP hD hS (by decide) fi_6_1 rfl rfl rfl rfl (Nat.le_of_ble_eq_true rfl) (by decide +kernel) (fun H locs hP hD hS => ?_)
  have hP : va_P D vwCl ((h0, .inr (6, [.ref q1, .ref q2, .null, .null, .int 0, .int 0, .int 0])) :: ([(q1, .inl (cA 0, 40, .inl (fun _ => 0)))] ++ [(q2, .inl (cA 0, 40, .inl (fun _ => 0)))])) H := hP
  have hD : va_D A ((h0, .inr (6, [.ref q1, .ref q2, .null, .null, .int 0, .int 0, .int 0])) :: ([(q1, .inl (cA 0, 40, .inl (fun _ => 0)))] ++ [(q2, .inl (cA 0, 40, .inl (fun _ => 0)))])) := hD
  refine lv_aload_n (k := 0) (i := 0) X.1 X.2.1 (by decide +kernel) rfl (lv_at hl 0 rfl) ?_
  refine lv_bipush (n := 40) (v := 40) X.1 X.2.1 (by decide +kernel) (by decide) ?_
  refine g_newa X arI hA hP hD hS (by decide) rfl (Nat.le_of_ble_eq_true rfl) (Nat.le_of_ble_eq_true rfl) (Nat.le_of_ble_eq_true rfl) (by decide +kernel) (fun q3 H hP hD hS => ?_)
  have hP : va_P D vwCl ((h0, .inr (6, [.ref q1, .ref q2, .null, .null, .int 0, .int 0, .int 0])) :: (([(q1, .inl (cA 0, 40, .inl (fun _ => 0)))] ++ [(q2, .inl (cA 0, 40, .inl (fun _ => 0)))]) ++ [(q3, .inl (cA 0, 40, .inl (fun _ => 0)))])) H := hP
  have hD : va_D A ((h0, .inr (6, [.ref q1, .ref q2, .null, .null, .int 0, .int 0, .int 0])) :: (([(q1, .inl (cA 0, 40, .inl (fun _ => 0)))] ++ [(q2, .inl (cA 0, 40, .inl (fun _ => 0)))]) ++ [(q3, .inl (cA 0, 40, .inl (fun _ => 0)))])) := hD
  refine W.widen (k := 3) (n := 120) (Nat.le_of_ble_eq_true rfl) (Nat.le_of_ble_eq_true rfl) ?_
  refine g_putF (k := 6) (j := 2) X hin rfl wsi_6 tyX6_ok nmX6 hP hD hS (by decide) fi_6_2 rfl rfl rfl rfl (Nat.le_of_ble_eq_true rfl) (by decide +kernel) (fun H locs hP hD hS => ?_)
  have hP : va_P D vwCl ((h0, .inr (6, [.ref q1, .ref q2, .ref q3, .null, .int 0, .int 0, .int 0])) :: (([(q1, .inl (cA 0, 40, .inl (fun _ => 0)))] ++ [(q2, .inl (cA 0, 40, .inl (fun _ => 0)))]) ++ [(q3, .inl (cA 0, 40, .inl (fun _ => 0)))])) H := hP
  have hD : va_D A ((h0, .inr (6, [.ref q1, .ref q2, .ref q3, .null, .int 0, .int 0, .int 0])) :: (([(q1, .inl (cA 0, 40, .inl (fun _ => 0)))] ++ [(q2, .inl (cA 0, 40, .inl (fun _ => 0)))]) ++ [(q3, .inl (cA 0, 40, .inl (fun _ => 0)))])) := hD
  refine lv_aload_n (k := 0) (i := 0) X.1 X.2.1 (by decide +kernel) rfl (lv_at hl 0 rfl) ?_
  refine lv_bipush (n := 40) (v := 40) X.1 X.2.1 (by decide +kernel) (by decide) ?_
  refine g_newa X arI hA hP hD hS (by decide) rfl (Nat.le_of_ble_eq_true rfl) (Nat.le_of_ble_eq_true rfl) (Nat.le_of_ble_eq_true rfl) (by decide +kernel) (fun q4 H hP hD hS => ?_)
  have hP : va_P D vwCl ((h0, .inr (6, [.ref q1, .ref q2, .ref q3, .null, .int 0, .int 0, .int 0])) :: ((([(q1, .inl (cA 0, 40, .inl (fun _ => 0)))] ++ [(q2, .inl (cA 0, 40, .inl (fun _ => 0)))]) ++ [(q3, .inl (cA 0, 40, .inl (fun _ => 0)))]) ++ [(q4, .inl (cA 0, 40, .inl (fun _ => 0)))])) H := hP
  have hD : va_D A ((h0, .inr (6, [.ref q1, .ref q2, .ref q3, .null, .int 0, .int 0, .int 0])) :: ((([(q1, .inl (cA 0, 40, .inl (fun _ => 0)))] ++ [(q2, .inl (cA 0, 40, .inl (fun _ => 0)))]) ++ [(q3, .inl (cA 0, 40, .inl (fun _ => 0)))]) ++ [(q4, .inl (cA 0, 40, .inl (fun _ => 0)))])) := hD
  refine W.widen (k := 4) (n := 160) (Nat.le_of_ble_eq_true rfl) (Nat.le_of_ble_eq_true rfl) ?_
  refine g_putF (k := 6) (j := 3) X hin rfl wsi_6 tyX6_ok nmX6 hP hD hS (by decide) fi_6_3 rfl rfl rfl rfl (Nat.le_of_ble_eq_true rfl) (by decide +kernel) (fun H locs hP hD hS => ?_)
  have hP : va_P D vwCl ((h0, .inr (6, [.ref q1, .ref q2, .ref q3, .ref q4, .int 0, .int 0, .int 0])) :: ((([(q1, .inl (cA 0, 40, .inl (fun _ => 0)))] ++ [(q2, .inl (cA 0, 40, .inl (fun _ => 0)))]) ++ [(q3, .inl (cA 0, 40, .inl (fun _ => 0)))]) ++ [(q4, .inl (cA 0, 40, .inl (fun _ => 0)))])) H := hP
  have hD : va_D A ((h0, .inr (6, [.ref q1, .ref q2, .ref q3, .ref q4, .int 0, .int 0, .int 0])) :: ((([(q1, .inl (cA 0, 40, .inl (fun _ => 0)))] ++ [(q2, .inl (cA 0, 40, .inl (fun _ => 0)))]) ++ [(q3, .inl (cA 0, 40, .inl (fun _ => 0)))]) ++ [(q4, .inl (cA 0, 40, .inl (fun _ => 0)))])) := hD
  refine kr _ _ _ _ _ (by decide +kernel) ⟨fun k j => if k = 6 then h0 else if k = 1384 then q1 else if k = 1385 then q2 else if k = 1386 then q3 else q4, rfl, ?_⟩ hP hD hS
  rfl
set_option maxHeartbeats 4000000 in
set_option maxRecDepth 100000 in
theorem c_X7 {D : va_G} {cA : Nat → ClassId} {l : Launch} : MetC D cA l yi_7 prog_9_method_1_code 1 7 [.null, .null] 1 2 40 (PostK cA 7 0 csRk) := by
  refine MetC_of (by decide) rfl (by decide) (fun p e s m args below meth c h0 A ls Q X hin hA hl hP hD kr => ?_)
  have hS : va_S A s.heap s.heap [] := va_S.rf
  refine g_init X hl mi_7_3 obI obC (by decide +kernel) (by decide +kernel) (Nat.le_of_ble_eq_true rfl) (Nat.le_of_ble_eq_true rfl) ?_
  refine lv_aload_n (k := 0) (i := 0) X.1 X.2.1 (by decide +kernel) rfl (lv_at hl 0 rfl) ?_
  refine lv_bipush (n := 30) (v := 30) X.1 X.2.1 (by decide +kernel) (by decide) ?_
  refine g_newa X arI hA hP hD hS (by decide) rfl (Nat.le_of_ble_eq_true rfl) (Nat.le_of_ble_eq_true rfl) (Nat.le_of_ble_eq_true rfl) (by decide +kernel) (fun q1 H hP hD hS => ?_)
  have hP : va_P D vwCl ((h0, .inr (7, [.null, .null])) :: [(q1, .inl (cA 0, 30, .inl (fun _ => 0)))]) H := hP
  have hD : va_D A ((h0, .inr (7, [.null, .null])) :: [(q1, .inl (cA 0, 30, .inl (fun _ => 0)))]) := hD
  refine W.widen (k := 1) (n := 30) (Nat.le_of_ble_eq_true rfl) (Nat.le_of_ble_eq_true rfl) ?_
  refine g_putF (k := 7) (j := 0) X hin rfl wsi_7 tyX7_ok nmX7 hP hD hS (by decide) fi_7_0 rfl rfl rfl rfl (Nat.le_of_ble_eq_true rfl) (by decide +kernel) (fun H locs hP hD hS => ?_)
  have hP : va_P D vwCl ((h0, .inr (7, [.ref q1, .null])) :: [(q1, .inl (cA 0, 30, .inl (fun _ => 0)))]) H := hP
  have hD : va_D A ((h0, .inr (7, [.ref q1, .null])) :: [(q1, .inl (cA 0, 30, .inl (fun _ => 0)))]) := hD
  refine lv_aload_n (k := 0) (i := 0) X.1 X.2.1 (by decide +kernel) rfl (lv_at hl 0 rfl) ?_
  refine lv_bipush (n := 10) (v := 10) X.1 X.2.1 (by decide +kernel) (by decide) ?_
  refine g_newa X arI hA hP hD hS (by decide) rfl (Nat.le_of_ble_eq_true rfl) (Nat.le_of_ble_eq_true rfl) (Nat.le_of_ble_eq_true rfl) (by decide +kernel) (fun q2 H hP hD hS => ?_)
  have hP : va_P D vwCl ((h0, .inr (7, [.ref q1, .null])) :: ([(q1, .inl (cA 0, 30, .inl (fun _ => 0)))] ++ [(q2, .inl (cA 0, 10, .inl (fun _ => 0)))])) H := hP
  have hD : va_D A ((h0, .inr (7, [.ref q1, .null])) :: ([(q1, .inl (cA 0, 30, .inl (fun _ => 0)))] ++ [(q2, .inl (cA 0, 10, .inl (fun _ => 0)))])) := hD
  refine W.widen (k := 2) (n := 40) (Nat.le_of_ble_eq_true rfl) (Nat.le_of_ble_eq_true rfl) ?_
  refine lv_dup X.1 X.2.1 (by decide +kernel) rfl ?_
  refine lv_iconst (n := 0) (v := 0) X.1 X.2.1 (by decide +kernel) (by decide) ?_
  refine lv_bipush (n := 90) (v := 90) X.1 X.2.1 (by decide +kernel) (by decide) ?_
  refine g_ast (ws := ((h0, .inr (7, [.ref q1, .null])) :: [(q1, .inl (cA 0, 30, .inl (fun _ => 0)))])) (n := 10) X hP hD hS (k := 0) rfl (by decide) (by decide +kernel) (fun H locs hP hD hS => ?_)
  have hP : va_P D vwCl ((h0, .inr (7, [.ref q1, .null])) :: ([(q1, .inl (cA 0, 30, .inl (fun _ => 0)))] ++ [(q2, .inl (cA 0, 10, .inl (upd (fun _ => 0) (0 : Int32).toNatClampNeg 90)))])) H := hP
  have hD : va_D A ((h0, .inr (7, [.ref q1, .null])) :: ([(q1, .inl (cA 0, 30, .inl (fun _ => 0)))] ++ [(q2, .inl (cA 0, 10, .inl (upd (fun _ => 0) (0 : Int32).toNatClampNeg 90)))])) := hD
  refine lv_dup X.1 X.2.1 (by decide +kernel) rfl ?_
  refine lv_iconst (n := 1) (v := 1) X.1 X.2.1 (by decide +kernel) (by decide) ?_
  refine lv_bipush (n := 80) (v := 80) X.1 X.2.1 (by decide +kernel) (by decide) ?_
  refine g_ast (ws := ((h0, .inr (7, [.ref q1, .null])) :: [(q1, .inl (cA 0, 30, .inl (fun _ => 0)))])) (n := 10) X hP hD hS (k := 0) rfl (by decide) (by decide +kernel) (fun H locs hP hD hS => ?_)
  have hP : va_P D vwCl ((h0, .inr (7, [.ref q1, .null])) :: ([(q1, .inl (cA 0, 30, .inl (fun _ => 0)))] ++ [(q2, .inl (cA 0, 10, .inl (upd (upd (fun _ => 0) (0 : Int32).toNatClampNeg 90) (1 : Int32).toNatClampNeg 80)))])) H := hP
  have hD : va_D A ((h0, .inr (7, [.ref q1, .null])) :: ([(q1, .inl (cA 0, 30, .inl (fun _ => 0)))] ++ [(q2, .inl (cA 0, 10, .inl (upd (upd (fun _ => 0) (0 : Int32).toNatClampNeg 90) (1 : Int32).toNatClampNeg 80)))])) := hD
  refine lv_dup X.1 X.2.1 (by decide +kernel) rfl ?_
  refine lv_iconst (n := 2) (v := 2) X.1 X.2.1 (by decide +kernel) (by decide) ?_
  refine lv_bipush (n := 70) (v := 70) X.1 X.2.1 (by decide +kernel) (by decide) ?_
  refine g_ast (ws := ((h0, .inr (7, [.ref q1, .null])) :: [(q1, .inl (cA 0, 30, .inl (fun _ => 0)))])) (n := 10) X hP hD hS (k := 0) rfl (by decide) (by decide +kernel) (fun H locs hP hD hS => ?_)
  have hP : va_P D vwCl ((h0, .inr (7, [.ref q1, .null])) :: ([(q1, .inl (cA 0, 30, .inl (fun _ => 0)))] ++ [(q2, .inl (cA 0, 10, .inl (upd (upd (upd (fun _ => 0) (0 : Int32).toNatClampNeg 90) (1 : Int32).toNatClampNeg 80) (2 : Int32).toNatClampNeg 70)))])) H := hP
  have hD : va_D A ((h0, .inr (7, [.ref q1, .null])) :: ([(q1, .inl (cA 0, 30, .inl (fun _ => 0)))] ++ [(q2, .inl (cA 0, 10, .inl (upd (upd (upd (fun _ => 0) (0 : Int32).toNatClampNeg 90) (1 : Int32).toNatClampNeg 80) (2 : Int32).toNatClampNeg 70)))])) := hD
  refine lv_dup X.1 X.2.1 (by decide +kernel) rfl ?_
  refine lv_iconst (n := 3) (v := 3) X.1 X.2.1 (by decide +kernel) (by decide) ?_
  refine lv_bipush (n := 60) (v := 60) X.1 X.2.1 (by decide +kernel) (by decide) ?_
  refine g_ast (ws := ((h0, .inr (7, [.ref q1, .null])) :: [(q1, .inl (cA 0, 30, .inl (fun _ => 0)))])) (n := 10) X hP hD hS (k := 0) rfl (by decide) (by decide +kernel) (fun H locs hP hD hS => ?_)
  have hP : va_P D vwCl ((h0, .inr (7, [.ref q1, .null])) :: ([(q1, .inl (cA 0, 30, .inl (fun _ => 0)))] ++ [(q2, .inl (cA 0, 10, .inl (upd (upd (upd (upd (fun _ => 0) (0 : Int32).toNatClampNeg 90) (1 : Int32).toNatClampNeg 80) (2 : Int32).toNatClampNeg 70) (3 : Int32).toNatClampNeg 60)))])) H := hP
  have hD : va_D A ((h0, .inr (7, [.ref q1, .null])) :: ([(q1, .inl (cA 0, 30, .inl (fun _ => 0)))] ++ [(q2, .inl (cA 0, 10, .inl (upd (upd (upd (upd (fun _ => 0) (0 : Int32).toNatClampNeg 90) (1 : Int32).toNatClampNeg 80) (2 : Int32).toNatClampNeg 70) (3 : Int32).toNatClampNeg 60)))])) := hD
  refine lv_dup X.1 X.2.1 (by decide +kernel) rfl ?_
  refine lv_iconst (n := 4) (v := 4) X.1 X.2.1 (by decide +kernel) (by decide) ?_
  refine lv_bipush (n := 50) (v := 50) X.1 X.2.1 (by decide +kernel) (by decide) ?_
  refine g_ast (ws := ((h0, .inr (7, [.ref q1, .null])) :: [(q1, .inl (cA 0, 30, .inl (fun _ => 0)))])) (n := 10) X hP hD hS (k := 0) rfl (by decide) (by decide +kernel) (fun H locs hP hD hS => ?_)
  have hP : va_P D vwCl ((h0, .inr (7, [.ref q1, .null])) :: ([(q1, .inl (cA 0, 30, .inl (fun _ => 0)))] ++ [(q2, .inl (cA 0, 10, .inl (upd (upd (upd (upd (upd (fun _ => 0) (0 : Int32).toNatClampNeg 90) (1 : Int32).toNatClampNeg 80) (2 : Int32).toNatClampNeg 70) (3 : Int32).toNatClampNeg 60) (4 : Int32).toNatClampNeg 50)))])) H := hP
  have hD : va_D A ((h0, .inr (7, [.ref q1, .null])) :: ([(q1, .inl (cA 0, 30, .inl (fun _ => 0)))] ++ [(q2, .inl (cA 0, 10, .inl (upd (upd (upd (upd (upd (fun _ => 0) (0 : Int32).toNatClampNeg 90) (1 : Int32).toNatClampNeg 80) (2 : Int32).toNatClampNeg 70) (3 : Int32).toNatClampNeg 60) (4 : Int32).toNatClampNeg 50)))])) := hD
  refine lv_dup X.1 X.2.1 (by decide +kernel) rfl ?_
  refine lv_iconst (n := 5) (v := 5) X.1 X.2.1 (by decide +kernel) (by decide) ?_
  refine lv_bipush (n := 40) (v := 40) X.1 X.2.1 (by decide +kernel) (by decide) ?_
  refine g_ast (ws := ((h0, .inr (7, [.ref q1, .null])) :: [(q1, .inl (cA 0, 30, .inl (fun _ => 0)))])) (n := 10) X hP hD hS (k := 0) rfl (by decide) (by decide +kernel) (fun H locs hP hD hS => ?_)
  have hP : va_P D vwCl ((h0, .inr (7, [.ref q1, .null])) :: ([(q1, .inl (cA 0, 30, .inl (fun _ => 0)))] ++ [(q2, .inl (cA 0, 10, .inl (upd (upd (upd (upd (upd (upd (fun _ => 0) (0 : Int32).toNatClampNeg 90) (1 : Int32).toNatClampNeg 80) (2 : Int32).toNatClampNeg 70) (3 : Int32).toNatClampNeg 60) (4 : Int32).toNatClampNeg 50) (5 : Int32).toNatClampNeg 40)))])) H := hP
  have hD : va_D A ((h0, .inr (7, [.ref q1, .null])) :: ([(q1, .inl (cA 0, 30, .inl (fun _ => 0)))] ++ [(q2, .inl (cA 0, 10, .inl (upd (upd (upd (upd (upd (upd (fun _ => 0) (0 : Int32).toNatClampNeg 90) (1 : Int32).toNatClampNeg 80) (2 : Int32).toNatClampNeg 70) (3 : Int32).toNatClampNeg 60) (4 : Int32).toNatClampNeg 50) (5 : Int32).toNatClampNeg 40)))])) := hD
  refine lv_dup X.1 X.2.1 (by decide +kernel) rfl ?_
  refine lv_bipush (n := 6) (v := 6) X.1 X.2.1 (by decide +kernel) (by decide) ?_
  refine lv_bipush (n := 30) (v := 30) X.1 X.2.1 (by decide +kernel) (by decide) ?_
  refine g_ast (ws := ((h0, .inr (7, [.ref q1, .null])) :: [(q1, .inl (cA 0, 30, .inl (fun _ => 0)))])) (n := 10) X hP hD hS (k := 0) rfl (by decide) (by decide +kernel) (fun H locs hP hD hS => ?_)
  have hP : va_P D vwCl ((h0, .inr (7, [.ref q1, .null])) :: ([(q1, .inl (cA 0, 30, .inl (fun _ => 0)))] ++ [(q2, .inl (cA 0, 10, .inl (upd (upd (upd (upd (upd (upd (upd (fun _ => 0) (0 : Int32).toNatClampNeg 90) (1 : Int32).toNatClampNeg 80) (2 : Int32).toNatClampNeg 70) (3 : Int32).toNatClampNeg 60) (4 : Int32).toNatClampNeg 50) (5 : Int32).toNatClampNeg 40) (6 : Int32).toNatClampNeg 30)))])) H := hP
  have hD : va_D A ((h0, .inr (7, [.ref q1, .null])) :: ([(q1, .inl (cA 0, 30, .inl (fun _ => 0)))] ++ [(q2, .inl (cA 0, 10, .inl (upd (upd (upd (upd (upd (upd (upd (fun _ => 0) (0 : Int32).toNatClampNeg 90) (1 : Int32).toNatClampNeg 80) (2 : Int32).toNatClampNeg 70) (3 : Int32).toNatClampNeg 60) (4 : Int32).toNatClampNeg 50) (5 : Int32).toNatClampNeg 40) (6 : Int32).toNatClampNeg 30)))])) := hD
  refine lv_dup X.1 X.2.1 (by decide +kernel) rfl ?_
  refine lv_bipush (n := 7) (v := 7) X.1 X.2.1 (by decide +kernel) (by decide) ?_
  refine lv_bipush (n := 20) (v := 20) X.1 X.2.1 (by decide +kernel) (by decide) ?_
  refine g_ast (ws := ((h0, .inr (7, [.ref q1, .null])) :: [(q1, .inl (cA 0, 30, .inl (fun _ => 0)))])) (n := 10) X hP hD hS (k := 0) rfl (by decide) (by decide +kernel) (fun H locs hP hD hS => ?_)
  have hP : va_P D vwCl ((h0, .inr (7, [.ref q1, .null])) :: ([(q1, .inl (cA 0, 30, .inl (fun _ => 0)))] ++ [(q2, .inl (cA 0, 10, .inl (upd (upd (upd (upd (upd (upd (upd (upd (fun _ => 0) (0 : Int32).toNatClampNeg 90) (1 : Int32).toNatClampNeg 80) (2 : Int32).toNatClampNeg 70) (3 : Int32).toNatClampNeg 60) (4 : Int32).toNatClampNeg 50) (5 : Int32).toNatClampNeg 40) (6 : Int32).toNatClampNeg 30) (7 : Int32).toNatClampNeg 20)))])) H := hP
  have hD : va_D A ((h0, .inr (7, [.ref q1, .null])) :: ([(q1, .inl (cA 0, 30, .inl (fun _ => 0)))] ++ [(q2, .inl (cA 0, 10, .inl (upd (upd (upd (upd (upd (upd (upd (upd (fun _ => 0) (0 : Int32).toNatClampNeg 90) (1 : Int32).toNatClampNeg 80) (2 : Int32).toNatClampNeg 70) (3 : Int32).toNatClampNeg 60) (4 : Int32).toNatClampNeg 50) (5 : Int32).toNatClampNeg 40) (6 : Int32).toNatClampNeg 30) (7 : Int32).toNatClampNeg 20)))])) := hD
  refine lv_dup X.1 X.2.1 (by decide +kernel) rfl ?_
  refine lv_bipush (n := 8) (v := 8) X.1 X.2.1 (by decide +kernel) (by decide) ?_
  refine lv_bipush (n := 10) (v := 10) X.1 X.2.1 (by decide +kernel) (by decide) ?_
  refine g_ast (ws := ((h0, .inr (7, [.ref q1, .null])) :: [(q1, .inl (cA 0, 30, .inl (fun _ => 0)))])) (n := 10) X hP hD hS (k := 0) rfl (by decide) (by decide +kernel) (fun H locs hP hD hS => ?_)
  have hP : va_P D vwCl ((h0, .inr (7, [.ref q1, .null])) :: ([(q1, .inl (cA 0, 30, .inl (fun _ => 0)))] ++ [(q2, .inl (cA 0, 10, .inl (upd (upd (upd (upd (upd (upd (upd (upd (upd (fun _ => 0) (0 : Int32).toNatClampNeg 90) (1 : Int32).toNatClampNeg 80) (2 : Int32).toNatClampNeg 70) (3 : Int32).toNatClampNeg 60) (4 : Int32).toNatClampNeg 50) (5 : Int32).toNatClampNeg 40) (6 : Int32).toNatClampNeg 30) (7 : Int32).toNatClampNeg 20) (8 : Int32).toNatClampNeg 10)))])) H := hP
  have hD : va_D A ((h0, .inr (7, [.ref q1, .null])) :: ([(q1, .inl (cA 0, 30, .inl (fun _ => 0)))] ++ [(q2, .inl (cA 0, 10, .inl (upd (upd (upd (upd (upd (upd (upd (upd (upd (fun _ => 0) (0 : Int32).toNatClampNeg 90) (1 : Int32).toNatClampNeg 80) (2 : Int32).toNatClampNeg 70) (3 : Int32).toNatClampNeg 60) (4 : Int32).toNatClampNeg 50) (5 : Int32).toNatClampNeg 40) (6 : Int32).toNatClampNeg 30) (7 : Int32).toNatClampNeg 20) (8 : Int32).toNatClampNeg 10)))])) := hD
  refine lv_dup X.1 X.2.1 (by decide +kernel) rfl ?_
  refine lv_bipush (n := 9) (v := 9) X.1 X.2.1 (by decide +kernel) (by decide) ?_
  refine lv_iconst (n := 0) (v := 0) X.1 X.2.1 (by decide +kernel) (by decide) ?_
  refine g_ast (ws := ((h0, .inr (7, [.ref q1, .null])) :: [(q1, .inl (cA 0, 30, .inl (fun _ => 0)))])) (n := 10) X hP hD hS (k := 0) rfl (by decide) (by decide +kernel) (fun H locs hP hD hS => ?_)
  have hP : va_P D vwCl ((h0, .inr (7, [.ref q1, .null])) :: ([(q1, .inl (cA 0, 30, .inl (fun _ => 0)))] ++ [(q2, .inl (cA 0, 10, .inl (upd (upd (upd (upd (upd (upd (upd (upd (upd (upd (fun _ => 0) (0 : Int32).toNatClampNeg 90) (1 : Int32).toNatClampNeg 80) (2 : Int32).toNatClampNeg 70) (3 : Int32).toNatClampNeg 60) (4 : Int32).toNatClampNeg 50) (5 : Int32).toNatClampNeg 40) (6 : Int32).toNatClampNeg 30) (7 : Int32).toNatClampNeg 20) (8 : Int32).toNatClampNeg 10) (9 : Int32).toNatClampNeg 0)))])) H := hP
  have hD : va_D A ((h0, .inr (7, [.ref q1, .null])) :: ([(q1, .inl (cA 0, 30, .inl (fun _ => 0)))] ++ [(q2, .inl (cA 0, 10, .inl (upd (upd (upd (upd (upd (upd (upd (upd (upd (upd (fun _ => 0) (0 : Int32).toNatClampNeg 90) (1 : Int32).toNatClampNeg 80) (2 : Int32).toNatClampNeg 70) (3 : Int32).toNatClampNeg 60) (4 : Int32).toNatClampNeg 50) (5 : Int32).toNatClampNeg 40) (6 : Int32).toNatClampNeg 30) (7 : Int32).toNatClampNeg 20) (8 : Int32).toNatClampNeg 10) (9 : Int32).toNatClampNeg 0)))])) := hD
  refine g_putF (k := 7) (j := 1) X hin rfl wsi_7 tyX7_ok nmX7 hP hD hS (by decide) fi_7_1 rfl rfl rfl rfl (Nat.le_of_ble_eq_true rfl) (by decide +kernel) (fun H locs hP hD hS => ?_)
  have hP : va_P D vwCl ((h0, .inr (7, [.ref q1, .ref q2])) :: ([(q1, .inl (cA 0, 30, .inl (fun _ => 0)))] ++ [(q2, .inl (cA 0, 10, .inl (upd (upd (upd (upd (upd (upd (upd (upd (upd (upd (fun _ => 0) (0 : Int32).toNatClampNeg 90) (1 : Int32).toNatClampNeg 80) (2 : Int32).toNatClampNeg 70) (3 : Int32).toNatClampNeg 60) (4 : Int32).toNatClampNeg 50) (5 : Int32).toNatClampNeg 40) (6 : Int32).toNatClampNeg 30) (7 : Int32).toNatClampNeg 20) (8 : Int32).toNatClampNeg 10) (9 : Int32).toNatClampNeg 0)))])) H := hP
  have hD : va_D A ((h0, .inr (7, [.ref q1, .ref q2])) :: ([(q1, .inl (cA 0, 30, .inl (fun _ => 0)))] ++ [(q2, .inl (cA 0, 10, .inl (upd (upd (upd (upd (upd (upd (upd (upd (upd (upd (fun _ => 0) (0 : Int32).toNatClampNeg 90) (1 : Int32).toNatClampNeg 80) (2 : Int32).toNatClampNeg 70) (3 : Int32).toNatClampNeg 60) (4 : Int32).toNatClampNeg 50) (5 : Int32).toNatClampNeg 40) (6 : Int32).toNatClampNeg 30) (7 : Int32).toNatClampNeg 20) (8 : Int32).toNatClampNeg 10) (9 : Int32).toNatClampNeg 0)))])) := hD
  refine kr _ _ _ _ _ (by decide +kernel) ⟨fun k j => if k = 7 then h0 else if k = 1448 then q1 else q2, rfl, ?_⟩ hP hD hS
  rw [show (upd (upd (upd (upd (upd (upd (upd (upd (upd (upd (fun _ => 0) (0 : Int32).toNatClampNeg 90) (1 : Int32).toNatClampNeg 80) (2 : Int32).toNatClampNeg 70) (3 : Int32).toNatClampNeg 60) (4 : Int32).toNatClampNeg 50) (5 : Int32).toNatClampNeg 40) (6 : Int32).toNatClampNeg 30) (7 : Int32).toNatClampNeg 20) (8 : Int32).toNatClampNeg 10) (9 : Int32).toNatClampNeg 0) = (fun j => S0 449 0 j) from s0_449.symm]
  rfl
set_option maxHeartbeats 4000000 in
set_option maxRecDepth 100000 in
theorem c_X10 {D : va_G} {cA : Nat → ClassId} {l : Launch} : MetC D cA l yi_10 prog_12_method_1_code 1 10 [.null, .int 0] 1 1 12 (PostK cA 10 0 csWi) := by
  refine MetC_of (by decide) rfl (by decide) (fun p e s m args below meth c h0 A ls Q X hin hA hl hP hD kr => ?_)
  have hS : va_S A s.heap s.heap [] := va_S.rf
  refine g_init X hl mi_10_3 obI obC (by decide +kernel) (by decide +kernel) (Nat.le_of_ble_eq_true rfl) (Nat.le_of_ble_eq_true rfl) ?_
  refine lv_aload_n (k := 0) (i := 0) X.1 X.2.1 (by decide +kernel) rfl (lv_at hl 0 rfl) ?_
  refine lv_bipush (n := 12) (v := 12) X.1 X.2.1 (by decide +kernel) (by decide) ?_
  refine g_newa X arI hA hP hD hS (by decide) rfl (Nat.le_of_ble_eq_true rfl) (Nat.le_of_ble_eq_true rfl) (Nat.le_of_ble_eq_true rfl) (by decide +kernel) (fun q1 H hP hD hS => ?_)
  have hP : va_P D vwCl ((h0, .inr (10, [.null, .int 0])) :: [(q1, .inl (cA 0, 12, .inl (fun _ => 0)))]) H := hP
  have hD : va_D A ((h0, .inr (10, [.null, .int 0])) :: [(q1, .inl (cA 0, 12, .inl (fun _ => 0)))]) := hD
  refine W.widen (k := 1) (n := 12) (Nat.le_of_ble_eq_true rfl) (Nat.le_of_ble_eq_true rfl) ?_
  refine g_putF (k := 10) (j := 0) X hin rfl wsi_10 tyX10_ok nmX10 hP hD hS (by decide) fi_10_0 rfl rfl rfl rfl (Nat.le_of_ble_eq_true rfl) (by decide +kernel) (fun H locs hP hD hS => ?_)
  have hP : va_P D vwCl ((h0, .inr (10, [.ref q1, .int 0])) :: [(q1, .inl (cA 0, 12, .inl (fun _ => 0)))]) H := hP
  have hD : va_D A ((h0, .inr (10, [.ref q1, .int 0])) :: [(q1, .inl (cA 0, 12, .inl (fun _ => 0)))]) := hD
  refine kr _ _ _ _ _ (by decide +kernel) ⟨fun k j => if k = 10 then h0 else q1, rfl, ?_⟩ hP hD hS
  rfl
set_option maxHeartbeats 4000000 in
set_option maxRecDepth 100000 in
theorem c_X0 {D : va_G} {cA : Nat → ClassId} {l : Launch} (i : Nat) : MetC D cA l yi_0 prog_2_method_1_code 1 0 [.int 0, .null, .null, .int 0, .null] 2 6 111 (PostK cA 0 i (csAct i)) := by
  refine MetC_of (by decide) rfl (by decide) (fun p e s m args below meth c h0 A ls Q X hin hA hl hP hD kr => ?_)
  have hS : va_S A s.heap s.heap [] := va_S.rf
  refine g_init X hl mi_0_3 obI obC (by decide +kernel) (by decide +kernel) (Nat.le_of_ble_eq_true rfl) (Nat.le_of_ble_eq_true rfl) ?_
  refine lv_aload_n (k := 0) (i := 0) X.1 X.2.1 (by decide +kernel) rfl (lv_at hl 0 rfl) ?_
  refine g_newo (k := 8) (q0 := h0) X hA hP hD hS hl.1 rfl wsi_8 tyX8_ok (fs0 := [.null, .int 0, .int 0, .int 0, .int 0, .int 0, .int 0, .int 0, .int 0, .int 0]) (fun j hj => by rcases (show j = 0 ∨ j = 1 ∨ j = 2 ∨ j = 3 ∨ j = 4 ∨ j = 5 ∨ j = 6 ∨ j = 7 ∨ j = 8 ∨ j = 9 by omega) with rfl | rfl | rfl | rfl | rfl | rfl | rfl | rfl | rfl | rfl <;> rfl) kk_0_9 it_8 id_8 (c_X8 (D := D) (cA := cA) (l := l) (i + 12)) cei_8 rfl imi_8 mi_0_11 ⟨Nat.le_of_ble_eq_true rfl, Nat.le_of_ble_eq_true rfl⟩ (Nat.le_of_ble_eq_true rfl) (Nat.le_of_ble_eq_true rfl) (by decide +kernel) (by decide +kernel) (by decide +kernel) (Nat.le_of_ble_eq_true rfl) (fun q1 w1 H locs hPo hP hD hS => ?_)
  obtain ⟨ad1, e1, f1⟩ := hPo
  have hP : va_P D vwCl ((h0, .inr (0, [.int 0, .null, .null, .int 0, .null])) :: w1) H := hP
  have hD : va_D A ((h0, .inr (0, [.int 0, .null, .null, .int 0, .null])) :: w1) := hD
  refine W.widen (k := 2) (n := 40) (Nat.le_of_ble_eq_true rfl) (Nat.le_of_ble_eq_true rfl) ?_
  refine g_putF (k := 0) (j := 1) X hin rfl wsi_0 tyX0_ok nmX0 hP hD hS (by decide) fi_0_1 rfl rfl rfl rfl (Nat.le_of_ble_eq_true rfl) (by decide +kernel) (fun H locs hP hD hS => ?_)
  have hP : va_P D vwCl ((h0, .inr (0, [.int 0, .ref q1, .null, .int 0, .null])) :: w1) H := hP
  have hD : va_D A ((h0, .inr (0, [.int 0, .ref q1, .null, .int 0, .null])) :: w1) := hD
  refine lv_aload_n (k := 0) (i := 0) X.1 X.2.1 (by decide +kernel) rfl (lv_at hl 0 rfl) ?_
  refine g_newo (k := 9) (q0 := h0) X hA hP hD hS hl.1 rfl wsi_9 tyX9_ok (fs0 := [.null, .null, .int 0, .int 0, .int 0]) (fun j hj => by rcases (show j = 0 ∨ j = 1 ∨ j = 2 ∨ j = 3 ∨ j = 4 by omega) with rfl | rfl | rfl | rfl | rfl <;> rfl) kk_0_18 it_9 id_9 (c_X9 (D := D) (cA := cA) (l := l) (i + 5)) cei_9 rfl imi_9 mi_0_20 ⟨Nat.le_of_ble_eq_true rfl, Nat.le_of_ble_eq_true rfl⟩ (Nat.le_of_ble_eq_true rfl) (Nat.le_of_ble_eq_true rfl) (by decide +kernel) (by decide +kernel) (by decide +kernel) (Nat.le_of_ble_eq_true rfl) (fun q2 w2 H locs hPo hP hD hS => ?_)
  obtain ⟨ad2, e2, f2⟩ := hPo
  have hP : va_P D vwCl ((h0, .inr (0, [.int 0, .ref q1, .null, .int 0, .null])) :: (w1 ++ w2)) H := hP
  have hD : va_D A ((h0, .inr (0, [.int 0, .ref q1, .null, .int 0, .null])) :: (w1 ++ w2)) := hD
  refine W.widen (k := 5) (n := 105) (Nat.le_of_ble_eq_true rfl) (Nat.le_of_ble_eq_true rfl) ?_
  refine g_putF (k := 0) (j := 2) X hin rfl wsi_0 tyX0_ok nmX0 hP hD hS (by decide) fi_0_2 rfl rfl rfl rfl (Nat.le_of_ble_eq_true rfl) (by decide +kernel) (fun H locs hP hD hS => ?_)
  have hP : va_P D vwCl ((h0, .inr (0, [.int 0, .ref q1, .ref q2, .int 0, .null])) :: (w1 ++ w2)) H := hP
  have hD : va_D A ((h0, .inr (0, [.int 0, .ref q1, .ref q2, .int 0, .null])) :: (w1 ++ w2)) := hD
  refine lv_aload_n (k := 0) (i := 0) X.1 X.2.1 (by decide +kernel) rfl (lv_at hl 0 rfl) ?_
  refine lv_bipush (n := 6) (v := 6) X.1 X.2.1 (by decide +kernel) (by decide) ?_
  refine g_newa X arI hA hP hD hS (by decide) rfl (Nat.le_of_ble_eq_true rfl) (Nat.le_of_ble_eq_true rfl) (Nat.le_of_ble_eq_true rfl) (by decide +kernel) (fun q3 H hP hD hS => ?_)
  have hP : va_P D vwCl ((h0, .inr (0, [.int 0, .ref q1, .ref q2, .int 0, .null])) :: ((w1 ++ w2) ++ [(q3, .inl (cA 0, 6, .inl (fun _ => 0)))])) H := hP
  have hD : va_D A ((h0, .inr (0, [.int 0, .ref q1, .ref q2, .int 0, .null])) :: ((w1 ++ w2) ++ [(q3, .inl (cA 0, 6, .inl (fun _ => 0)))])) := hD
  refine W.widen (k := 6) (n := 111) (Nat.le_of_ble_eq_true rfl) (Nat.le_of_ble_eq_true rfl) ?_
  refine g_putF (k := 0) (j := 4) X hin rfl wsi_0 tyX0_ok nmX0 hP hD hS (by decide) fi_0_4 rfl rfl rfl rfl (Nat.le_of_ble_eq_true rfl) (by decide +kernel) (fun H locs hP hD hS => ?_)
  have hP : va_P D vwCl ((h0, .inr (0, [.int 0, .ref q1, .ref q2, .int 0, .ref q3])) :: ((w1 ++ w2) ++ [(q3, .inl (cA 0, 6, .inl (fun _ => 0)))])) H := hP
  have hD : va_D A ((h0, .inr (0, [.int 0, .ref q1, .ref q2, .int 0, .ref q3])) :: ((w1 ++ w2) ++ [(q3, .inl (cA 0, 6, .inl (fun _ => 0)))])) := hD
  refine kr _ _ _ _ _ (by decide +kernel) ⟨fun k j => if k = 0 then h0 else if k = 8 ∨ k = 1512 then ad1 k j else if k = 9 ∨ k = 1576 ∨ k = 1577 then ad2 k j else q3, rfl, ?_⟩ hP hD hS
  subst e1 f1 e2 f2
  simp only [wsO, csSh, csSk, csLt, csAct, csCav, List.map_cons, List.map_nil, List.map_append, List.cons_append, List.nil_append]
  rfl
set_option maxHeartbeats 4000000 in
set_option maxRecDepth 100000 in
theorem c_X3 {D : va_G} {cA : Nat → ClassId} {l : Launch} (i : Nat) : MetC D cA l yi_3 prog_5_method_1_code 1 3 [.null, .null, .null, .null, .null, .int 0, .int 0, .int 0, .int 0, .int 0] 2 13 201 (PostK cA 3 i (csCav i)) := by
  refine MetC_of (by decide) rfl (by decide) (fun p e s m args below meth c h0 A ls Q X hin hA hl hP hD kr => ?_)
  have hS : va_S A s.heap s.heap [] := va_S.rf
  refine g_init X hl mi_3_3 obI obC (by decide +kernel) (by decide +kernel) (Nat.le_of_ble_eq_true rfl) (Nat.le_of_ble_eq_true rfl) ?_
  refine lv_aload_n (k := 0) (i := 0) X.1 X.2.1 (by decide +kernel) rfl (lv_at hl 0 rfl) ?_
  refine g_newo (k := 8) (q0 := h0) X hA hP hD hS hl.1 rfl wsi_8 tyX8_ok (fs0 := [.null, .int 0, .int 0, .int 0, .int 0, .int 0, .int 0, .int 0, .int 0, .int 0]) (fun j hj => by rcases (show j = 0 ∨ j = 1 ∨ j = 2 ∨ j = 3 ∨ j = 4 ∨ j = 5 ∨ j = 6 ∨ j = 7 ∨ j = 8 ∨ j = 9 by omega) with rfl | rfl | rfl | rfl | rfl | rfl | rfl | rfl | rfl | rfl <;> rfl) kk_3_9 it_8 id_8 (c_X8 (D := D) (cA := cA) (l := l) i) cei_8 rfl imi_8 mi_3_11 ⟨Nat.le_of_ble_eq_true rfl, Nat.le_of_ble_eq_true rfl⟩ (Nat.le_of_ble_eq_true rfl) (Nat.le_of_ble_eq_true rfl) (by decide +kernel) (by decide +kernel) (by decide +kernel) (Nat.le_of_ble_eq_true rfl) (fun q1 w1 H locs hPo hP hD hS => ?_)
  obtain ⟨ad1, e1, f1⟩ := hPo
  have hP : va_P D vwCl ((h0, .inr (3, [.null, .null, .null, .null, .null, .int 0, .int 0, .int 0, .int 0, .int 0])) :: w1) H := hP
  have hD : va_D A ((h0, .inr (3, [.null, .null, .null, .null, .null, .int 0, .int 0, .int 0, .int 0, .int 0])) :: w1) := hD
  refine W.widen (k := 2) (n := 40) (Nat.le_of_ble_eq_true rfl) (Nat.le_of_ble_eq_true rfl) ?_
  refine g_putF (k := 3) (j := 0) X hin rfl wsi_3 tyX3_ok nmX3 hP hD hS (by decide) fi_3_0 rfl rfl rfl rfl (Nat.le_of_ble_eq_true rfl) (by decide +kernel) (fun H locs hP hD hS => ?_)
  have hP : va_P D vwCl ((h0, .inr (3, [.ref q1, .null, .null, .null, .null, .int 0, .int 0, .int 0, .int 0, .int 0])) :: w1) H := hP
  have hD : va_D A ((h0, .inr (3, [.ref q1, .null, .null, .null, .null, .int 0, .int 0, .int 0, .int 0, .int 0])) :: w1) := hD
  refine lv_aload_n (k := 0) (i := 0) X.1 X.2.1 (by decide +kernel) rfl (lv_at hl 0 rfl) ?_
  refine g_newo (k := 9) (q0 := h0) X hA hP hD hS hl.1 rfl wsi_9 tyX9_ok (fs0 := [.null, .null, .int 0, .int 0, .int 0]) (fun j hj => by rcases (show j = 0 ∨ j = 1 ∨ j = 2 ∨ j = 3 ∨ j = 4 by omega) with rfl | rfl | rfl | rfl | rfl <;> rfl) kk_3_18 it_9 id_9 (c_X9 (D := D) (cA := cA) (l := l) i) cei_9 rfl imi_9 mi_3_20 ⟨Nat.le_of_ble_eq_true rfl, Nat.le_of_ble_eq_true rfl⟩ (Nat.le_of_ble_eq_true rfl) (Nat.le_of_ble_eq_true rfl) (by decide +kernel) (by decide +kernel) (by decide +kernel) (Nat.le_of_ble_eq_true rfl) (fun q2 w2 H locs hPo hP hD hS => ?_)
  obtain ⟨ad2, e2, f2⟩ := hPo
  have hP : va_P D vwCl ((h0, .inr (3, [.ref q1, .null, .null, .null, .null, .int 0, .int 0, .int 0, .int 0, .int 0])) :: (w1 ++ w2)) H := hP
  have hD : va_D A ((h0, .inr (3, [.ref q1, .null, .null, .null, .null, .int 0, .int 0, .int 0, .int 0, .int 0])) :: (w1 ++ w2)) := hD
  refine W.widen (k := 5) (n := 105) (Nat.le_of_ble_eq_true rfl) (Nat.le_of_ble_eq_true rfl) ?_
  refine g_putF (k := 3) (j := 1) X hin rfl wsi_3 tyX3_ok nmX3 hP hD hS (by decide) fi_3_1 rfl rfl rfl rfl (Nat.le_of_ble_eq_true rfl) (by decide +kernel) (fun H locs hP hD hS => ?_)
  have hP : va_P D vwCl ((h0, .inr (3, [.ref q1, .ref q2, .null, .null, .null, .int 0, .int 0, .int 0, .int 0, .int 0])) :: (w1 ++ w2)) H := hP
  have hD : va_D A ((h0, .inr (3, [.ref q1, .ref q2, .null, .null, .null, .int 0, .int 0, .int 0, .int 0, .int 0])) :: (w1 ++ w2)) := hD
  refine lv_aload_n (k := 0) (i := 0) X.1 X.2.1 (by decide +kernel) rfl (lv_at hl 0 rfl) ?_
  refine g_newo (k := 4) (q0 := h0) X hA hP hD hS hl.1 rfl wsi_4 tyX4_ok (fs0 := [.null, .null, .null, .null, .null, .int 0]) (fun j hj => by rcases (show j = 0 ∨ j = 1 ∨ j = 2 ∨ j = 3 ∨ j = 4 ∨ j = 5 by omega) with rfl | rfl | rfl | rfl | rfl | rfl <;> rfl) kk_3_25 it_4 id_4 (c_X4 (D := D) (cA := cA) (l := l) i) cei_4 rfl imi_4 mi_3_27 ⟨Nat.le_of_ble_eq_true rfl, Nat.le_of_ble_eq_true rfl⟩ (Nat.le_of_ble_eq_true rfl) (Nat.le_of_ble_eq_true rfl) (by decide +kernel) (by decide +kernel) (by decide +kernel) (Nat.le_of_ble_eq_true rfl) (fun q3 w3 H locs hPo hP hD hS => ?_)
  obtain ⟨ad3, e3, f3⟩ := hPo
  have hP : va_P D vwCl ((h0, .inr (3, [.ref q1, .ref q2, .null, .null, .null, .int 0, .int 0, .int 0, .int 0, .int 0])) :: ((w1 ++ w2) ++ w3)) H := hP
  have hD : va_D A ((h0, .inr (3, [.ref q1, .ref q2, .null, .null, .null, .int 0, .int 0, .int 0, .int 0, .int 0])) :: ((w1 ++ w2) ++ w3)) := hD
  refine W.widen (k := 11) (n := 141) (Nat.le_of_ble_eq_true rfl) (Nat.le_of_ble_eq_true rfl) ?_
  refine g_putF (k := 3) (j := 2) X hin rfl wsi_3 tyX3_ok nmX3 hP hD hS (by decide) fi_3_2 rfl rfl rfl rfl (Nat.le_of_ble_eq_true rfl) (by decide +kernel) (fun H locs hP hD hS => ?_)
  have hP : va_P D vwCl ((h0, .inr (3, [.ref q1, .ref q2, .ref q3, .null, .null, .int 0, .int 0, .int 0, .int 0, .int 0])) :: ((w1 ++ w2) ++ w3)) H := hP
  have hD : va_D A ((h0, .inr (3, [.ref q1, .ref q2, .ref q3, .null, .null, .int 0, .int 0, .int 0, .int 0, .int 0])) :: ((w1 ++ w2) ++ w3)) := hD
  refine lv_aload_n (k := 0) (i := 0) X.1 X.2.1 (by decide +kernel) rfl (lv_at hl 0 rfl) ?_
  refine lv_bipush (n := 30) (v := 30) X.1 X.2.1 (by decide +kernel) (by decide) ?_
  refine g_newz X arZ hA hP hD hS (by decide) rfl (Nat.le_of_ble_eq_true rfl) (Nat.le_of_ble_eq_true rfl) (Nat.le_of_ble_eq_true rfl) (by decide +kernel) (fun q4 H hP hD hS => ?_)
  have hP : va_P D vwCl ((h0, .inr (3, [.ref q1, .ref q2, .ref q3, .null, .null, .int 0, .int 0, .int 0, .int 0, .int 0])) :: (((w1 ++ w2) ++ w3) ++ [(q4, .inl (cA 1, 30, .inl (fun _ => 0)))])) H := hP
  have hD : va_D A ((h0, .inr (3, [.ref q1, .ref q2, .ref q3, .null, .null, .int 0, .int 0, .int 0, .int 0, .int 0])) :: (((w1 ++ w2) ++ w3) ++ [(q4, .inl (cA 1, 30, .inl (fun _ => 0)))])) := hD
  refine W.widen (k := 12) (n := 171) (Nat.le_of_ble_eq_true rfl) (Nat.le_of_ble_eq_true rfl) ?_
  refine g_putF (k := 3) (j := 3) X hin rfl wsi_3 tyX3_ok nmX3 hP hD hS (by decide) fi_3_3 rfl rfl rfl rfl (Nat.le_of_ble_eq_true rfl) (by decide +kernel) (fun H locs hP hD hS => ?_)
  have hP : va_P D vwCl ((h0, .inr (3, [.ref q1, .ref q2, .ref q3, .ref q4, .null, .int 0, .int 0, .int 0, .int 0, .int 0])) :: (((w1 ++ w2) ++ w3) ++ [(q4, .inl (cA 1, 30, .inl (fun _ => 0)))])) H := hP
  have hD : va_D A ((h0, .inr (3, [.ref q1, .ref q2, .ref q3, .ref q4, .null, .int 0, .int 0, .int 0, .int 0, .int 0])) :: (((w1 ++ w2) ++ w3) ++ [(q4, .inl (cA 1, 30, .inl (fun _ => 0)))])) := hD
  refine lv_aload_n (k := 0) (i := 0) X.1 X.2.1 (by decide +kernel) rfl (lv_at hl 0 rfl) ?_
  refine lv_bipush (n := 30) (v := 30) X.1 X.2.1 (by decide +kernel) (by decide) ?_
  refine g_newa X arI hA hP hD hS (by decide) rfl (Nat.le_of_ble_eq_true rfl) (Nat.le_of_ble_eq_true rfl) (Nat.le_of_ble_eq_true rfl) (by decide +kernel) (fun q5 H hP hD hS => ?_)
  have hP : va_P D vwCl ((h0, .inr (3, [.ref q1, .ref q2, .ref q3, .ref q4, .null, .int 0, .int 0, .int 0, .int 0, .int 0])) :: ((((w1 ++ w2) ++ w3) ++ [(q4, .inl (cA 1, 30, .inl (fun _ => 0)))]) ++ [(q5, .inl (cA 0, 30, .inl (fun _ => 0)))])) H := hP
  have hD : va_D A ((h0, .inr (3, [.ref q1, .ref q2, .ref q3, .ref q4, .null, .int 0, .int 0, .int 0, .int 0, .int 0])) :: ((((w1 ++ w2) ++ w3) ++ [(q4, .inl (cA 1, 30, .inl (fun _ => 0)))]) ++ [(q5, .inl (cA 0, 30, .inl (fun _ => 0)))])) := hD
  refine W.widen (k := 13) (n := 201) (Nat.le_of_ble_eq_true rfl) (Nat.le_of_ble_eq_true rfl) ?_
  refine g_putF (k := 3) (j := 4) X hin rfl wsi_3 tyX3_ok nmX3 hP hD hS (by decide) fi_3_4 rfl rfl rfl rfl (Nat.le_of_ble_eq_true rfl) (by decide +kernel) (fun H locs hP hD hS => ?_)
  have hP : va_P D vwCl ((h0, .inr (3, [.ref q1, .ref q2, .ref q3, .ref q4, .ref q5, .int 0, .int 0, .int 0, .int 0, .int 0])) :: ((((w1 ++ w2) ++ w3) ++ [(q4, .inl (cA 1, 30, .inl (fun _ => 0)))]) ++ [(q5, .inl (cA 0, 30, .inl (fun _ => 0)))])) H := hP
  have hD : va_D A ((h0, .inr (3, [.ref q1, .ref q2, .ref q3, .ref q4, .ref q5, .int 0, .int 0, .int 0, .int 0, .int 0])) :: ((((w1 ++ w2) ++ w3) ++ [(q4, .inl (cA 1, 30, .inl (fun _ => 0)))]) ++ [(q5, .inl (cA 0, 30, .inl (fun _ => 0)))])) := hD
  refine kr _ _ _ _ _ (by decide +kernel) ⟨fun k j => if k = 3 then h0 else if k = 8 ∨ k = 1512 then ad1 k j else if k = 9 ∨ k = 1576 ∨ k = 1577 then ad2 k j else if k = 4 ∨ k = 1256 ∨ k = 1257 ∨ k = 1258 ∨ k = 1259 ∨ k = 1260 then ad3 k j else if k = 1195 then q4 else q5, rfl, ?_⟩ hP hD hS
  subst e1 f1 e2 f2 e3 f3
  simp only [wsO, csSh, csSk, csLt, csAct, csCav, List.map_cons, List.map_nil, List.map_append, List.cons_append, List.nil_append]
  rfl
