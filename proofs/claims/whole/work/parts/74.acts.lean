/-! THE CONSTRUCTORS WITH LOOPS (printed by wip/gen7.py) -/
theorem ext_sh {cA : Nat → ClassId} {ad ad' : Nat → Nat → Nat} (i : Nat) (h : ∀ k j, (k, j) ∈ [(8, i), (1512, i)] → ad k j = ad' k j) : wsO cA ad (csSh i) S0 = wsO cA ad' (csSh i) S0 := by
  have h0 := h 8 i (by simp)
  have h1 := h 1512 i (by simp)
  simp only [wsO, csSh, csSk, csLt, csAct, csCav, List.map_cons, List.map_nil, List.map_append, List.cons_append, List.nil_append]
  show ([(ad 8 i, .inr (8, [.ref (ad 1512 i), .int (S0 513 i 0), .int (S0 514 i 0), .int (S0 515 i 0), .int (S0 516 i 0), .int (S0 517 i 0), .int (S0 518 i 0), .int (S0 519 i 0), .int (S0 520 i 0), .int (S0 521 i 0)])), (ad 1512 i, .inl (cA 0, 30, .inl (fun j => S0 512 i j)))] : va_W) = ([(ad' 8 i, .inr (8, [.ref (ad' 1512 i), .int (S0 513 i 0), .int (S0 514 i 0), .int (S0 515 i 0), .int (S0 516 i 0), .int (S0 517 i 0), .int (S0 518 i 0), .int (S0 519 i 0), .int (S0 520 i 0), .int (S0 521 i 0)])), (ad' 1512 i, .inl (cA 0, 30, .inl (fun j => S0 512 i j)))] : va_W)
  rw [h0, h1]
theorem ext_sk {cA : Nat → ClassId} {ad ad' : Nat → Nat → Nat} (i : Nat) (h : ∀ k j, (k, j) ∈ [(9, i), (1576, i), (1577, i)] → ad k j = ad' k j) : wsO cA ad (csSk i) S0 = wsO cA ad' (csSk i) S0 := by
  have h0 := h 9 i (by simp)
  have h1 := h 1576 i (by simp)
  have h2 := h 1577 i (by simp)
  simp only [wsO, csSh, csSk, csLt, csAct, csCav, List.map_cons, List.map_nil, List.map_append, List.cons_append, List.nil_append]
  show ([(ad 9 i, .inr (9, [.ref (ad 1576 i), .ref (ad 1577 i), .int (S0 578 i 0), .int (S0 579 i 0), .int (S0 580 i 0)])), (ad 1576 i, .inl (cA 0, 30, .inl (fun j => S0 576 i j))), (ad 1577 i, .inl (cA 0, 30, .inl (fun j => S0 577 i j)))] : va_W) = ([(ad' 9 i, .inr (9, [.ref (ad' 1576 i), .ref (ad' 1577 i), .int (S0 578 i 0), .int (S0 579 i 0), .int (S0 580 i 0)])), (ad' 1576 i, .inl (cA 0, 30, .inl (fun j => S0 576 i j))), (ad' 1577 i, .inl (cA 0, 30, .inl (fun j => S0 577 i j)))] : va_W)
  rw [h0, h1, h2]
theorem ext_act {cA : Nat → ClassId} {ad ad' : Nat → Nat → Nat} (i : Nat) (h : ∀ k j, (k, j) ∈ [(0, i), (8, (i + 12)), (1512, (i + 12)), (9, (i + 5)), (1576, (i + 5)), (1577, (i + 5)), (1004, i)] → ad k j = ad' k j) : wsO cA ad (csAct i) S0 = wsO cA ad' (csAct i) S0 := by
  have h0 := h 0 i (by simp)
  have h1 := h 8 (i + 12) (by simp)
  have h2 := h 1512 (i + 12) (by simp)
  have h3 := h 9 (i + 5) (by simp)
  have h4 := h 1576 (i + 5) (by simp)
  have h5 := h 1577 (i + 5) (by simp)
  have h6 := h 1004 i (by simp)
  simp only [wsO, csSh, csSk, csLt, csAct, csCav, List.map_cons, List.map_nil, List.map_append, List.cons_append, List.nil_append]
  show ([(ad 0 i, .inr (0, [.int (S0 0 i 0), .ref (ad 8 (i + 12)), .ref (ad 9 (i + 5)), .int (S0 3 i 0), .ref (ad 1004 i)])), (ad 8 (i + 12), .inr (8, [.ref (ad 1512 (i + 12)), .int (S0 513 (i + 12) 0), .int (S0 514 (i + 12) 0), .int (S0 515 (i + 12) 0), .int (S0 516 (i + 12) 0), .int (S0 517 (i + 12) 0), .int (S0 518 (i + 12) 0), .int (S0 519 (i + 12) 0), .int (S0 520 (i + 12) 0), .int (S0 521 (i + 12) 0)])), (ad 1512 (i + 12), .inl (cA 0, 30, .inl (fun j => S0 512 (i + 12) j))), (ad 9 (i + 5), .inr (9, [.ref (ad 1576 (i + 5)), .ref (ad 1577 (i + 5)), .int (S0 578 (i + 5) 0), .int (S0 579 (i + 5) 0), .int (S0 580 (i + 5) 0)])), (ad 1576 (i + 5), .inl (cA 0, 30, .inl (fun j => S0 576 (i + 5) j))), (ad 1577 (i + 5), .inl (cA 0, 30, .inl (fun j => S0 577 (i + 5) j))), (ad 1004 i, .inl (cA 0, 6, .inl (fun j => S0 4 i j)))] : va_W) = ([(ad' 0 i, .inr (0, [.int (S0 0 i 0), .ref (ad' 8 (i + 12)), .ref (ad' 9 (i + 5)), .int (S0 3 i 0), .ref (ad' 1004 i)])), (ad' 8 (i + 12), .inr (8, [.ref (ad' 1512 (i + 12)), .int (S0 513 (i + 12) 0), .int (S0 514 (i + 12) 0), .int (S0 515 (i + 12) 0), .int (S0 516 (i + 12) 0), .int (S0 517 (i + 12) 0), .int (S0 518 (i + 12) 0), .int (S0 519 (i + 12) 0), .int (S0 520 (i + 12) 0), .int (S0 521 (i + 12) 0)])), (ad' 1512 (i + 12), .inl (cA 0, 30, .inl (fun j => S0 512 (i + 12) j))), (ad' 9 (i + 5), .inr (9, [.ref (ad' 1576 (i + 5)), .ref (ad' 1577 (i + 5)), .int (S0 578 (i + 5) 0), .int (S0 579 (i + 5) 0), .int (S0 580 (i + 5) 0)])), (ad' 1576 (i + 5), .inl (cA 0, 30, .inl (fun j => S0 576 (i + 5) j))), (ad' 1577 (i + 5), .inl (cA 0, 30, .inl (fun j => S0 577 (i + 5) j))), (ad' 1004 i, .inl (cA 0, 6, .inl (fun j => S0 4 i j)))] : va_W)
  rw [h0, h1, h2, h3, h4, h5, h6]
theorem ext_cav {cA : Nat → ClassId} {ad ad' : Nat → Nat → Nat} (i : Nat) (h : ∀ k j, (k, j) ∈ [(3, i), (8, i), (1512, i), (9, i), (1576, i), (1577, i), (4, i), (1256, i), (1257, i), (1258, i), (1259, i), (1260, i), (1195, i), (1196, i)] → ad k j = ad' k j) : wsO cA ad (csCav i) S0 = wsO cA ad' (csCav i) S0 := by
  have h0 := h 3 i (by simp)
  have h1 := h 8 i (by simp)
  have h2 := h 1512 i (by simp)
  have h3 := h 9 i (by simp)
  have h4 := h 1576 i (by simp)
  have h5 := h 1577 i (by simp)
  have h6 := h 4 i (by simp)
  have h7 := h 1256 i (by simp)
  have h8 := h 1257 i (by simp)
  have h9 := h 1258 i (by simp)
  have h10 := h 1259 i (by simp)
  have h11 := h 1260 i (by simp)
  have h12 := h 1195 i (by simp)
  have h13 := h 1196 i (by simp)
  simp only [wsO, csSh, csSk, csLt, csAct, csCav, List.map_cons, List.map_nil, List.map_append, List.cons_append, List.nil_append]
  show ([(ad 3 i, .inr (3, [.ref (ad 8 i), .ref (ad 9 i), .ref (ad 4 i), .ref (ad 1195 i), .ref (ad 1196 i), .int (S0 197 i 0), .int (S0 198 i 0), .int (S0 199 i 0), .int (S0 200 i 0), .int (S0 201 i 0)])), (ad 8 i, .inr (8, [.ref (ad 1512 i), .int (S0 513 i 0), .int (S0 514 i 0), .int (S0 515 i 0), .int (S0 516 i 0), .int (S0 517 i 0), .int (S0 518 i 0), .int (S0 519 i 0), .int (S0 520 i 0), .int (S0 521 i 0)])), (ad 1512 i, .inl (cA 0, 30, .inl (fun j => S0 512 i j))), (ad 9 i, .inr (9, [.ref (ad 1576 i), .ref (ad 1577 i), .int (S0 578 i 0), .int (S0 579 i 0), .int (S0 580 i 0)])), (ad 1576 i, .inl (cA 0, 30, .inl (fun j => S0 576 i j))), (ad 1577 i, .inl (cA 0, 30, .inl (fun j => S0 577 i j))), (ad 4 i, .inr (4, [.ref (ad 1256 i), .ref (ad 1257 i), .ref (ad 1258 i), .ref (ad 1259 i), .ref (ad 1260 i), .int (S0 261 i 0)])), (ad 1256 i, .inl (cA 0, 6, .inl (fun j => S0 256 i j))), (ad 1257 i, .inl (cA 0, 6, .inl (fun j => S0 257 i j))), (ad 1258 i, .inl (cA 0, 6, .inl (fun j => S0 258 i j))), (ad 1259 i, .inl (cA 0, 6, .inl (fun j => S0 259 i j))), (ad 1260 i, .inl (cA 0, 6, .inl (fun j => S0 260 i j))), (ad 1195 i, .inl (cA 1, 30, .inl (fun j => S0 195 i j))), (ad 1196 i, .inl (cA 0, 30, .inl (fun j => S0 196 i j)))] : va_W) = ([(ad' 3 i, .inr (3, [.ref (ad' 8 i), .ref (ad' 9 i), .ref (ad' 4 i), .ref (ad' 1195 i), .ref (ad' 1196 i), .int (S0 197 i 0), .int (S0 198 i 0), .int (S0 199 i 0), .int (S0 200 i 0), .int (S0 201 i 0)])), (ad' 8 i, .inr (8, [.ref (ad' 1512 i), .int (S0 513 i 0), .int (S0 514 i 0), .int (S0 515 i 0), .int (S0 516 i 0), .int (S0 517 i 0), .int (S0 518 i 0), .int (S0 519 i 0), .int (S0 520 i 0), .int (S0 521 i 0)])), (ad' 1512 i, .inl (cA 0, 30, .inl (fun j => S0 512 i j))), (ad' 9 i, .inr (9, [.ref (ad' 1576 i), .ref (ad' 1577 i), .int (S0 578 i 0), .int (S0 579 i 0), .int (S0 580 i 0)])), (ad' 1576 i, .inl (cA 0, 30, .inl (fun j => S0 576 i j))), (ad' 1577 i, .inl (cA 0, 30, .inl (fun j => S0 577 i j))), (ad' 4 i, .inr (4, [.ref (ad' 1256 i), .ref (ad' 1257 i), .ref (ad' 1258 i), .ref (ad' 1259 i), .ref (ad' 1260 i), .int (S0 261 i 0)])), (ad' 1256 i, .inl (cA 0, 6, .inl (fun j => S0 256 i j))), (ad' 1257 i, .inl (cA 0, 6, .inl (fun j => S0 257 i j))), (ad' 1258 i, .inl (cA 0, 6, .inl (fun j => S0 258 i j))), (ad' 1259 i, .inl (cA 0, 6, .inl (fun j => S0 259 i j))), (ad' 1260 i, .inl (cA 0, 6, .inl (fun j => S0 260 i j))), (ad' 1195 i, .inl (cA 1, 30, .inl (fun j => S0 195 i j))), (ad' 1196 i, .inl (cA 0, 30, .inl (fun j => S0 196 i j)))] : va_W)
  rw [h0, h1, h2, h3, h4, h5, h6, h7, h8, h9, h10, h11, h12, h13]
def csActs : List (Nat × Nat) := [(1, 0)] ++ (1064, 0) :: ([] ++ catC csAct 200)
def csPn : List (Nat × Nat) := [(5, 0), (1320, 0), (1321, 0), (1322, 0), (1323, 0)] ++ (1325, 0) :: ([(1326, 0), (1327, 0)] ++ catC (fun y => csSh (y + 6)) 6)
def actN (k j : Nat) : Nat := if k = 8 ∨ k = 1512 then j - 12 else if k = 9 ∨ k = 1576 ∨ k = 1577 then j - 5 else j
theorem none_0 (vs : Nat → Nat) : (fun _ : Nat => (none : Option Nat)) = fun j => if j < 0 then some (vs j) else none := by
  funext j
  rw [if_neg (by omega)]
set_option maxHeartbeats 4000000 in
set_option maxRecDepth 100000 in
theorem c_X1 {D : va_G} {cA : Nat → ClassId} {l : Launch} : MetC D cA l yi_1 prog_3_method_1_code 2 1 [.null, .int 0, .int 0] 3 1401 23400 (PostK cA 1 0 csActs) := by
  refine MetC_of (by decide) rfl (by decide) (fun p e s m args below meth c h0 A ls Q X hin hA hl hP hD kr => ?_)
  have hS : va_S A s.heap s.heap [] := va_S.rf
  refine g_init X hl mi_1_3 obI obC (by decide +kernel) (by decide +kernel) (Nat.le_of_ble_eq_true rfl) (Nat.le_of_ble_eq_true rfl) ?_
  refine lv_aload_n (k := 0) (i := 0) X.1 X.2.1 (by decide +kernel) rfl (lv_at hl 0 rfl) ?_
  refine lv_sipush (n := 200) (v := 200) X.1 X.2.1 (by decide +kernel) (by decide) ?_
  refine g_newq (k := 2) X rfl X.2.2.2.2.2.2.2.1 kk_1_9 hA hP hD hS (by decide) rfl (Nat.le_of_ble_eq_true rfl) (Nat.le_of_ble_eq_true rfl) (Nat.le_of_ble_eq_true rfl) (by decide +kernel) (fun q1 H hP hD hS => ?_)
  have hP : va_P D vwCl ((h0, .inr (1, [.null, .int 0, .int 0])) :: [(q1, .inl (cA 2, 200, .inr (.inr (.inr (.inr (fun _ => none))))))]) H := hP
  have hD : va_D A ((h0, .inr (1, [.null, .int 0, .int 0])) :: [(q1, .inl (cA 2, 200, .inr (.inr (.inr (.inr (fun _ => none))))))]) := hD
  refine W.widen (k := 1) (n := 200) (Nat.le_of_ble_eq_true rfl) (Nat.le_of_ble_eq_true rfl) ?_
  refine g_putF (k := 1) (j := 0) X hin rfl wsi_1 tyX1_ok nmX1 hP hD hS (by decide) fi_1_0 rfl rfl rfl rfl (Nat.le_of_ble_eq_true rfl) (by decide +kernel) (fun H locs hP hD hS => ?_)
  have hP : va_P D vwCl ((h0, .inr (1, [.ref q1, .int 0, .int 0])) :: [(q1, .inl (cA 2, 200, .inr (.inr (.inr (.inr (fun _ => none))))))]) H := hP
  have hD : va_D A ((h0, .inr (1, [.ref q1, .int 0, .int 0])) :: [(q1, .inl (cA 2, 200, .inr (.inr (.inr (.inr (fun _ => none))))))]) := hD
  refine lv_iconst (n := 0) (v := iI ((0 : Nat) : Int)) X.1 X.2.1 (by decide +kernel) (by decide) ?_
  refine lv_istore_n (k := 1) (i := 1) (lv' := [(1, .int (iI ((0 : Nat) : Int))), (0, .ref h0)]) X.1 X.2.1 (by decide +kernel) rfl hl (by decide) rfl (fun ls hl => ?_)
  rw [none_0 (fun _ => 0)] at hP hD
  refine mk_loop (k := 1) (j := 0) (t := 0) (ka := 2) (n := 200) (c0 := 1) (s0 := 200) (pcB := 23) (pc0 := 16) (pcE := 42) (wa := []) (wb := []) (Post := fun i => PostK cA 0 i (csAct i)) (off := -23) X hA rfl wsi_1 (by decide) fi_1_0 rfl rfl rfl wsi_0 tyX0_ok (fun j hj => by rcases (show j = 0 ∨ j = 1 ∨ j = 2 ∨ j = 3 ∨ j = 4 by omega) with rfl | rfl | rfl | rfl | rfl <;> rfl) kk_1_9 it_0 id_0 (fun i => c_X0 i) (fun i q w h => postK_hd (by decide) h) cei_0 rfl imi_0 mi_1_17 ⟨Nat.le_of_ble_eq_true rfl, Nat.le_of_ble_eq_true rfl⟩ (Nat.le_of_ble_eq_true rfl) (Nat.le_of_ble_eq_true rfl) (by decide) (by decide +kernel) (by decide +kernel) (by decide +kernel) (by decide +kernel) (by decide +kernel) (by decide +kernel) (by decide +kernel) (by decide +kernel) (by decide +kernel) (by decide) (fun H locs cells slots ls i hi hl kk => by
    refine lv_iload_n (k := 1) (i := 1) X.1 X.2.1 (by decide +kernel) rfl (lv_at hl 0 rfl) ?_
    refine lv_sipush (n := 200) (v := iI 200) X.1 X.2.1 (by decide +kernel) (by decide) ?_
    refine lv_icmp_ge (off := 22) (tgt := 42) X.1 X.2.1 (by decide +kernel) (by decide) (fun h => ?_) (fun h => ?_)
    · have h := (iI_le (by omega) (by omega)).mp h
      rw [if_neg (by omega)] at kk
      exact kk
    · have h : ¬ _ := fun q => h ((iI_le (by omega) (by omega)).mpr q)
      rw [if_pos (by omega)] at kk
      exact kk) (fun H locs ls vs wy hy hP hD hS => by
    obtain ⟨AD, hAD⟩ := all_ad (off := 0) (cs := csAct) hy
    obtain ⟨Z, hZ⟩ : ∃ Z : Nat → Nat → Nat, Z = fun k j => if k = 1 then h0 else if k = 1064 then q1 else AD (actN k j) k j := ⟨_, rfl⟩
    refine kr _ _ _ _ _ (by decide +kernel) ⟨Z, by rw [hZ]; rfl, ?_⟩ (P_row hP (g := fun j => some (AD j 0 j)) (fun j hj => by rw [if_pos hj]; exact congrArg some (hAD j hj).1.symm)) (D_mid hD) hS
    have e : catN wy 200 = wsO cA Z (catC csAct 200) S0 := by
      rw [wsO_cat]
      refine catN_congr 200 (fun y hy2 => ?_)
      rw [(hAD y hy2).2]
      refine ext_act y (fun k j h => ?_)
      rw [hZ]
      simp only [List.mem_cons, List.not_mem_nil, or_false, Prod.mk.injEq] at h
      rcases h with ⟨rfl, rfl⟩ | ⟨rfl, rfl⟩ | ⟨rfl, rfl⟩ | ⟨rfl, rfl⟩ | ⟨rfl, rfl⟩ | ⟨rfl, rfl⟩ | ⟨rfl, rfl⟩ <;> simp [actN]
    rw [e, csActs]
    simp only [wsO_app, wsO_cons, List.nil_append]
    generalize wsO cA Z (catC csAct 200) S0 = T
    subst hZ
    rfl) 200 0 rfl H locs ls (fun _ => 0) (fun _ => []) (fun y hy => absurd hy (by omega)) hl hP hD hS
set_option maxHeartbeats 4000000 in
set_option maxRecDepth 100000 in
theorem c_X5 {D : va_G} {cA : Nat → ClassId} {l : Launch} : MetC D cA l yi_5 prog_7_method_1_code 2 5 [.null, .null, .null, .null, .int 0, .null, .null, .null, .int 0] 2 19 301 (PostK cA 5 0 csPn) := by
  refine MetC_of (by decide) rfl (by decide) (fun p e s m args below meth c h0 A ls Q X hin hA hl hP hD kr => ?_)
  have hS : va_S A s.heap s.heap [] := va_S.rf
  refine g_init X hl mi_5_3 obI obC (by decide +kernel) (by decide +kernel) (Nat.le_of_ble_eq_true rfl) (Nat.le_of_ble_eq_true rfl) ?_
  refine lv_aload_n (k := 0) (i := 0) X.1 X.2.1 (by decide +kernel) rfl (lv_at hl 0 rfl) ?_
  refine lv_bipush (n := 30) (v := 30) X.1 X.2.1 (by decide +kernel) (by decide) ?_
  refine g_newa X arI hA hP hD hS (by decide) rfl (Nat.le_of_ble_eq_true rfl) (Nat.le_of_ble_eq_true rfl) (Nat.le_of_ble_eq_true rfl) (by decide +kernel) (fun q1 H hP hD hS => ?_)
  have hP : va_P D vwCl ((h0, .inr (5, [.null, .null, .null, .null, .int 0, .null, .null, .null, .int 0])) :: [(q1, .inl (cA 0, 30, .inl (fun _ => 0)))]) H := hP
  have hD : va_D A ((h0, .inr (5, [.null, .null, .null, .null, .int 0, .null, .null, .null, .int 0])) :: [(q1, .inl (cA 0, 30, .inl (fun _ => 0)))]) := hD
  refine W.widen (k := 1) (n := 30) (Nat.le_of_ble_eq_true rfl) (Nat.le_of_ble_eq_true rfl) ?_
  refine g_putF (k := 5) (j := 0) X hin rfl wsi_5 tyX5_ok nmX5 hP hD hS (by decide) fi_5_0 rfl rfl rfl rfl (Nat.le_of_ble_eq_true rfl) (by decide +kernel) (fun H locs hP hD hS => ?_)
  have hP : va_P D vwCl ((h0, .inr (5, [.ref q1, .null, .null, .null, .int 0, .null, .null, .null, .int 0])) :: [(q1, .inl (cA 0, 30, .inl (fun _ => 0)))]) H := hP
  have hD : va_D A ((h0, .inr (5, [.ref q1, .null, .null, .null, .int 0, .null, .null, .null, .int 0])) :: [(q1, .inl (cA 0, 30, .inl (fun _ => 0)))]) := hD
  refine lv_aload_n (k := 0) (i := 0) X.1 X.2.1 (by decide +kernel) rfl (lv_at hl 0 rfl) ?_
  refine lv_iconst (n := 5) (v := 5) X.1 X.2.1 (by decide +kernel) (by decide) ?_
  refine g_newa X arI hA hP hD hS (by decide) rfl (Nat.le_of_ble_eq_true rfl) (Nat.le_of_ble_eq_true rfl) (Nat.le_of_ble_eq_true rfl) (by decide +kernel) (fun q2 H hP hD hS => ?_)
  have hP : va_P D vwCl ((h0, .inr (5, [.ref q1, .null, .null, .null, .int 0, .null, .null, .null, .int 0])) :: ([(q1, .inl (cA 0, 30, .inl (fun _ => 0)))] ++ [(q2, .inl (cA 0, 5, .inl (fun _ => 0)))])) H := hP
  have hD : va_D A ((h0, .inr (5, [.ref q1, .null, .null, .null, .int 0, .null, .null, .null, .int 0])) :: ([(q1, .inl (cA 0, 30, .inl (fun _ => 0)))] ++ [(q2, .inl (cA 0, 5, .inl (fun _ => 0)))])) := hD
  refine W.widen (k := 2) (n := 35) (Nat.le_of_ble_eq_true rfl) (Nat.le_of_ble_eq_true rfl) ?_
  refine g_putF (k := 5) (j := 1) X hin rfl wsi_5 tyX5_ok nmX5 hP hD hS (by decide) fi_5_1 rfl rfl rfl rfl (Nat.le_of_ble_eq_true rfl) (by decide +kernel) (fun H locs hP hD hS => ?_)
  have hP : va_P D vwCl ((h0, .inr (5, [.ref q1, .ref q2, .null, .null, .int 0, .null, .null, .null, .int 0])) :: ([(q1, .inl (cA 0, 30, .inl (fun _ => 0)))] ++ [(q2, .inl (cA 0, 5, .inl (fun _ => 0)))])) H := hP
  have hD : va_D A ((h0, .inr (5, [.ref q1, .ref q2, .null, .null, .int 0, .null, .null, .null, .int 0])) :: ([(q1, .inl (cA 0, 30, .inl (fun _ => 0)))] ++ [(q2, .inl (cA 0, 5, .inl (fun _ => 0)))])) := hD
  refine lv_aload_n (k := 0) (i := 0) X.1 X.2.1 (by decide +kernel) rfl (lv_at hl 0 rfl) ?_
  refine lv_iconst (n := 5) (v := 5) X.1 X.2.1 (by decide +kernel) (by decide) ?_
  refine g_newa X arI hA hP hD hS (by decide) rfl (Nat.le_of_ble_eq_true rfl) (Nat.le_of_ble_eq_true rfl) (Nat.le_of_ble_eq_true rfl) (by decide +kernel) (fun q3 H hP hD hS => ?_)
  have hP : va_P D vwCl ((h0, .inr (5, [.ref q1, .ref q2, .null, .null, .int 0, .null, .null, .null, .int 0])) :: (([(q1, .inl (cA 0, 30, .inl (fun _ => 0)))] ++ [(q2, .inl (cA 0, 5, .inl (fun _ => 0)))]) ++ [(q3, .inl (cA 0, 5, .inl (fun _ => 0)))])) H := hP
  have hD : va_D A ((h0, .inr (5, [.ref q1, .ref q2, .null, .null, .int 0, .null, .null, .null, .int 0])) :: (([(q1, .inl (cA 0, 30, .inl (fun _ => 0)))] ++ [(q2, .inl (cA 0, 5, .inl (fun _ => 0)))]) ++ [(q3, .inl (cA 0, 5, .inl (fun _ => 0)))])) := hD
  refine W.widen (k := 3) (n := 40) (Nat.le_of_ble_eq_true rfl) (Nat.le_of_ble_eq_true rfl) ?_
  refine g_putF (k := 5) (j := 2) X hin rfl wsi_5 tyX5_ok nmX5 hP hD hS (by decide) fi_5_2 rfl rfl rfl rfl (Nat.le_of_ble_eq_true rfl) (by decide +kernel) (fun H locs hP hD hS => ?_)
  have hP : va_P D vwCl ((h0, .inr (5, [.ref q1, .ref q2, .ref q3, .null, .int 0, .null, .null, .null, .int 0])) :: (([(q1, .inl (cA 0, 30, .inl (fun _ => 0)))] ++ [(q2, .inl (cA 0, 5, .inl (fun _ => 0)))]) ++ [(q3, .inl (cA 0, 5, .inl (fun _ => 0)))])) H := hP
  have hD : va_D A ((h0, .inr (5, [.ref q1, .ref q2, .ref q3, .null, .int 0, .null, .null, .null, .int 0])) :: (([(q1, .inl (cA 0, 30, .inl (fun _ => 0)))] ++ [(q2, .inl (cA 0, 5, .inl (fun _ => 0)))]) ++ [(q3, .inl (cA 0, 5, .inl (fun _ => 0)))])) := hD
  refine lv_aload_n (k := 0) (i := 0) X.1 X.2.1 (by decide +kernel) rfl (lv_at hl 0 rfl) ?_
  refine lv_iconst (n := 5) (v := 5) X.1 X.2.1 (by decide +kernel) (by decide) ?_
  refine g_newa X arI hA hP hD hS (by decide) rfl (Nat.le_of_ble_eq_true rfl) (Nat.le_of_ble_eq_true rfl) (Nat.le_of_ble_eq_true rfl) (by decide +kernel) (fun q4 H hP hD hS => ?_)
  have hP : va_P D vwCl ((h0, .inr (5, [.ref q1, .ref q2, .ref q3, .null, .int 0, .null, .null, .null, .int 0])) :: ((([(q1, .inl (cA 0, 30, .inl (fun _ => 0)))] ++ [(q2, .inl (cA 0, 5, .inl (fun _ => 0)))]) ++ [(q3, .inl (cA 0, 5, .inl (fun _ => 0)))]) ++ [(q4, .inl (cA 0, 5, .inl (fun _ => 0)))])) H := hP
  have hD : va_D A ((h0, .inr (5, [.ref q1, .ref q2, .ref q3, .null, .int 0, .null, .null, .null, .int 0])) :: ((([(q1, .inl (cA 0, 30, .inl (fun _ => 0)))] ++ [(q2, .inl (cA 0, 5, .inl (fun _ => 0)))]) ++ [(q3, .inl (cA 0, 5, .inl (fun _ => 0)))]) ++ [(q4, .inl (cA 0, 5, .inl (fun _ => 0)))])) := hD
  refine W.widen (k := 4) (n := 45) (Nat.le_of_ble_eq_true rfl) (Nat.le_of_ble_eq_true rfl) ?_
  refine g_putF (k := 5) (j := 3) X hin rfl wsi_5 tyX5_ok nmX5 hP hD hS (by decide) fi_5_3 rfl rfl rfl rfl (Nat.le_of_ble_eq_true rfl) (by decide +kernel) (fun H locs hP hD hS => ?_)
  have hP : va_P D vwCl ((h0, .inr (5, [.ref q1, .ref q2, .ref q3, .ref q4, .int 0, .null, .null, .null, .int 0])) :: ((([(q1, .inl (cA 0, 30, .inl (fun _ => 0)))] ++ [(q2, .inl (cA 0, 5, .inl (fun _ => 0)))]) ++ [(q3, .inl (cA 0, 5, .inl (fun _ => 0)))]) ++ [(q4, .inl (cA 0, 5, .inl (fun _ => 0)))])) H := hP
  have hD : va_D A ((h0, .inr (5, [.ref q1, .ref q2, .ref q3, .ref q4, .int 0, .null, .null, .null, .int 0])) :: ((([(q1, .inl (cA 0, 30, .inl (fun _ => 0)))] ++ [(q2, .inl (cA 0, 5, .inl (fun _ => 0)))]) ++ [(q3, .inl (cA 0, 5, .inl (fun _ => 0)))]) ++ [(q4, .inl (cA 0, 5, .inl (fun _ => 0)))])) := hD
  refine lv_aload_n (k := 0) (i := 0) X.1 X.2.1 (by decide +kernel) rfl (lv_at hl 0 rfl) ?_
  refine lv_bipush (n := 6) (v := 6) X.1 X.2.1 (by decide +kernel) (by decide) ?_
  refine g_newq (k := 4) X rfl X.2.2.2.2.2.2.2.2.2 kk_5_24 hA hP hD hS (by decide) rfl (Nat.le_of_ble_eq_true rfl) (Nat.le_of_ble_eq_true rfl) (Nat.le_of_ble_eq_true rfl) (by decide +kernel) (fun q5 H hP hD hS => ?_)
  have hP : va_P D vwCl ((h0, .inr (5, [.ref q1, .ref q2, .ref q3, .ref q4, .int 0, .null, .null, .null, .int 0])) :: (((([(q1, .inl (cA 0, 30, .inl (fun _ => 0)))] ++ [(q2, .inl (cA 0, 5, .inl (fun _ => 0)))]) ++ [(q3, .inl (cA 0, 5, .inl (fun _ => 0)))]) ++ [(q4, .inl (cA 0, 5, .inl (fun _ => 0)))]) ++ [(q5, .inl (cA 4, 6, .inr (.inr (.inr (.inr (fun _ => none))))))])) H := hP
  have hD : va_D A ((h0, .inr (5, [.ref q1, .ref q2, .ref q3, .ref q4, .int 0, .null, .null, .null, .int 0])) :: (((([(q1, .inl (cA 0, 30, .inl (fun _ => 0)))] ++ [(q2, .inl (cA 0, 5, .inl (fun _ => 0)))]) ++ [(q3, .inl (cA 0, 5, .inl (fun _ => 0)))]) ++ [(q4, .inl (cA 0, 5, .inl (fun _ => 0)))]) ++ [(q5, .inl (cA 4, 6, .inr (.inr (.inr (.inr (fun _ => none))))))])) := hD
  refine W.widen (k := 5) (n := 51) (Nat.le_of_ble_eq_true rfl) (Nat.le_of_ble_eq_true rfl) ?_
  refine g_putF (k := 5) (j := 5) X hin rfl wsi_5 tyX5_ok nmX5 hP hD hS (by decide) fi_5_5 rfl rfl rfl rfl (Nat.le_of_ble_eq_true rfl) (by decide +kernel) (fun H locs hP hD hS => ?_)
  have hP : va_P D vwCl ((h0, .inr (5, [.ref q1, .ref q2, .ref q3, .ref q4, .int 0, .ref q5, .null, .null, .int 0])) :: (((([(q1, .inl (cA 0, 30, .inl (fun _ => 0)))] ++ [(q2, .inl (cA 0, 5, .inl (fun _ => 0)))]) ++ [(q3, .inl (cA 0, 5, .inl (fun _ => 0)))]) ++ [(q4, .inl (cA 0, 5, .inl (fun _ => 0)))]) ++ [(q5, .inl (cA 4, 6, .inr (.inr (.inr (.inr (fun _ => none))))))])) H := hP
  have hD : va_D A ((h0, .inr (5, [.ref q1, .ref q2, .ref q3, .ref q4, .int 0, .ref q5, .null, .null, .int 0])) :: (((([(q1, .inl (cA 0, 30, .inl (fun _ => 0)))] ++ [(q2, .inl (cA 0, 5, .inl (fun _ => 0)))]) ++ [(q3, .inl (cA 0, 5, .inl (fun _ => 0)))]) ++ [(q4, .inl (cA 0, 5, .inl (fun _ => 0)))]) ++ [(q5, .inl (cA 4, 6, .inr (.inr (.inr (.inr (fun _ => none))))))])) := hD
  refine lv_aload_n (k := 0) (i := 0) X.1 X.2.1 (by decide +kernel) rfl (lv_at hl 0 rfl) ?_
  refine lv_iconst (n := 5) (v := 5) X.1 X.2.1 (by decide +kernel) (by decide) ?_
  refine g_newa X arI hA hP hD hS (by decide) rfl (Nat.le_of_ble_eq_true rfl) (Nat.le_of_ble_eq_true rfl) (Nat.le_of_ble_eq_true rfl) (by decide +kernel) (fun q6 H hP hD hS => ?_)
  have hP : va_P D vwCl ((h0, .inr (5, [.ref q1, .ref q2, .ref q3, .ref q4, .int 0, .ref q5, .null, .null, .int 0])) :: ((((([(q1, .inl (cA 0, 30, .inl (fun _ => 0)))] ++ [(q2, .inl (cA 0, 5, .inl (fun _ => 0)))]) ++ [(q3, .inl (cA 0, 5, .inl (fun _ => 0)))]) ++ [(q4, .inl (cA 0, 5, .inl (fun _ => 0)))]) ++ [(q5, .inl (cA 4, 6, .inr (.inr (.inr (.inr (fun _ => none))))))]) ++ [(q6, .inl (cA 0, 5, .inl (fun _ => 0)))])) H := hP
  have hD : va_D A ((h0, .inr (5, [.ref q1, .ref q2, .ref q3, .ref q4, .int 0, .ref q5, .null, .null, .int 0])) :: ((((([(q1, .inl (cA 0, 30, .inl (fun _ => 0)))] ++ [(q2, .inl (cA 0, 5, .inl (fun _ => 0)))]) ++ [(q3, .inl (cA 0, 5, .inl (fun _ => 0)))]) ++ [(q4, .inl (cA 0, 5, .inl (fun _ => 0)))]) ++ [(q5, .inl (cA 4, 6, .inr (.inr (.inr (.inr (fun _ => none))))))]) ++ [(q6, .inl (cA 0, 5, .inl (fun _ => 0)))])) := hD
  refine W.widen (k := 6) (n := 56) (Nat.le_of_ble_eq_true rfl) (Nat.le_of_ble_eq_true rfl) ?_
  refine g_putF (k := 5) (j := 6) X hin rfl wsi_5 tyX5_ok nmX5 hP hD hS (by decide) fi_5_6 rfl rfl rfl rfl (Nat.le_of_ble_eq_true rfl) (by decide +kernel) (fun H locs hP hD hS => ?_)
  have hP : va_P D vwCl ((h0, .inr (5, [.ref q1, .ref q2, .ref q3, .ref q4, .int 0, .ref q5, .ref q6, .null, .int 0])) :: ((((([(q1, .inl (cA 0, 30, .inl (fun _ => 0)))] ++ [(q2, .inl (cA 0, 5, .inl (fun _ => 0)))]) ++ [(q3, .inl (cA 0, 5, .inl (fun _ => 0)))]) ++ [(q4, .inl (cA 0, 5, .inl (fun _ => 0)))]) ++ [(q5, .inl (cA 4, 6, .inr (.inr (.inr (.inr (fun _ => none))))))]) ++ [(q6, .inl (cA 0, 5, .inl (fun _ => 0)))])) H := hP
  have hD : va_D A ((h0, .inr (5, [.ref q1, .ref q2, .ref q3, .ref q4, .int 0, .ref q5, .ref q6, .null, .int 0])) :: ((((([(q1, .inl (cA 0, 30, .inl (fun _ => 0)))] ++ [(q2, .inl (cA 0, 5, .inl (fun _ => 0)))]) ++ [(q3, .inl (cA 0, 5, .inl (fun _ => 0)))]) ++ [(q4, .inl (cA 0, 5, .inl (fun _ => 0)))]) ++ [(q5, .inl (cA 4, 6, .inr (.inr (.inr (.inr (fun _ => none))))))]) ++ [(q6, .inl (cA 0, 5, .inl (fun _ => 0)))])) := hD
  refine lv_aload_n (k := 0) (i := 0) X.1 X.2.1 (by decide +kernel) rfl (lv_at hl 0 rfl) ?_
  refine lv_iconst (n := 5) (v := 5) X.1 X.2.1 (by decide +kernel) (by decide) ?_
  refine g_newa X arI hA hP hD hS (by decide) rfl (Nat.le_of_ble_eq_true rfl) (Nat.le_of_ble_eq_true rfl) (Nat.le_of_ble_eq_true rfl) (by decide +kernel) (fun q7 H hP hD hS => ?_)
  have hP : va_P D vwCl ((h0, .inr (5, [.ref q1, .ref q2, .ref q3, .ref q4, .int 0, .ref q5, .ref q6, .null, .int 0])) :: (((((([(q1, .inl (cA 0, 30, .inl (fun _ => 0)))] ++ [(q2, .inl (cA 0, 5, .inl (fun _ => 0)))]) ++ [(q3, .inl (cA 0, 5, .inl (fun _ => 0)))]) ++ [(q4, .inl (cA 0, 5, .inl (fun _ => 0)))]) ++ [(q5, .inl (cA 4, 6, .inr (.inr (.inr (.inr (fun _ => none))))))]) ++ [(q6, .inl (cA 0, 5, .inl (fun _ => 0)))]) ++ [(q7, .inl (cA 0, 5, .inl (fun _ => 0)))])) H := hP
  have hD : va_D A ((h0, .inr (5, [.ref q1, .ref q2, .ref q3, .ref q4, .int 0, .ref q5, .ref q6, .null, .int 0])) :: (((((([(q1, .inl (cA 0, 30, .inl (fun _ => 0)))] ++ [(q2, .inl (cA 0, 5, .inl (fun _ => 0)))]) ++ [(q3, .inl (cA 0, 5, .inl (fun _ => 0)))]) ++ [(q4, .inl (cA 0, 5, .inl (fun _ => 0)))]) ++ [(q5, .inl (cA 4, 6, .inr (.inr (.inr (.inr (fun _ => none))))))]) ++ [(q6, .inl (cA 0, 5, .inl (fun _ => 0)))]) ++ [(q7, .inl (cA 0, 5, .inl (fun _ => 0)))])) := hD
  refine W.widen (k := 7) (n := 61) (Nat.le_of_ble_eq_true rfl) (Nat.le_of_ble_eq_true rfl) ?_
  refine g_putF (k := 5) (j := 7) X hin rfl wsi_5 tyX5_ok nmX5 hP hD hS (by decide) fi_5_7 rfl rfl rfl rfl (Nat.le_of_ble_eq_true rfl) (by decide +kernel) (fun H locs hP hD hS => ?_)
  have hP : va_P D vwCl ((h0, .inr (5, [.ref q1, .ref q2, .ref q3, .ref q4, .int 0, .ref q5, .ref q6, .ref q7, .int 0])) :: (((((([(q1, .inl (cA 0, 30, .inl (fun _ => 0)))] ++ [(q2, .inl (cA 0, 5, .inl (fun _ => 0)))]) ++ [(q3, .inl (cA 0, 5, .inl (fun _ => 0)))]) ++ [(q4, .inl (cA 0, 5, .inl (fun _ => 0)))]) ++ [(q5, .inl (cA 4, 6, .inr (.inr (.inr (.inr (fun _ => none))))))]) ++ [(q6, .inl (cA 0, 5, .inl (fun _ => 0)))]) ++ [(q7, .inl (cA 0, 5, .inl (fun _ => 0)))])) H := hP
  have hD : va_D A ((h0, .inr (5, [.ref q1, .ref q2, .ref q3, .ref q4, .int 0, .ref q5, .ref q6, .ref q7, .int 0])) :: (((((([(q1, .inl (cA 0, 30, .inl (fun _ => 0)))] ++ [(q2, .inl (cA 0, 5, .inl (fun _ => 0)))]) ++ [(q3, .inl (cA 0, 5, .inl (fun _ => 0)))]) ++ [(q4, .inl (cA 0, 5, .inl (fun _ => 0)))]) ++ [(q5, .inl (cA 4, 6, .inr (.inr (.inr (.inr (fun _ => none))))))]) ++ [(q6, .inl (cA 0, 5, .inl (fun _ => 0)))]) ++ [(q7, .inl (cA 0, 5, .inl (fun _ => 0)))])) := hD
  refine lv_iconst (n := 0) (v := iI ((0 : Nat) : Int)) X.1 X.2.1 (by decide +kernel) (by decide) ?_
  refine lv_istore_n (k := 1) (i := 1) (lv' := [(1, .int (iI ((0 : Nat) : Int))), (0, .ref h0)]) X.1 X.2.1 (by decide +kernel) rfl hl (by decide) rfl (fun ls hl => ?_)
  rw [none_0 (fun _ => 0)] at hP hD
  refine mk_loop (k := 5) (j := 5) (t := 8) (ka := 4) (n := 6) (c0 := 7) (s0 := 61) (pcB := 63) (pc0 := 58) (pcE := 82) (wa := [(q1, .inl (cA 0, 30, .inl (fun _ => 0))), (q2, .inl (cA 0, 5, .inl (fun _ => 0))), (q3, .inl (cA 0, 5, .inl (fun _ => 0))), (q4, .inl (cA 0, 5, .inl (fun _ => 0)))]) (wb := [(q6, .inl (cA 0, 5, .inl (fun _ => 0))), (q7, .inl (cA 0, 5, .inl (fun _ => 0)))]) (Post := fun i => PostK cA 8 (i + 6) (csSh (i + 6))) (off := -21) X hA rfl wsi_5 (by decide) fi_5_5 rfl rfl rfl wsi_8 tyX8_ok (fun j hj => by rcases (show j = 0 ∨ j = 1 ∨ j = 2 ∨ j = 3 ∨ j = 4 ∨ j = 5 ∨ j = 6 ∨ j = 7 ∨ j = 8 ∨ j = 9 by omega) with rfl | rfl | rfl | rfl | rfl | rfl | rfl | rfl | rfl | rfl <;> rfl) kk_5_24 it_8 id_8 (fun i => c_X8 (i + 6)) (fun i q w h => postK_hd (by decide) h) cei_8 rfl imi_8 mi_5_36 ⟨Nat.le_of_ble_eq_true rfl, Nat.le_of_ble_eq_true rfl⟩ (Nat.le_of_ble_eq_true rfl) (Nat.le_of_ble_eq_true rfl) (by decide) (by decide +kernel) (by decide +kernel) (by decide +kernel) (by decide +kernel) (by decide +kernel) (by decide +kernel) (by decide +kernel) (by decide +kernel) (by decide +kernel) (by decide) (fun H locs cells slots ls i hi hl kk => by
    refine lv_iload_n (k := 1) (i := 1) X.1 X.2.1 (by decide +kernel) rfl (lv_at hl 0 rfl) ?_
    refine lv_iconst (n := 5) (v := iI 5) X.1 X.2.1 (by decide +kernel) (by decide) ?_
    refine lv_icmp_gt (off := 22) (tgt := 82) X.1 X.2.1 (by decide +kernel) (by decide) (fun h => ?_) (fun h => ?_)
    · have h := (iI_lt (by omega) (by omega)).mp h
      rw [if_neg (by omega)] at kk
      exact kk
    · have h : ¬ _ := fun q => h ((iI_lt (by omega) (by omega)).mpr q)
      rw [if_pos (by omega)] at kk
      exact kk) (fun H locs ls vs wy hy hP hD hS => by
    obtain ⟨AD, hAD⟩ := all_ad (off := 6) (cs := fun y => csSh (y + 6)) hy
    obtain ⟨Z, hZ⟩ : ∃ Z : Nat → Nat → Nat, Z = fun k j => if k = 5 then h0 else if k = 1320 then q1 else if k = 1321 then q2 else if k = 1322 then q3 else if k = 1323 then q4 else if k = 1325 then q5 else if k = 1326 then q6 else if k = 1327 then q7 else AD (j - 6) k j := ⟨_, rfl⟩
    refine kr _ _ _ _ _ (by decide +kernel) ⟨Z, by rw [hZ]; rfl, ?_⟩ (P_row hP (g := fun j => some (AD (j + 6 - 6) 8 (j + 6))) (fun j hj => by rw [if_pos hj, Nat.add_sub_cancel]; exact congrArg some (hAD j hj).1.symm)) (D_mid hD) hS
    have e : catN wy 6 = wsO cA Z (catC (fun y => csSh (y + 6)) 6) S0 := by
      rw [wsO_cat]
      refine catN_congr 6 (fun y hy2 => ?_)
      rw [(hAD y hy2).2]
      refine ext_sh (y + 6) (fun k j h => ?_)
      rw [hZ]
      simp only [List.mem_cons, List.not_mem_nil, or_false, Prod.mk.injEq] at h
      rcases h with ⟨rfl, rfl⟩ | ⟨rfl, rfl⟩ <;> simp
    rw [e, csPn]
    simp only [wsO_app, wsO_cons]
    generalize wsO cA Z (catC (fun y => csSh (y + 6)) 6) S0 = T
    subst hZ
    rfl) 6 0 rfl H locs ls (fun _ => 0) (fun _ => []) (fun y hy => absurd hy (by omega)) hl hP hD hS
