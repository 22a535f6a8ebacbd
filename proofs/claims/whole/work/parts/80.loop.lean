/-! THE LAW'S LOOP -/
set_option maxHeartbeats 2000000 in
set_option maxRecDepth 20000 in
theorem law_loop {D : va_G} {cA : Nat → ClassId} {adX adM : Nat → Nat → Nat} {b L : Nat} {xs : Nat → Int32} {p : Program} {l : Launch} {e : Env} {s : State} {m : MethodId} {below : List Frame} {meth : Method} {c : Code} {A : Nat → Prop} {Q : State → Prop} {cs sl : Nat} (C : LwC D cA adX adM b L xs p s m c A) (hcs : cs ≤ room_1.cells ∧ sl ≤ room_1.slots)
    (done : ∀ (H : Heap) (locs : List Loc) (ls : Array Slot), va_S A s.heap H locs → W p l e room_1 s m #[Value.ref b] below meth c H locs cs sl Q (F0 m 1778 ls [.int 1])) :
    ∀ (f n i : Nat), 7 * n ≤ i → L ≤ i + f → i ≤ L → ∀ (X0 M : St) (H : Heap) (locs : List Loc) (ls : Array Slot), Rel n X0 M → LwW D cA adX adM A s X0 M H locs → lv_has ls 4 [(3, .int (iI (i : Int))), (2, .ref (adM 12 0)), (1, .ref (adX 11 0)), (0, .ref b)] → W p l e room_1 s m #[Value.ref b] below meth c H locs cs sl Q (F0 m 18 ls []) := by
  have C' := C
  obtain ⟨X, hX, hbl, hbA, hA, hL, hDX, hDM, hne⟩ := C'
  intro f
  induction f with
  | zero =>
    intro n i hi hf hiL X0 M H locs ls hR hW hl
    refine lv_iload_n X.1 X.2.1 dl_18 rfl (lv_at hl 0 rfl) ?_
    refine lv_aload_n X.1 X.2.1 dl_19 rfl (lv_at hl 3 rfl) ?_
    refine va_slen X.1 X.2.1 hX hbl hbA hW.2.2 dl_20 ?_
    refine lv_bipush (v := iI 7) X.1 X.2.1 dl_21 (by decide) ?_
    refine lv_isub X.1 X.2.1 dl_23 ?_
    have eL : Int32.ofNat L - iI 7 = iI ((L : Int) - 7) := by
      rw [show Int32.ofNat L = iI (L : Int) from rfl, iI_sub]
    rw [eL]
    refine lv_icmp_gt (tgt := 1777) X.1 X.2.1 dl_24 (by decide) (fun h => ?_) (fun h => ?_)
    · refine lv_iconst (v := 1) X.1 X.2.1 dl_1777 (by decide) ?_
      exact done H locs ls hW.2.2
    · exact absurd ((iI_lt (by omega) (by omega)).mpr (by omega)) h
  | succ f ih =>
    intro n i hi hf hiL X0 M H locs ls hR hW hl
    refine lv_iload_n X.1 X.2.1 dl_18 rfl (lv_at hl 0 rfl) ?_
    refine lv_aload_n X.1 X.2.1 dl_19 rfl (lv_at hl 3 rfl) ?_
    refine va_slen X.1 X.2.1 hX hbl hbA hW.2.2 dl_20 ?_
    refine lv_bipush (v := iI 7) X.1 X.2.1 dl_21 (by decide) ?_
    refine lv_isub X.1 X.2.1 dl_23 ?_
    have eL : Int32.ofNat L - iI 7 = iI ((L : Int) - 7) := by
      rw [show Int32.ofNat L = iI (L : Int) from rfl, iI_sub]
    rw [eL]
    refine lv_icmp_gt (tgt := 1777) X.1 X.2.1 dl_24 (by decide) (fun h => ?_) (fun h => ?_)
    · refine lv_iconst (v := 1) X.1 X.2.1 dl_1777 (by decide) ?_
      exact done H locs ls hW.2.2
    have hi7 : i + 7 ≤ L := by
      have h : ¬ ((L : Int) - 7 < (i : Int)) := fun q => h ((iI_lt (by omega) (by omega)).mpr q)
      omega
    have hcl : (iI (i : Int)).toNatClampNeg = i := by rw [iI_cl (by omega)]; omega
    have kk : ∀ (X' M' : St) (H' : Heap) (locs' : List Loc), Rel (n + 1) X' M' → LwW D cA adX adM A s X' M' H' locs' → W p l e room_1 s m #[Value.ref b] below meth c H' locs' cs sl Q (F0 m 1771 ls []) := by
      intro X' M' H' locs' hR' hW'
      refine lv_iinc (k := 0) (v := iI ((i + 7 : Nat) : Int)) (lv' := [(3, .int (iI ((i + 7 : Nat) : Int))), (2, .ref (adM 12 0)), (1, .ref (adX 11 0)), (0, .ref b)]) X.1 X.2.1 dl_1771 hl rfl (by
        have : Int32.ofInt 7 = iI 7 := by decide
        rw [this, iI_add]
        rfl) (by decide) rfl (fun ls hl => ?_)
      refine lv_goto (tgt := 18) X.1 X.2.1 dl_1774 (by decide) ?_
      exact ih (n + 1) (i + 7) (by omega) (by omega) hi7 X' M' H' locs' ls hR' hW' hl
    have kd : W p l e room_1 s m #[Value.ref b] below meth c H locs cs sl Q (F0 m 1771 ls []) := by
      refine lv_iinc (k := 0) (v := iI ((i + 7 : Nat) : Int)) (lv' := [(3, .int (iI ((i + 7 : Nat) : Int))), (2, .ref (adM 12 0)), (1, .ref (adX 11 0)), (0, .ref b)]) X.1 X.2.1 dl_1771 hl rfl (by
        have : Int32.ofInt 7 = iI 7 := by decide
        rw [this, iI_add]
        rfl) (by decide) rfl (fun ls hl => ?_)
      refine lv_goto (tgt := 18) X.1 X.2.1 dl_1774 (by decide) ?_
      exact ih n (i + 7) (by omega) (by omega) hi7 X0 M H locs ls hR hW hl
    refine lv_aload_n X.1 X.2.1 dl_27 rfl (lv_at hl 3 rfl) ?_
    refine lv_iload_n X.1 X.2.1 dl_28 rfl (lv_at hl 0 rfl) ?_
    refine va_sld X.1 X.2.1 hX hbl hbA hW.2.2 (fun q => ?_) dl_29 ?_
    · rcases q with q | q
      · rw [li_0, iI_lt (by omega) (by omega)] at q
        omega
      · rw [hcl] at q
        omega
    refine lv_bipush (v := 63) X.1 X.2.1 dl_30 (by decide) ?_
    refine lv_iand X.1 X.2.1 dl_32 ?_
    generalize xs (iI (i : Int)).toNatClampNeg &&& 63 = z
    by_cases hz : z.toInt < 0 ∨ 42 < z.toInt
    · exact lv_tableOut (tgt := 1771) X.1 X.2.1 dl_33 hz (by decide) kd
    · have h1 : ¬ z.toInt < 0 := fun q => hz (Or.inl q)
      have h2 : ¬ 42 < z.toInt := fun q => hz (Or.inr q)
      have hn : n ≤ 600 := by omega
      obtain ⟨j, hj⟩ : ∃ j : Nat, (z.toInt - 0).toNat = j := ⟨_, rfl⟩
      have hj43 : j < 43 := by omega
      have go : ∀ {off : Int} {tgt : Nat}, (#[187, 250, 263, 286, 329, 382, 415, 448, 481, 524, 557, 580, 613, 682, 767, 790, 849, 872, 895, 918, 941, 990, 1033, 1066, 1099, 1122, 1155, 1208, 1251, 1274, 1307, 1382, 1415, 1458, 1491, 1524, 1547, 1570, 1603, 1646, 1659, 1702, 1715] : Array Int)[j]? = some off → (33 : Int) + off = (tgt : Int) → W p l e room_1 s m #[Value.ref b] below meth c H locs cs sl Q (F0 m tgt ls []) → W p l e room_1 s m #[Value.ref b] below meth c H locs cs sl Q (F0 m 33 ls [.int z]) := fun ho ht k => lv_tableIn X.1 X.2.1 dl_33 h1 h2 (by rw [hj]; exact ho) ht k
      match j, hj43 with
      | 0, _ => exact go rfl (tgt := 220) (by decide) (law_0 C hR hn hi7 hW hl hcs kk)
      | 1, _ => exact go rfl (tgt := 283) (by decide) (law_1 C hR hn hi7 hW hl hcs kk)
      | 2, _ => exact go rfl (tgt := 296) (by decide) (law_2 C hR hn hi7 hW hl hcs kk)
      | 3, _ => exact go rfl (tgt := 319) (by decide) (law_3 C hR hn hi7 hW hl hcs kk)
      | 4, _ => exact go rfl (tgt := 362) (by decide) (law_4 C hR hn hi7 hW hl hcs kk)
      | 5, _ => exact go rfl (tgt := 415) (by decide) (law_5 C hR hn hi7 hW hl hcs kk)
      | 6, _ => exact go rfl (tgt := 448) (by decide) (law_6 C hR hn hi7 hW hl hcs kk)
      | 7, _ => exact go rfl (tgt := 481) (by decide) (law_7 C hR hn hi7 hW hl hcs kk)
      | 8, _ => exact go rfl (tgt := 514) (by decide) (law_8 C hR hn hi7 hW hl hcs kk)
      | 9, _ => exact go rfl (tgt := 557) (by decide) (law_9 C hR hn hi7 hW hl hcs kk)
      | 10, _ => exact go rfl (tgt := 590) (by decide) (law_10 C hR hn hi7 hW hl hcs kk)
      | 11, _ => exact go rfl (tgt := 613) (by decide) (law_11 C hR hn hi7 hW hl hcs kk)
      | 12, _ => exact go rfl (tgt := 646) (by decide) (law_12 C hR hn hi7 hW hl hcs kk)
      | 13, _ => exact go rfl (tgt := 715) (by decide) (law_13 C hR hn hi7 hW hl hcs kk)
      | 14, _ => exact go rfl (tgt := 800) (by decide) (law_14 C hR hn hi7 hW hl hcs kk)
      | 15, _ => exact go rfl (tgt := 823) (by decide) (law_15 C hR hn hi7 hW hl hcs kk)
      | 16, _ => exact go rfl (tgt := 882) (by decide) (law_16 C hR hn hi7 hW hl hcs kk)
      | 17, _ => exact go rfl (tgt := 905) (by decide) (law_17 C hR hn hi7 hW hl hcs kk)
      | 18, _ => exact go rfl (tgt := 928) (by decide) (law_18 C hR hn hi7 hW hl hcs kk)
      | 19, _ => exact go rfl (tgt := 951) (by decide) (law_19 C hR hn hi7 hW hl hcs kk)
      | 20, _ => exact go rfl (tgt := 974) (by decide) (law_20 C hR hn hi7 hW hl hcs kk)
      | 21, _ => exact go rfl (tgt := 1023) (by decide) (law_21 C hR hn hi7 hW hl hcs kk)
      | 22, _ => exact go rfl (tgt := 1066) (by decide) (law_22 C hR hn hi7 hW hl hcs kk)
      | 23, _ => exact go rfl (tgt := 1099) (by decide) (law_23 C hR hn hi7 hW hl hcs kk)
      | 24, _ => exact go rfl (tgt := 1132) (by decide) (law_24 C hR hn hi7 hW hl hcs kk)
      | 25, _ => exact go rfl (tgt := 1155) (by decide) (law_25 C hR hn hi7 hW hl hcs kk)
      | 26, _ => exact go rfl (tgt := 1188) (by decide) (law_26 C hR hn hi7 hW hl hcs kk)
      | 27, _ => exact go rfl (tgt := 1241) (by decide) (law_27 C hR hn hi7 hW hl hcs kk)
      | 28, _ => exact go rfl (tgt := 1284) (by decide) (law_28 C hR hn hi7 hW hl hcs kk)
      | 29, _ => exact go rfl (tgt := 1307) (by decide) (law_29 C hR hn hi7 hW hl hcs kk)
      | 30, _ => exact go rfl (tgt := 1340) (by decide) (law_30 C hR hn hi7 hW hl hcs kk)
      | 31, _ => exact go rfl (tgt := 1415) (by decide) (law_31 C hR hn hi7 hW hl hcs kk)
      | 32, _ => exact go rfl (tgt := 1448) (by decide) (law_32 C hR hn hi7 hW hl hcs kk)
      | 33, _ => exact go rfl (tgt := 1491) (by decide) (law_33 C hR hn hi7 hW hl hcs kk)
      | 34, _ => exact go rfl (tgt := 1524) (by decide) (law_34 C hR hn hi7 hW hl hcs kk)
      | 35, _ => exact go rfl (tgt := 1557) (by decide) (law_35 C hR hn hi7 hW hl hcs kk)
      | 36, _ => exact go rfl (tgt := 1580) (by decide) (law_36 C hR hn hi7 hW hl hcs kk)
      | 37, _ => exact go rfl (tgt := 1603) (by decide) (law_37 C hR hn hi7 hW hl hcs kk)
      | 38, _ => exact go rfl (tgt := 1636) (by decide) (law_38 C hR hn hi7 hW hl hcs kk)
      | 39, _ => exact go rfl (tgt := 1679) (by decide) (law_39 C hR hn hi7 hW hl hcs kk)
      | 40, _ => exact go rfl (tgt := 1692) (by decide) (law_40 C hR hn hi7 hW hl hcs kk)
      | 41, _ => exact go rfl (tgt := 1735) (by decide) (law_41 C hR hn hi7 hW hl hcs kk)
      | 42, _ => exact go rfl (tgt := 1748) (by decide) (law_42 C hR hn hi7 hW hl hcs kk)
      | j + 43, h => exact absurd h (by omega)
