/-! THE CALLS OF THE LAW (printed by wip/gen8.py) -/
theorem lwl_15 : Cond.methodLink "SaltRoomsLaw" 15 yy_X11_feed ∈ bwL := bw_of (tb_ix 411 (by decide +kernel)) rfl
theorem lwl_19 : Cond.methodLink "SaltRoomsLaw" 19 yy_X12_feed ∈ bwL := bw_of (tb_ix 1148 (by decide +kernel)) rfl
theorem lwl_20 : Cond.methodLink "SaltRoomsLaw" 20 yy_X11_beds ∈ bwL := bw_of (tb_ix 428 (by decide +kernel)) rfl
theorem lwl_24 : Cond.methodLink "SaltRoomsLaw" 24 yy_X12_beds ∈ bwL := bw_of (tb_ix 1161 (by decide +kernel)) rfl
theorem lwl_25 : Cond.methodLink "SaltRoomsLaw" 25 yy_X11_bed ∈ bwL := bw_of (tb_ix 478 (by decide +kernel)) rfl
theorem lwl_29 : Cond.methodLink "SaltRoomsLaw" 29 yy_X12_bed ∈ bwL := bw_of (tb_ix 1193 (by decide +kernel)) rfl
theorem lwl_30 : Cond.methodLink "SaltRoomsLaw" 30 yy_X11_cavern ∈ bwL := bw_of (tb_ix 485 (by decide +kernel)) rfl
theorem lwl_34 : Cond.methodLink "SaltRoomsLaw" 34 yy_X12_cavern ∈ bwL := bw_of (tb_ix 1201 (by decide +kernel)) rfl
theorem lwl_35 : Cond.methodLink "SaltRoomsLaw" 35 yy_X11_string ∈ bwL := bw_of (tb_ix 513 (by decide +kernel)) rfl
theorem lwl_39 : Cond.methodLink "SaltRoomsLaw" 39 yy_X12_string ∈ bwL := bw_of (tb_ix 1210 (by decide +kernel)) rfl
theorem lwl_40 : Cond.methodLink "SaltRoomsLaw" 40 yy_X11_law ∈ bwL := bw_of (tb_ix 550 (by decide +kernel)) rfl
theorem lwl_44 : Cond.methodLink "SaltRoomsLaw" 44 yy_X12_law ∈ bwL := bw_of (tb_ix 1242 (by decide +kernel)) rfl
theorem lwl_45 : Cond.methodLink "SaltRoomsLaw" 45 yy_X11_step ∈ bwL := bw_of (tb_ix 554 (by decide +kernel)) rfl
theorem lwl_48 : Cond.methodLink "SaltRoomsLaw" 48 yy_X12_step ∈ bwL := bw_of (tb_ix 1248 (by decide +kernel)) rfl
theorem lwl_49 : Cond.methodLink "SaltRoomsLaw" 49 yy_X11_half ∈ bwL := bw_of (tb_ix 624 (by decide +kernel)) rfl
theorem lwl_52 : Cond.methodLink "SaltRoomsLaw" 52 yy_X12_half ∈ bwL := bw_of (tb_ix 1291 (by decide +kernel)) rfl
theorem lwl_53 : Cond.methodLink "SaltRoomsLaw" 53 yy_X11_ring ∈ bwL := bw_of (tb_ix 636 (by decide +kernel)) rfl
theorem lwl_56 : Cond.methodLink "SaltRoomsLaw" 56 yy_X12_ring ∈ bwL := bw_of (tb_ix 1299 (by decide +kernel)) rfl
theorem lwl_57 : Cond.methodLink "SaltRoomsLaw" 57 yy_X11_of ∈ bwL := bw_of (tb_ix 647 (by decide +kernel)) rfl
theorem lwl_60 : Cond.methodLink "SaltRoomsLaw" 60 yy_X12_of ∈ bwL := bw_of (tb_ix 1307 (by decide +kernel)) rfl
theorem lwl_61 : Cond.methodLink "SaltRoomsLaw" 61 yy_X11_years ∈ bwL := bw_of (tb_ix 687 (by decide +kernel)) rfl
theorem lwl_64 : Cond.methodLink "SaltRoomsLaw" 64 yy_X12_years ∈ bwL := bw_of (tb_ix 1331 (by decide +kernel)) rfl
theorem lwl_65 : Cond.methodLink "SaltRoomsLaw" 65 yy_X11_set ∈ bwL := bw_of (tb_ix 704 (by decide +kernel)) rfl
theorem lwl_68 : Cond.methodLink "SaltRoomsLaw" 68 yy_X12_set_ ∈ bwL := bw_of (tb_ix 1342 (by decide +kernel)) rfl
theorem lwl_69 : Cond.methodLink "SaltRoomsLaw" 69 yy_X11_between ∈ bwL := bw_of (tb_ix 708 (by decide +kernel)) rfl
theorem lwl_73 : Cond.methodLink "SaltRoomsLaw" 73 yy_X12_between ∈ bwL := bw_of (tb_ix 1347 (by decide +kernel)) rfl
theorem lwl_74 : Cond.methodLink "SaltRoomsLaw" 74 yy_X11_fill ∈ bwL := bw_of (tb_ix 713 (by decide +kernel)) rfl
theorem lwl_78 : Cond.methodLink "SaltRoomsLaw" 78 yy_X12_fill ∈ bwL := bw_of (tb_ix 1352 (by decide +kernel)) rfl
theorem lwl_79 : Cond.methodLink "SaltRoomsLaw" 79 yy_X11_owner ∈ bwL := bw_of (tb_ix 748 (by decide +kernel)) rfl
theorem lwl_82 : Cond.methodLink "SaltRoomsLaw" 82 yy_X12_owner ∈ bwL := bw_of (tb_ix 1369 (by decide +kernel)) rfl
theorem lwl_83 : Cond.methodLink "SaltRoomsLaw" 83 yy_X11_has ∈ bwL := bw_of (tb_ix 752 (by decide +kernel)) rfl
theorem lwl_87 : Cond.methodLink "SaltRoomsLaw" 87 yy_X12_has ∈ bwL := bw_of (tb_ix 1374 (by decide +kernel)) rfl
theorem lwl_88 : Cond.methodLink "SaltRoomsLaw" 88 yy_X11_spread ∈ bwL := bw_of (tb_ix 760 (by decide +kernel)) rfl
theorem lwl_91 : Cond.methodLink "SaltRoomsLaw" 91 yy_X12_spread ∈ bwL := bw_of (tb_ix 1378 (by decide +kernel)) rfl
theorem lwl_92 : Cond.methodLink "SaltRoomsLaw" 92 yy_X11_sinks ∈ bwL := bw_of (tb_ix 764 (by decide +kernel)) rfl
theorem lwl_95 : Cond.methodLink "SaltRoomsLaw" 95 yy_X12_sinks ∈ bwL := bw_of (tb_ix 1382 (by decide +kernel)) rfl
theorem lwl_96 : Cond.methodLink "SaltRoomsLaw" 96 yy_X11_close ∈ bwL := bw_of (tb_ix 777 (by decide +kernel)) rfl
theorem lwl_99 : Cond.methodLink "SaltRoomsLaw" 99 yy_X12_close ∈ bwL := bw_of (tb_ix 1392 (by decide +kernel)) rfl
theorem lwl_100 : Cond.methodLink "SaltRoomsLaw" 100 yy_X11_giveUp ∈ bwL := bw_of (tb_ix 781 (by decide +kernel)) rfl
theorem lwl_103 : Cond.methodLink "SaltRoomsLaw" 103 yy_X12_giveUp ∈ bwL := bw_of (tb_ix 1396 (by decide +kernel)) rfl
theorem lwl_104 : Cond.methodLink "SaltRoomsLaw" 104 yy_X11_breach ∈ bwL := bw_of (tb_ix 785 (by decide +kernel)) rfl
theorem lwl_108 : Cond.methodLink "SaltRoomsLaw" 108 yy_X12_breach ∈ bwL := bw_of (tb_ix 1400 (by decide +kernel)) rfl
theorem lwl_109 : Cond.methodLink "SaltRoomsLaw" 109 yy_X11_wall ∈ bwL := bw_of (tb_ix 791 (by decide +kernel)) rfl
theorem lwl_112 : Cond.methodLink "SaltRoomsLaw" 112 yy_X12_wall ∈ bwL := bw_of (tb_ix 1404 (by decide +kernel)) rfl
theorem lwl_113 : Cond.methodLink "SaltRoomsLaw" 113 yy_X11_near ∈ bwL := bw_of (tb_ix 801 (by decide +kernel)) rfl
theorem lwl_116 : Cond.methodLink "SaltRoomsLaw" 116 yy_X12_near ∈ bwL := bw_of (tb_ix 1413 (by decide +kernel)) rfl
theorem lwl_117 : Cond.methodLink "SaltRoomsLaw" 117 yy_X11_fall ∈ bwL := bw_of (tb_ix 805 (by decide +kernel)) rfl
theorem lwl_120 : Cond.methodLink "SaltRoomsLaw" 120 yy_X12_fall ∈ bwL := bw_of (tb_ix 1417 (by decide +kernel)) rfl
theorem lwl_121 : Cond.methodLink "SaltRoomsLaw" 121 yy_X11_mend ∈ bwL := bw_of (tb_ix 816 (by decide +kernel)) rfl
theorem lwl_124 : Cond.methodLink "SaltRoomsLaw" 124 yy_X12_mend ∈ bwL := bw_of (tb_ix 1421 (by decide +kernel)) rfl
theorem lwl_125 : Cond.methodLink "SaltRoomsLaw" 125 yy_X11_hidden ∈ bwL := bw_of (tb_ix 820 (by decide +kernel)) rfl
theorem lwl_128 : Cond.methodLink "SaltRoomsLaw" 128 yy_X12_hidden ∈ bwL := bw_of (tb_ix 1425 (by decide +kernel)) rfl
theorem lwl_129 : Cond.methodLink "SaltRoomsLaw" 129 yy_X11_reading ∈ bwL := bw_of (tb_ix 835 (by decide +kernel)) rfl
theorem lwl_132 : Cond.methodLink "SaltRoomsLaw" 132 yy_X12_reading ∈ bwL := bw_of (tb_ix 1433 (by decide +kernel)) rfl
theorem lwl_133 : Cond.methodLink "SaltRoomsLaw" 133 yy_X11_bounds ∈ bwL := bw_of (tb_ix 843 (by decide +kernel)) rfl
theorem lwl_136 : Cond.methodLink "SaltRoomsLaw" 136 yy_X12_bounds ∈ bwL := bw_of (tb_ix 1437 (by decide +kernel)) rfl
theorem lwl_137 : Cond.methodLink "SaltRoomsLaw" 137 yy_X11_quarrel ∈ bwL := bw_of (tb_ix 855 (by decide +kernel)) rfl
theorem lwl_140 : Cond.methodLink "SaltRoomsLaw" 140 yy_X12_quarrel ∈ bwL := bw_of (tb_ix 1445 (by decide +kernel)) rfl
theorem lwl_141 : Cond.methodLink "SaltRoomsLaw" 141 yy_X11_nextEcho ∈ bwL := bw_of (tb_ix 864 (by decide +kernel)) rfl
theorem lwl_144 : Cond.methodLink "SaltRoomsLaw" 144 yy_X12_nextEcho ∈ bwL := bw_of (tb_ix 1449 (by decide +kernel)) rfl
theorem lwl_145 : Cond.methodLink "SaltRoomsLaw" 145 yy_X11_test ∈ bwL := bw_of (tb_ix 877 (by decide +kernel)) rfl
theorem lwl_149 : Cond.methodLink "SaltRoomsLaw" 149 yy_X12_test ∈ bwL := bw_of (tb_ix 1453 (by decide +kernel)) rfl
theorem lwl_150 : Cond.methodLink "SaltRoomsLaw" 150 yy_X11_leak ∈ bwL := bw_of (tb_ix 885 (by decide +kernel)) rfl
theorem lwl_153 : Cond.methodLink "SaltRoomsLaw" 153 yy_X12_leak ∈ bwL := bw_of (tb_ix 1457 (by decide +kernel)) rfl
theorem lwl_154 : Cond.methodLink "SaltRoomsLaw" 154 yy_X11_howLong ∈ bwL := bw_of (tb_ix 898 (by decide +kernel)) rfl
theorem lwl_157 : Cond.methodLink "SaltRoomsLaw" 157 yy_X12_howLong ∈ bwL := bw_of (tb_ix 1467 (by decide +kernel)) rfl
theorem lwl_158 : Cond.methodLink "SaltRoomsLaw" 158 yy_X11_need ∈ bwL := bw_of (tb_ix 902 (by decide +kernel)) rfl
theorem lwl_161 : Cond.methodLink "SaltRoomsLaw" 161 yy_X12_need ∈ bwL := bw_of (tb_ix 1471 (by decide +kernel)) rfl
theorem lwl_162 : Cond.methodLink "SaltRoomsLaw" 162 yy_X11_gives ∈ bwL := bw_of (tb_ix 906 (by decide +kernel)) rfl
theorem lwl_165 : Cond.methodLink "SaltRoomsLaw" 165 yy_X12_gives ∈ bwL := bw_of (tb_ix 1476 (by decide +kernel)) rfl
theorem lwl_166 : Cond.methodLink "SaltRoomsLaw" 166 yy_X11_given ∈ bwL := bw_of (tb_ix 910 (by decide +kernel)) rfl
theorem lwl_169 : Cond.methodLink "SaltRoomsLaw" 169 yy_X12_given ∈ bwL := bw_of (tb_ix 1480 (by decide +kernel)) rfl
theorem lwl_170 : Cond.methodLink "SaltRoomsLaw" 170 yy_X11_proof ∈ bwL := bw_of (tb_ix 927 (by decide +kernel)) rfl
theorem lwl_173 : Cond.methodLink "SaltRoomsLaw" 173 yy_X12_proof ∈ bwL := bw_of (tb_ix 1496 (by decide +kernel)) rfl
theorem lwl_174 : Cond.methodLink "SaltRoomsLaw" 174 yy_X11_aim ∈ bwL := bw_of (tb_ix 931 (by decide +kernel)) rfl
theorem lwl_177 : Cond.methodLink "SaltRoomsLaw" 177 yy_X12_aim ∈ bwL := bw_of (tb_ix 1500 (by decide +kernel)) rfl
theorem lwl_178 : Cond.methodLink "SaltRoomsLaw" 178 yy_X11_choice ∈ bwL := bw_of (tb_ix 935 (by decide +kernel)) rfl
theorem lwl_181 : Cond.methodLink "SaltRoomsLaw" 181 yy_X12_choice ∈ bwL := bw_of (tb_ix 1504 (by decide +kernel)) rfl
theorem lwl_182 : Cond.methodLink "SaltRoomsLaw" 182 yy_X11_noChoices ∈ bwL := bw_of (tb_ix 943 (by decide +kernel)) rfl
theorem lwl_185 : Cond.methodLink "SaltRoomsLaw" 185 yy_X12_noChoices ∈ bwL := bw_of (tb_ix 1508 (by decide +kernel)) rfl
theorem lwl_186 : Cond.methodLink "SaltRoomsLaw" 186 yy_X11_plan ∈ bwL := bw_of (tb_ix 947 (by decide +kernel)) rfl
theorem lwl_189 : Cond.methodLink "SaltRoomsLaw" 189 yy_X12_plan ∈ bwL := bw_of (tb_ix 1512 (by decide +kernel)) rfl
theorem lwl_190 : Cond.methodLink "SaltRoomsLaw" 190 yy_X11_undo ∈ bwL := bw_of (tb_ix 976 (by decide +kernel)) rfl
theorem lwl_193 : Cond.methodLink "SaltRoomsLaw" 193 yy_X12_undo ∈ bwL := bw_of (tb_ix 1523 (by decide +kernel)) rfl
theorem lwl_194 : Cond.methodLink "SaltRoomsLaw" 194 yy_X11_count ∈ bwL := bw_of (tb_ix 988 (by decide +kernel)) rfl
theorem lwl_197 : Cond.methodLink "SaltRoomsLaw" 197 yy_X12_count_ ∈ bwL := bw_of (tb_ix 1527 (by decide +kernel)) rfl
set_option maxHeartbeats 2000000 in
set_option maxRecDepth 20000 in
theorem law_0 {D : va_G} {cA : Nat → ClassId} {adX adM : Nat → Nat → Nat} {b L : Nat} {xs : Nat → Int32} {p : Program} {l : Launch} {e : Env} {s : State} {m : MethodId} {below : List Frame} {meth : Method} {c : Code} {A : Nat → Prop} {Q : State → Prop} {cs sl : Nat} (C : LwC D cA adX adM b L xs p s m c A) {n i : Nat} {X0 M : St} {H : Heap} {locs : List Loc} {ls : Array Slot} (hR : Rel n X0 M) (hn : n ≤ 600) (hi : i + 7 ≤ L) (hW : LwW D cA adX adM A s X0 M H locs) (hl : lv_has ls 4 [(3, .int (iI (i : Int))), (2, .ref (adM 12 0)), (1, .ref (adX 11 0)), (0, .ref b)]) (hcs : cs ≤ room_1.cells ∧ sl ≤ room_1.slots) (kk : ∀ (X' M' : St) (H' : Heap) (locs' : List Loc), Rel (n + 1) X' M' → LwW D cA adX adM A s X' M' H' locs' → W p l e room_1 s m #[Value.ref b] below meth c H' locs' cs sl Q (F0 m 1771 ls [])) : W p l e room_1 s m #[Value.ref b] below meth c H locs cs sl Q (F0 m 220 ls []) := by
  obtain ⟨X, hX, hbl, hbA, hA, hL, hDX, hDM, hne⟩ := C
  obtain ⟨r, X', M', hf, hg, hR'⟩ := op_feed hR (xs (i + 1)) ((((xs (i + 2)).toInt64 <<< ((32 : Int32).toInt64 &&& 63)) ||| ((xs (i + 3)).toInt64 &&& 4294967295)))
  refine lv_aload_n X.1 X.2.1 dl_220 rfl (lv_at hl 2 rfl) ?_
  refine lw_arg (k := 1) (lk := 1) X hX hbl hbA hW.2.2 (lv_at hl 3 rfl) (lv_at hl 0 rfl) hL (by omega) dl_221 dl_222 (fun h => lv_iconst (v := iI ((1 : Nat) : Int)) X.1 X.2.1 dl_223 (by decide) h) dl_224 dl_225 ?_
  refine lw_arg (k := 2) (lk := 1) X hX hbl hbA hW.2.2 (lv_at hl 3 rfl) (lv_at hl 0 rfl) hL (by omega) dl_226 dl_227 (fun h => lv_iconst (v := iI ((2 : Nat) : Int)) X.1 X.2.1 dl_228 (by decide) h) dl_229 dl_230 ?_
  refine lv_i2l X.1 X.2.1 dl_231 rfl ?_
  refine lv_bipush (v := 32) X.1 X.2.1 dl_232 (by decide) ?_
  refine lv_lshl X.1 X.2.1 dl_234 rfl ?_
  refine lw_arg (k := 3) (lk := 1) X hX hbl hbA hW.2.2 (lv_at hl 3 rfl) (lv_at hl 0 rfl) hL (by omega) dl_235 dl_236 (fun h => lv_iconst (v := iI ((3 : Nat) : Int)) X.1 X.2.1 dl_237 (by decide) h) dl_238 dl_239 ?_
  refine lv_i2l X.1 X.2.1 dl_240 rfl ?_
  refine lv_ldc2 X.1 X.2.1 X.2.2.2.1 (X.2.2.2.2.1 _ kl_13) dl_241 ?_
  refine lv_land X.1 X.2.1 dl_244 ?_
  refine lv_lor X.1 X.2.1 dl_245 ?_
  refine lw_call (cells := cellsX) (other := cellsM) (kd := 11) (mid := 1408) (nL' := 4) (as := [vI (xs (i + 1)), vL ((((xs (i + 2)).toInt64 <<< ((32 : Int32).toInt64 &&& 63)) ||| ((xs (i + 3)).toInt64 &&& 4294967295)))]) (rest := []) X hA cl_X hW.1 hW.2.1 hDX hDM hne hW.2.2 (toI_run hf) e_1408 ce_X11_feed im_X11_feed se_X11_feed lwl_15 (by decide) rfl rfl mem_X0 (Nat.le_of_ble_eq_true rfl) (vv_ok rfl) rfl ⟨Nat.le_of_ble_eq_true rfl, Nat.le_of_ble_eq_true rfl⟩ hcs dl_246 hl.1 (by decide) rfl (fun H1 locs1 hP1 hPo1 hS1 => ?_)
  have hW : LwW D cA adX adM A s X' M H1 locs1 := ⟨hP1, hPo1, hS1⟩
  refine lv_aload_n X.1 X.2.1 dl_249 rfl (lv_at hl 1 rfl) ?_
  refine lw_arg (k := 1) (lk := 1) X hX hbl hbA hW.2.2 (lv_at hl 3 rfl) (lv_at hl 0 rfl) hL (by omega) dl_250 dl_251 (fun h => lv_iconst (v := iI ((1 : Nat) : Int)) X.1 X.2.1 dl_252 (by decide) h) dl_253 dl_254 ?_
  refine lw_arg (k := 2) (lk := 1) X hX hbl hbA hW.2.2 (lv_at hl 3 rfl) (lv_at hl 0 rfl) hL (by omega) dl_255 dl_256 (fun h => lv_iconst (v := iI ((2 : Nat) : Int)) X.1 X.2.1 dl_257 (by decide) h) dl_258 dl_259 ?_
  refine lv_i2l X.1 X.2.1 dl_260 rfl ?_
  refine lv_bipush (v := 32) X.1 X.2.1 dl_261 (by decide) ?_
  refine lv_lshl X.1 X.2.1 dl_263 rfl ?_
  refine lw_arg (k := 3) (lk := 1) X hX hbl hbA hW.2.2 (lv_at hl 3 rfl) (lv_at hl 0 rfl) hL (by omega) dl_264 dl_265 (fun h => lv_iconst (v := iI ((3 : Nat) : Int)) X.1 X.2.1 dl_266 (by decide) h) dl_267 dl_268 ?_
  refine lv_i2l X.1 X.2.1 dl_269 rfl ?_
  refine lv_ldc2 X.1 X.2.1 X.2.2.2.1 (X.2.2.2.2.1 _ kl_13) dl_270 ?_
  refine lv_land X.1 X.2.1 dl_273 ?_
  refine lv_lor X.1 X.2.1 dl_274 ?_
  refine lw_call (cells := cellsM) (other := cellsX) (kd := 12) (mid := 1536) (nL' := 6) (as := [vI (xs (i + 1)), vL ((((xs (i + 2)).toInt64 <<< ((32 : Int32).toInt64 &&& 63)) ||| ((xs (i + 3)).toInt64 &&& 4294967295)))]) (rest := [.int r]) X hA cl_M hW.2.1 hW.1 hDM hDX (fun k i k' i' h h' q => hne k' i' k i h' h q.symm) hW.2.2 (toI_run hg) e_1536 ce_X12_feed im_X12_feed se_X12_feed lwl_19 (by decide) rfl rfl mem_M0 (Nat.le_of_ble_eq_true rfl) (vv_ok rfl) rfl ⟨Nat.le_of_ble_eq_true rfl, Nat.le_of_ble_eq_true rfl⟩ hcs dl_275 hl.1 (by show 1 + 0 ≤ 8; omega) rfl (fun H2 locs2 hP2 hPo2 hS2 => ?_)
  refine lv_icmp_eq (tgt := 1771) X.1 X.2.1 dl_278 (by decide) (fun _ => ?_) (fun q => absurd rfl q)
  exact kk X' M' H2 locs2 hR' ⟨hPo2, hP2, hS2⟩
set_option maxHeartbeats 2000000 in
set_option maxRecDepth 20000 in
theorem law_1 {D : va_G} {cA : Nat → ClassId} {adX adM : Nat → Nat → Nat} {b L : Nat} {xs : Nat → Int32} {p : Program} {l : Launch} {e : Env} {s : State} {m : MethodId} {below : List Frame} {meth : Method} {c : Code} {A : Nat → Prop} {Q : State → Prop} {cs sl : Nat} (C : LwC D cA adX adM b L xs p s m c A) {n i : Nat} {X0 M : St} {H : Heap} {locs : List Loc} {ls : Array Slot} (hR : Rel n X0 M) (hn : n ≤ 600) (hi : i + 7 ≤ L) (hW : LwW D cA adX adM A s X0 M H locs) (hl : lv_has ls 4 [(3, .int (iI (i : Int))), (2, .ref (adM 12 0)), (1, .ref (adX 11 0)), (0, .ref b)]) (hcs : cs ≤ room_1.cells ∧ sl ≤ room_1.slots) (kk : ∀ (X' M' : St) (H' : Heap) (locs' : List Loc), Rel (n + 1) X' M' → LwW D cA adX adM A s X' M' H' locs' → W p l e room_1 s m #[Value.ref b] below meth c H' locs' cs sl Q (F0 m 1771 ls [])) : W p l e room_1 s m #[Value.ref b] below meth c H locs cs sl Q (F0 m 283 ls []) := by
  obtain ⟨X, hX, hbl, hbA, hA, hL, hDX, hDM, hne⟩ := C
  obtain ⟨r, X', M', hf, hg, hR'⟩ := op_beds hR
  refine lv_aload_n X.1 X.2.1 dl_283 rfl (lv_at hl 2 rfl) ?_
  refine lw_call (cells := cellsX) (other := cellsM) (kd := 11) (mid := 1410) (nL' := 2) (as := []) (rest := []) X hA cl_X hW.1 hW.2.1 hDX hDM hne hW.2.2 (toI_run hf) e_1410 ce_X11_beds im_X11_beds se_X11_beds lwl_20 (by decide) rfl rfl mem_X0 (Nat.le_of_ble_eq_true rfl) (vv_ok rfl) rfl ⟨Nat.le_of_ble_eq_true rfl, Nat.le_of_ble_eq_true rfl⟩ hcs dl_284 hl.1 (by decide) rfl (fun H1 locs1 hP1 hPo1 hS1 => ?_)
  have hW : LwW D cA adX adM A s X' M H1 locs1 := ⟨hP1, hPo1, hS1⟩
  refine lv_aload_n X.1 X.2.1 dl_287 rfl (lv_at hl 1 rfl) ?_
  refine lw_call (cells := cellsM) (other := cellsX) (kd := 12) (mid := 1539) (nL' := 3) (as := []) (rest := [.int r]) X hA cl_M hW.2.1 hW.1 hDM hDX (fun k i k' i' h h' q => hne k' i' k i h' h q.symm) hW.2.2 (toI_run hg) e_1539 ce_X12_beds im_X12_beds se_X12_beds lwl_24 (by decide) rfl rfl mem_M0 (Nat.le_of_ble_eq_true rfl) (vv_ok rfl) rfl ⟨Nat.le_of_ble_eq_true rfl, Nat.le_of_ble_eq_true rfl⟩ hcs dl_288 hl.1 (by show 1 + 0 ≤ 8; omega) rfl (fun H2 locs2 hP2 hPo2 hS2 => ?_)
  refine lv_icmp_eq (tgt := 1771) X.1 X.2.1 dl_291 (by decide) (fun _ => ?_) (fun q => absurd rfl q)
  exact kk X' M' H2 locs2 hR' ⟨hPo2, hP2, hS2⟩
set_option maxHeartbeats 2000000 in
set_option maxRecDepth 20000 in
theorem law_2 {D : va_G} {cA : Nat → ClassId} {adX adM : Nat → Nat → Nat} {b L : Nat} {xs : Nat → Int32} {p : Program} {l : Launch} {e : Env} {s : State} {m : MethodId} {below : List Frame} {meth : Method} {c : Code} {A : Nat → Prop} {Q : State → Prop} {cs sl : Nat} (C : LwC D cA adX adM b L xs p s m c A) {n i : Nat} {X0 M : St} {H : Heap} {locs : List Loc} {ls : Array Slot} (hR : Rel n X0 M) (hn : n ≤ 600) (hi : i + 7 ≤ L) (hW : LwW D cA adX adM A s X0 M H locs) (hl : lv_has ls 4 [(3, .int (iI (i : Int))), (2, .ref (adM 12 0)), (1, .ref (adX 11 0)), (0, .ref b)]) (hcs : cs ≤ room_1.cells ∧ sl ≤ room_1.slots) (kk : ∀ (X' M' : St) (H' : Heap) (locs' : List Loc), Rel (n + 1) X' M' → LwW D cA adX adM A s X' M' H' locs' → W p l e room_1 s m #[Value.ref b] below meth c H' locs' cs sl Q (F0 m 1771 ls [])) : W p l e room_1 s m #[Value.ref b] below meth c H locs cs sl Q (F0 m 296 ls []) := by
  obtain ⟨X, hX, hbl, hbA, hA, hL, hDX, hDM, hne⟩ := C
  obtain ⟨r, X', M', hf, hg, hR'⟩ := op_bed hR (xs (i + 1))
  refine lv_aload_n X.1 X.2.1 dl_296 rfl (lv_at hl 2 rfl) ?_
  refine lw_arg (k := 1) (lk := 1) X hX hbl hbA hW.2.2 (lv_at hl 3 rfl) (lv_at hl 0 rfl) hL (by omega) dl_297 dl_298 (fun h => lv_iconst (v := iI ((1 : Nat) : Int)) X.1 X.2.1 dl_299 (by decide) h) dl_300 dl_301 ?_
  refine lw_call (cells := cellsX) (other := cellsM) (kd := 11) (mid := 1411) (nL' := 2) (as := [vI (xs (i + 1))]) (rest := []) X hA cl_X hW.1 hW.2.1 hDX hDM hne hW.2.2 (toI_run hf) e_1411 ce_X11_bed im_X11_bed se_X11_bed lwl_25 (by decide) rfl rfl mem_X0 (Nat.le_of_ble_eq_true rfl) (vv_ok rfl) rfl ⟨Nat.le_of_ble_eq_true rfl, Nat.le_of_ble_eq_true rfl⟩ hcs dl_302 hl.1 (by decide) rfl (fun H1 locs1 hP1 hPo1 hS1 => ?_)
  have hW : LwW D cA adX adM A s X' M H1 locs1 := ⟨hP1, hPo1, hS1⟩
  refine lv_aload_n X.1 X.2.1 dl_305 rfl (lv_at hl 1 rfl) ?_
  refine lw_arg (k := 1) (lk := 1) X hX hbl hbA hW.2.2 (lv_at hl 3 rfl) (lv_at hl 0 rfl) hL (by omega) dl_306 dl_307 (fun h => lv_iconst (v := iI ((1 : Nat) : Int)) X.1 X.2.1 dl_308 (by decide) h) dl_309 dl_310 ?_
  refine lw_call (cells := cellsM) (other := cellsX) (kd := 12) (mid := 1547) (nL' := 2) (as := [vI (xs (i + 1))]) (rest := [.int r]) X hA cl_M hW.2.1 hW.1 hDM hDX (fun k i k' i' h h' q => hne k' i' k i h' h q.symm) hW.2.2 (toI_run hg) e_1547 ce_X12_bed im_X12_bed se_X12_bed lwl_29 (by decide) rfl rfl mem_M0 (Nat.le_of_ble_eq_true rfl) (vv_ok rfl) rfl ⟨Nat.le_of_ble_eq_true rfl, Nat.le_of_ble_eq_true rfl⟩ hcs dl_311 hl.1 (by show 1 + 0 ≤ 8; omega) rfl (fun H2 locs2 hP2 hPo2 hS2 => ?_)
  refine lv_icmp_eq (tgt := 1771) X.1 X.2.1 dl_314 (by decide) (fun _ => ?_) (fun q => absurd rfl q)
  exact kk X' M' H2 locs2 hR' ⟨hPo2, hP2, hS2⟩
set_option maxHeartbeats 2000000 in
set_option maxRecDepth 20000 in
theorem law_3 {D : va_G} {cA : Nat → ClassId} {adX adM : Nat → Nat → Nat} {b L : Nat} {xs : Nat → Int32} {p : Program} {l : Launch} {e : Env} {s : State} {m : MethodId} {below : List Frame} {meth : Method} {c : Code} {A : Nat → Prop} {Q : State → Prop} {cs sl : Nat} (C : LwC D cA adX adM b L xs p s m c A) {n i : Nat} {X0 M : St} {H : Heap} {locs : List Loc} {ls : Array Slot} (hR : Rel n X0 M) (hn : n ≤ 600) (hi : i + 7 ≤ L) (hW : LwW D cA adX adM A s X0 M H locs) (hl : lv_has ls 4 [(3, .int (iI (i : Int))), (2, .ref (adM 12 0)), (1, .ref (adX 11 0)), (0, .ref b)]) (hcs : cs ≤ room_1.cells ∧ sl ≤ room_1.slots) (kk : ∀ (X' M' : St) (H' : Heap) (locs' : List Loc), Rel (n + 1) X' M' → LwW D cA adX adM A s X' M' H' locs' → W p l e room_1 s m #[Value.ref b] below meth c H' locs' cs sl Q (F0 m 1771 ls [])) : W p l e room_1 s m #[Value.ref b] below meth c H locs cs sl Q (F0 m 319 ls []) := by
  obtain ⟨X, hX, hbl, hbA, hA, hL, hDX, hDM, hne⟩ := C
  obtain ⟨r, X', M', hf, hg, hR'⟩ := op_cavern hR (xs (i + 1)) (xs (i + 2)) (xs (i + 3))
  refine lv_aload_n X.1 X.2.1 dl_319 rfl (lv_at hl 2 rfl) ?_
  refine lw_arg (k := 1) (lk := 1) X hX hbl hbA hW.2.2 (lv_at hl 3 rfl) (lv_at hl 0 rfl) hL (by omega) dl_320 dl_321 (fun h => lv_iconst (v := iI ((1 : Nat) : Int)) X.1 X.2.1 dl_322 (by decide) h) dl_323 dl_324 ?_
  refine lw_arg (k := 2) (lk := 1) X hX hbl hbA hW.2.2 (lv_at hl 3 rfl) (lv_at hl 0 rfl) hL (by omega) dl_325 dl_326 (fun h => lv_iconst (v := iI ((2 : Nat) : Int)) X.1 X.2.1 dl_327 (by decide) h) dl_328 dl_329 ?_
  refine lw_arg (k := 3) (lk := 1) X hX hbl hbA hW.2.2 (lv_at hl 3 rfl) (lv_at hl 0 rfl) hL (by omega) dl_330 dl_331 (fun h => lv_iconst (v := iI ((3 : Nat) : Int)) X.1 X.2.1 dl_332 (by decide) h) dl_333 dl_334 ?_
  refine lw_call (cells := cellsX) (other := cellsM) (kd := 11) (mid := 1413) (nL' := 5) (as := [vI (xs (i + 1)), vI (xs (i + 2)), vI (xs (i + 3))]) (rest := []) X hA cl_X hW.1 hW.2.1 hDX hDM hne hW.2.2 (toI_run hf) e_1413 ce_X11_cavern im_X11_cavern se_X11_cavern lwl_30 (by decide) rfl rfl mem_X0 (Nat.le_of_ble_eq_true rfl) (vv_ok rfl) rfl ⟨Nat.le_of_ble_eq_true rfl, Nat.le_of_ble_eq_true rfl⟩ hcs dl_335 hl.1 (by decide) rfl (fun H1 locs1 hP1 hPo1 hS1 => ?_)
  have hW : LwW D cA adX adM A s X' M H1 locs1 := ⟨hP1, hPo1, hS1⟩
  refine lv_aload_n X.1 X.2.1 dl_338 rfl (lv_at hl 1 rfl) ?_
  refine lw_arg (k := 1) (lk := 1) X hX hbl hbA hW.2.2 (lv_at hl 3 rfl) (lv_at hl 0 rfl) hL (by omega) dl_339 dl_340 (fun h => lv_iconst (v := iI ((1 : Nat) : Int)) X.1 X.2.1 dl_341 (by decide) h) dl_342 dl_343 ?_
  refine lw_arg (k := 2) (lk := 1) X hX hbl hbA hW.2.2 (lv_at hl 3 rfl) (lv_at hl 0 rfl) hL (by omega) dl_344 dl_345 (fun h => lv_iconst (v := iI ((2 : Nat) : Int)) X.1 X.2.1 dl_346 (by decide) h) dl_347 dl_348 ?_
  refine lw_arg (k := 3) (lk := 1) X hX hbl hbA hW.2.2 (lv_at hl 3 rfl) (lv_at hl 0 rfl) hL (by omega) dl_349 dl_350 (fun h => lv_iconst (v := iI ((3 : Nat) : Int)) X.1 X.2.1 dl_351 (by decide) h) dl_352 dl_353 ?_
  refine lw_call (cells := cellsM) (other := cellsX) (kd := 12) (mid := 1549) (nL' := 7) (as := [vI (xs (i + 1)), vI (xs (i + 2)), vI (xs (i + 3))]) (rest := [.int r]) X hA cl_M hW.2.1 hW.1 hDM hDX (fun k i k' i' h h' q => hne k' i' k i h' h q.symm) hW.2.2 (toI_run hg) e_1549 ce_X12_cavern im_X12_cavern se_X12_cavern lwl_34 (by decide) rfl rfl mem_M0 (Nat.le_of_ble_eq_true rfl) (vv_ok rfl) rfl ⟨Nat.le_of_ble_eq_true rfl, Nat.le_of_ble_eq_true rfl⟩ hcs dl_354 hl.1 (by show 1 + 0 ≤ 8; omega) rfl (fun H2 locs2 hP2 hPo2 hS2 => ?_)
  refine lv_icmp_eq (tgt := 1771) X.1 X.2.1 dl_357 (by decide) (fun _ => ?_) (fun q => absurd rfl q)
  exact kk X' M' H2 locs2 hR' ⟨hPo2, hP2, hS2⟩
set_option maxHeartbeats 2000000 in
set_option maxRecDepth 20000 in
theorem law_4 {D : va_G} {cA : Nat → ClassId} {adX adM : Nat → Nat → Nat} {b L : Nat} {xs : Nat → Int32} {p : Program} {l : Launch} {e : Env} {s : State} {m : MethodId} {below : List Frame} {meth : Method} {c : Code} {A : Nat → Prop} {Q : State → Prop} {cs sl : Nat} (C : LwC D cA adX adM b L xs p s m c A) {n i : Nat} {X0 M : St} {H : Heap} {locs : List Loc} {ls : Array Slot} (hR : Rel n X0 M) (hn : n ≤ 600) (hi : i + 7 ≤ L) (hW : LwW D cA adX adM A s X0 M H locs) (hl : lv_has ls 4 [(3, .int (iI (i : Int))), (2, .ref (adM 12 0)), (1, .ref (adX 11 0)), (0, .ref b)]) (hcs : cs ≤ room_1.cells ∧ sl ≤ room_1.slots) (kk : ∀ (X' M' : St) (H' : Heap) (locs' : List Loc), Rel (n + 1) X' M' → LwW D cA adX adM A s X' M' H' locs' → W p l e room_1 s m #[Value.ref b] below meth c H' locs' cs sl Q (F0 m 1771 ls [])) : W p l e room_1 s m #[Value.ref b] below meth c H locs cs sl Q (F0 m 362 ls []) := by
  obtain ⟨X, hX, hbl, hbA, hA, hL, hDX, hDM, hne⟩ := C
  obtain ⟨r, X', M', hf, hg, hR'⟩ := op_string hR (xs (i + 1)) (xs (i + 2)) (xs (i + 3)) (xs (i + 4))
  refine lv_aload_n X.1 X.2.1 dl_362 rfl (lv_at hl 2 rfl) ?_
  refine lw_arg (k := 1) (lk := 1) X hX hbl hbA hW.2.2 (lv_at hl 3 rfl) (lv_at hl 0 rfl) hL (by omega) dl_363 dl_364 (fun h => lv_iconst (v := iI ((1 : Nat) : Int)) X.1 X.2.1 dl_365 (by decide) h) dl_366 dl_367 ?_
  refine lw_arg (k := 2) (lk := 1) X hX hbl hbA hW.2.2 (lv_at hl 3 rfl) (lv_at hl 0 rfl) hL (by omega) dl_368 dl_369 (fun h => lv_iconst (v := iI ((2 : Nat) : Int)) X.1 X.2.1 dl_370 (by decide) h) dl_371 dl_372 ?_
  refine lw_arg (k := 3) (lk := 1) X hX hbl hbA hW.2.2 (lv_at hl 3 rfl) (lv_at hl 0 rfl) hL (by omega) dl_373 dl_374 (fun h => lv_iconst (v := iI ((3 : Nat) : Int)) X.1 X.2.1 dl_375 (by decide) h) dl_376 dl_377 ?_
  refine lw_arg (k := 4) (lk := 1) X hX hbl hbA hW.2.2 (lv_at hl 3 rfl) (lv_at hl 0 rfl) hL (by omega) dl_378 dl_379 (fun h => lv_iconst (v := iI ((4 : Nat) : Int)) X.1 X.2.1 dl_380 (by decide) h) dl_381 dl_382 ?_
  refine lw_call (cells := cellsX) (other := cellsM) (kd := 11) (mid := 1415) (nL' := 6) (as := [vI (xs (i + 1)), vI (xs (i + 2)), vI (xs (i + 3)), vI (xs (i + 4))]) (rest := []) X hA cl_X hW.1 hW.2.1 hDX hDM hne hW.2.2 (toI_run hf) e_1415 ce_X11_string im_X11_string se_X11_string lwl_35 (by decide) rfl rfl mem_X0 (Nat.le_of_ble_eq_true rfl) (vv_ok rfl) rfl ⟨Nat.le_of_ble_eq_true rfl, Nat.le_of_ble_eq_true rfl⟩ hcs dl_383 hl.1 (by decide) rfl (fun H1 locs1 hP1 hPo1 hS1 => ?_)
  have hW : LwW D cA adX adM A s X' M H1 locs1 := ⟨hP1, hPo1, hS1⟩
  refine lv_aload_n X.1 X.2.1 dl_386 rfl (lv_at hl 1 rfl) ?_
  refine lw_arg (k := 1) (lk := 1) X hX hbl hbA hW.2.2 (lv_at hl 3 rfl) (lv_at hl 0 rfl) hL (by omega) dl_387 dl_388 (fun h => lv_iconst (v := iI ((1 : Nat) : Int)) X.1 X.2.1 dl_389 (by decide) h) dl_390 dl_391 ?_
  refine lw_arg (k := 2) (lk := 1) X hX hbl hbA hW.2.2 (lv_at hl 3 rfl) (lv_at hl 0 rfl) hL (by omega) dl_392 dl_393 (fun h => lv_iconst (v := iI ((2 : Nat) : Int)) X.1 X.2.1 dl_394 (by decide) h) dl_395 dl_396 ?_
  refine lw_arg (k := 3) (lk := 1) X hX hbl hbA hW.2.2 (lv_at hl 3 rfl) (lv_at hl 0 rfl) hL (by omega) dl_397 dl_398 (fun h => lv_iconst (v := iI ((3 : Nat) : Int)) X.1 X.2.1 dl_399 (by decide) h) dl_400 dl_401 ?_
  refine lw_arg (k := 4) (lk := 1) X hX hbl hbA hW.2.2 (lv_at hl 3 rfl) (lv_at hl 0 rfl) hL (by omega) dl_402 dl_403 (fun h => lv_iconst (v := iI ((4 : Nat) : Int)) X.1 X.2.1 dl_404 (by decide) h) dl_405 dl_406 ?_
  refine lw_call (cells := cellsM) (other := cellsX) (kd := 12) (mid := 1551) (nL' := 5) (as := [vI (xs (i + 1)), vI (xs (i + 2)), vI (xs (i + 3)), vI (xs (i + 4))]) (rest := [.int r]) X hA cl_M hW.2.1 hW.1 hDM hDX (fun k i k' i' h h' q => hne k' i' k i h' h q.symm) hW.2.2 (toI_run hg) e_1551 ce_X12_string im_X12_string se_X12_string lwl_39 (by decide) rfl rfl mem_M0 (Nat.le_of_ble_eq_true rfl) (vv_ok rfl) rfl ⟨Nat.le_of_ble_eq_true rfl, Nat.le_of_ble_eq_true rfl⟩ hcs dl_407 hl.1 (by show 1 + 0 ≤ 8; omega) rfl (fun H2 locs2 hP2 hPo2 hS2 => ?_)
  refine lv_icmp_eq (tgt := 1771) X.1 X.2.1 dl_410 (by decide) (fun _ => ?_) (fun q => absurd rfl q)
  exact kk X' M' H2 locs2 hR' ⟨hPo2, hP2, hS2⟩
set_option maxHeartbeats 2000000 in
set_option maxRecDepth 20000 in
theorem law_5 {D : va_G} {cA : Nat → ClassId} {adX adM : Nat → Nat → Nat} {b L : Nat} {xs : Nat → Int32} {p : Program} {l : Launch} {e : Env} {s : State} {m : MethodId} {below : List Frame} {meth : Method} {c : Code} {A : Nat → Prop} {Q : State → Prop} {cs sl : Nat} (C : LwC D cA adX adM b L xs p s m c A) {n i : Nat} {X0 M : St} {H : Heap} {locs : List Loc} {ls : Array Slot} (hR : Rel n X0 M) (hn : n ≤ 600) (hi : i + 7 ≤ L) (hW : LwW D cA adX adM A s X0 M H locs) (hl : lv_has ls 4 [(3, .int (iI (i : Int))), (2, .ref (adM 12 0)), (1, .ref (adX 11 0)), (0, .ref b)]) (hcs : cs ≤ room_1.cells ∧ sl ≤ room_1.slots) (kk : ∀ (X' M' : St) (H' : Heap) (locs' : List Loc), Rel (n + 1) X' M' → LwW D cA adX adM A s X' M' H' locs' → W p l e room_1 s m #[Value.ref b] below meth c H' locs' cs sl Q (F0 m 1771 ls [])) : W p l e room_1 s m #[Value.ref b] below meth c H locs cs sl Q (F0 m 415 ls []) := by
  obtain ⟨X, hX, hbl, hbA, hA, hL, hDX, hDM, hne⟩ := C
  obtain ⟨r, X', M', hf, hg, hR'⟩ := op_law hR (xs (i + 1)) (xs (i + 2))
  refine lv_aload_n X.1 X.2.1 dl_415 rfl (lv_at hl 2 rfl) ?_
  refine lw_arg (k := 1) (lk := 1) X hX hbl hbA hW.2.2 (lv_at hl 3 rfl) (lv_at hl 0 rfl) hL (by omega) dl_416 dl_417 (fun h => lv_iconst (v := iI ((1 : Nat) : Int)) X.1 X.2.1 dl_418 (by decide) h) dl_419 dl_420 ?_
  refine lw_arg (k := 2) (lk := 1) X hX hbl hbA hW.2.2 (lv_at hl 3 rfl) (lv_at hl 0 rfl) hL (by omega) dl_421 dl_422 (fun h => lv_iconst (v := iI ((2 : Nat) : Int)) X.1 X.2.1 dl_423 (by decide) h) dl_424 dl_425 ?_
  refine lw_call (cells := cellsX) (other := cellsM) (kd := 11) (mid := 1417) (nL' := 5) (as := [vI (xs (i + 1)), vI (xs (i + 2))]) (rest := []) X hA cl_X hW.1 hW.2.1 hDX hDM hne hW.2.2 (toI_run hf) e_1417 ce_X11_law im_X11_law se_X11_law lwl_40 (by decide) rfl rfl mem_X0 (Nat.le_of_ble_eq_true rfl) (vv_ok rfl) rfl ⟨Nat.le_of_ble_eq_true rfl, Nat.le_of_ble_eq_true rfl⟩ hcs dl_426 hl.1 (by decide) rfl (fun H1 locs1 hP1 hPo1 hS1 => ?_)
  have hW : LwW D cA adX adM A s X' M H1 locs1 := ⟨hP1, hPo1, hS1⟩
  refine lv_aload_n X.1 X.2.1 dl_429 rfl (lv_at hl 1 rfl) ?_
  refine lw_arg (k := 1) (lk := 1) X hX hbl hbA hW.2.2 (lv_at hl 3 rfl) (lv_at hl 0 rfl) hL (by omega) dl_430 dl_431 (fun h => lv_iconst (v := iI ((1 : Nat) : Int)) X.1 X.2.1 dl_432 (by decide) h) dl_433 dl_434 ?_
  refine lw_arg (k := 2) (lk := 1) X hX hbl hbA hW.2.2 (lv_at hl 3 rfl) (lv_at hl 0 rfl) hL (by omega) dl_435 dl_436 (fun h => lv_iconst (v := iI ((2 : Nat) : Int)) X.1 X.2.1 dl_437 (by decide) h) dl_438 dl_439 ?_
  refine lw_call (cells := cellsM) (other := cellsX) (kd := 12) (mid := 1559) (nL' := 5) (as := [vI (xs (i + 1)), vI (xs (i + 2))]) (rest := [.int r]) X hA cl_M hW.2.1 hW.1 hDM hDX (fun k i k' i' h h' q => hne k' i' k i h' h q.symm) hW.2.2 (toI_run hg) e_1559 ce_X12_law im_X12_law se_X12_law lwl_44 (by decide) rfl rfl mem_M0 (Nat.le_of_ble_eq_true rfl) (vv_ok rfl) rfl ⟨Nat.le_of_ble_eq_true rfl, Nat.le_of_ble_eq_true rfl⟩ hcs dl_440 hl.1 (by show 1 + 0 ≤ 8; omega) rfl (fun H2 locs2 hP2 hPo2 hS2 => ?_)
  refine lv_icmp_eq (tgt := 1771) X.1 X.2.1 dl_443 (by decide) (fun _ => ?_) (fun q => absurd rfl q)
  exact kk X' M' H2 locs2 hR' ⟨hPo2, hP2, hS2⟩
set_option maxHeartbeats 2000000 in
set_option maxRecDepth 20000 in
theorem law_6 {D : va_G} {cA : Nat → ClassId} {adX adM : Nat → Nat → Nat} {b L : Nat} {xs : Nat → Int32} {p : Program} {l : Launch} {e : Env} {s : State} {m : MethodId} {below : List Frame} {meth : Method} {c : Code} {A : Nat → Prop} {Q : State → Prop} {cs sl : Nat} (C : LwC D cA adX adM b L xs p s m c A) {n i : Nat} {X0 M : St} {H : Heap} {locs : List Loc} {ls : Array Slot} (hR : Rel n X0 M) (hn : n ≤ 600) (hi : i + 7 ≤ L) (hW : LwW D cA adX adM A s X0 M H locs) (hl : lv_has ls 4 [(3, .int (iI (i : Int))), (2, .ref (adM 12 0)), (1, .ref (adX 11 0)), (0, .ref b)]) (hcs : cs ≤ room_1.cells ∧ sl ≤ room_1.slots) (kk : ∀ (X' M' : St) (H' : Heap) (locs' : List Loc), Rel (n + 1) X' M' → LwW D cA adX adM A s X' M' H' locs' → W p l e room_1 s m #[Value.ref b] below meth c H' locs' cs sl Q (F0 m 1771 ls [])) : W p l e room_1 s m #[Value.ref b] below meth c H locs cs sl Q (F0 m 448 ls []) := by
  obtain ⟨X, hX, hbl, hbA, hA, hL, hDX, hDM, hne⟩ := C
  obtain ⟨r, X', M', hf, hg, hR'⟩ := op_step hn hR (xs (i + 1)) (xs (i + 2))
  refine lv_aload_n X.1 X.2.1 dl_448 rfl (lv_at hl 2 rfl) ?_
  refine lw_arg (k := 1) (lk := 1) X hX hbl hbA hW.2.2 (lv_at hl 3 rfl) (lv_at hl 0 rfl) hL (by omega) dl_449 dl_450 (fun h => lv_iconst (v := iI ((1 : Nat) : Int)) X.1 X.2.1 dl_451 (by decide) h) dl_452 dl_453 ?_
  refine lw_arg (k := 2) (lk := 1) X hX hbl hbA hW.2.2 (lv_at hl 3 rfl) (lv_at hl 0 rfl) hL (by omega) dl_454 dl_455 (fun h => lv_iconst (v := iI ((2 : Nat) : Int)) X.1 X.2.1 dl_456 (by decide) h) dl_457 dl_458 ?_
  refine lw_call (cells := cellsX) (other := cellsM) (kd := 11) (mid := 1418) (nL' := 6) (as := [vI (xs (i + 1)), vI (xs (i + 2))]) (rest := []) X hA cl_X hW.1 hW.2.1 hDX hDM hne hW.2.2 (toI_run hf) e_1418 ce_X11_step im_X11_step se_X11_step lwl_45 (by decide) rfl rfl mem_X0 (Nat.le_of_ble_eq_true rfl) (vv_ok rfl) rfl ⟨Nat.le_of_ble_eq_true rfl, Nat.le_of_ble_eq_true rfl⟩ hcs dl_459 hl.1 (by decide) rfl (fun H1 locs1 hP1 hPo1 hS1 => ?_)
  have hW : LwW D cA adX adM A s X' M H1 locs1 := ⟨hP1, hPo1, hS1⟩
  refine lv_aload_n X.1 X.2.1 dl_462 rfl (lv_at hl 1 rfl) ?_
  refine lw_arg (k := 1) (lk := 1) X hX hbl hbA hW.2.2 (lv_at hl 3 rfl) (lv_at hl 0 rfl) hL (by omega) dl_463 dl_464 (fun h => lv_iconst (v := iI ((1 : Nat) : Int)) X.1 X.2.1 dl_465 (by decide) h) dl_466 dl_467 ?_
  refine lw_arg (k := 2) (lk := 1) X hX hbl hbA hW.2.2 (lv_at hl 3 rfl) (lv_at hl 0 rfl) hL (by omega) dl_468 dl_469 (fun h => lv_iconst (v := iI ((2 : Nat) : Int)) X.1 X.2.1 dl_470 (by decide) h) dl_471 dl_472 ?_
  refine lw_call (cells := cellsM) (other := cellsX) (kd := 12) (mid := 1560) (nL' := 8) (as := [vI (xs (i + 1)), vI (xs (i + 2))]) (rest := [.int r]) X hA cl_M hW.2.1 hW.1 hDM hDX (fun k i k' i' h h' q => hne k' i' k i h' h q.symm) hW.2.2 (toI_run hg) e_1560 ce_X12_step im_X12_step se_X12_step lwl_48 (by decide) rfl rfl mem_M0 (Nat.le_of_ble_eq_true rfl) (vv_ok rfl) rfl ⟨Nat.le_of_ble_eq_true rfl, Nat.le_of_ble_eq_true rfl⟩ hcs dl_473 hl.1 (by show 1 + 0 ≤ 8; omega) rfl (fun H2 locs2 hP2 hPo2 hS2 => ?_)
  refine lv_icmp_eq (tgt := 1771) X.1 X.2.1 dl_476 (by decide) (fun _ => ?_) (fun q => absurd rfl q)
  exact kk X' M' H2 locs2 hR' ⟨hPo2, hP2, hS2⟩
set_option maxHeartbeats 2000000 in
set_option maxRecDepth 20000 in
theorem law_7 {D : va_G} {cA : Nat → ClassId} {adX adM : Nat → Nat → Nat} {b L : Nat} {xs : Nat → Int32} {p : Program} {l : Launch} {e : Env} {s : State} {m : MethodId} {below : List Frame} {meth : Method} {c : Code} {A : Nat → Prop} {Q : State → Prop} {cs sl : Nat} (C : LwC D cA adX adM b L xs p s m c A) {n i : Nat} {X0 M : St} {H : Heap} {locs : List Loc} {ls : Array Slot} (hR : Rel n X0 M) (hn : n ≤ 600) (hi : i + 7 ≤ L) (hW : LwW D cA adX adM A s X0 M H locs) (hl : lv_has ls 4 [(3, .int (iI (i : Int))), (2, .ref (adM 12 0)), (1, .ref (adX 11 0)), (0, .ref b)]) (hcs : cs ≤ room_1.cells ∧ sl ≤ room_1.slots) (kk : ∀ (X' M' : St) (H' : Heap) (locs' : List Loc), Rel (n + 1) X' M' → LwW D cA adX adM A s X' M' H' locs' → W p l e room_1 s m #[Value.ref b] below meth c H' locs' cs sl Q (F0 m 1771 ls [])) : W p l e room_1 s m #[Value.ref b] below meth c H locs cs sl Q (F0 m 481 ls []) := by
  obtain ⟨X, hX, hbl, hbA, hA, hL, hDX, hDM, hne⟩ := C
  obtain ⟨r, X', M', hf, hg, hR'⟩ := op_half hn hR (xs (i + 1)) (xs (i + 2))
  refine lv_aload_n X.1 X.2.1 dl_481 rfl (lv_at hl 2 rfl) ?_
  refine lw_arg (k := 1) (lk := 1) X hX hbl hbA hW.2.2 (lv_at hl 3 rfl) (lv_at hl 0 rfl) hL (by omega) dl_482 dl_483 (fun h => lv_iconst (v := iI ((1 : Nat) : Int)) X.1 X.2.1 dl_484 (by decide) h) dl_485 dl_486 ?_
  refine lw_arg (k := 2) (lk := 1) X hX hbl hbA hW.2.2 (lv_at hl 3 rfl) (lv_at hl 0 rfl) hL (by omega) dl_487 dl_488 (fun h => lv_iconst (v := iI ((2 : Nat) : Int)) X.1 X.2.1 dl_489 (by decide) h) dl_490 dl_491 ?_
  refine lw_call (cells := cellsX) (other := cellsM) (kd := 11) (mid := 1421) (nL' := 6) (as := [vI (xs (i + 1)), vI (xs (i + 2))]) (rest := []) X hA cl_X hW.1 hW.2.1 hDX hDM hne hW.2.2 (toI_run hf) e_1421 ce_X11_half im_X11_half se_X11_half lwl_49 (by decide) rfl rfl mem_X0 (Nat.le_of_ble_eq_true rfl) (vv_ok rfl) rfl ⟨Nat.le_of_ble_eq_true rfl, Nat.le_of_ble_eq_true rfl⟩ hcs dl_492 hl.1 (by decide) rfl (fun H1 locs1 hP1 hPo1 hS1 => ?_)
  have hW : LwW D cA adX adM A s X' M H1 locs1 := ⟨hP1, hPo1, hS1⟩
  refine lv_aload_n X.1 X.2.1 dl_495 rfl (lv_at hl 1 rfl) ?_
  refine lw_arg (k := 1) (lk := 1) X hX hbl hbA hW.2.2 (lv_at hl 3 rfl) (lv_at hl 0 rfl) hL (by omega) dl_496 dl_497 (fun h => lv_iconst (v := iI ((1 : Nat) : Int)) X.1 X.2.1 dl_498 (by decide) h) dl_499 dl_500 ?_
  refine lw_arg (k := 2) (lk := 1) X hX hbl hbA hW.2.2 (lv_at hl 3 rfl) (lv_at hl 0 rfl) hL (by omega) dl_501 dl_502 (fun h => lv_iconst (v := iI ((2 : Nat) : Int)) X.1 X.2.1 dl_503 (by decide) h) dl_504 dl_505 ?_
  refine lw_call (cells := cellsM) (other := cellsX) (kd := 12) (mid := 1571) (nL' := 6) (as := [vI (xs (i + 1)), vI (xs (i + 2))]) (rest := [.int r]) X hA cl_M hW.2.1 hW.1 hDM hDX (fun k i k' i' h h' q => hne k' i' k i h' h q.symm) hW.2.2 (toI_run hg) e_1571 ce_X12_half im_X12_half se_X12_half lwl_52 (by decide) rfl rfl mem_M0 (Nat.le_of_ble_eq_true rfl) (vv_ok rfl) rfl ⟨Nat.le_of_ble_eq_true rfl, Nat.le_of_ble_eq_true rfl⟩ hcs dl_506 hl.1 (by show 1 + 0 ≤ 8; omega) rfl (fun H2 locs2 hP2 hPo2 hS2 => ?_)
  refine lv_icmp_eq (tgt := 1771) X.1 X.2.1 dl_509 (by decide) (fun _ => ?_) (fun q => absurd rfl q)
  exact kk X' M' H2 locs2 hR' ⟨hPo2, hP2, hS2⟩
set_option maxHeartbeats 2000000 in
set_option maxRecDepth 20000 in
theorem law_8 {D : va_G} {cA : Nat → ClassId} {adX adM : Nat → Nat → Nat} {b L : Nat} {xs : Nat → Int32} {p : Program} {l : Launch} {e : Env} {s : State} {m : MethodId} {below : List Frame} {meth : Method} {c : Code} {A : Nat → Prop} {Q : State → Prop} {cs sl : Nat} (C : LwC D cA adX adM b L xs p s m c A) {n i : Nat} {X0 M : St} {H : Heap} {locs : List Loc} {ls : Array Slot} (hR : Rel n X0 M) (hn : n ≤ 600) (hi : i + 7 ≤ L) (hW : LwW D cA adX adM A s X0 M H locs) (hl : lv_has ls 4 [(3, .int (iI (i : Int))), (2, .ref (adM 12 0)), (1, .ref (adX 11 0)), (0, .ref b)]) (hcs : cs ≤ room_1.cells ∧ sl ≤ room_1.slots) (kk : ∀ (X' M' : St) (H' : Heap) (locs' : List Loc), Rel (n + 1) X' M' → LwW D cA adX adM A s X' M' H' locs' → W p l e room_1 s m #[Value.ref b] below meth c H' locs' cs sl Q (F0 m 1771 ls [])) : W p l e room_1 s m #[Value.ref b] below meth c H locs cs sl Q (F0 m 514 ls []) := by
  obtain ⟨X, hX, hbl, hbA, hA, hL, hDX, hDM, hne⟩ := C
  obtain ⟨r, X', M', hf, hg, hR'⟩ := op_ring hR (xs (i + 1)) (xs (i + 2)) (xs (i + 3))
  refine lv_aload_n X.1 X.2.1 dl_514 rfl (lv_at hl 2 rfl) ?_
  refine lw_arg (k := 1) (lk := 1) X hX hbl hbA hW.2.2 (lv_at hl 3 rfl) (lv_at hl 0 rfl) hL (by omega) dl_515 dl_516 (fun h => lv_iconst (v := iI ((1 : Nat) : Int)) X.1 X.2.1 dl_517 (by decide) h) dl_518 dl_519 ?_
  refine lw_arg (k := 2) (lk := 1) X hX hbl hbA hW.2.2 (lv_at hl 3 rfl) (lv_at hl 0 rfl) hL (by omega) dl_520 dl_521 (fun h => lv_iconst (v := iI ((2 : Nat) : Int)) X.1 X.2.1 dl_522 (by decide) h) dl_523 dl_524 ?_
  refine lw_arg (k := 3) (lk := 1) X hX hbl hbA hW.2.2 (lv_at hl 3 rfl) (lv_at hl 0 rfl) hL (by omega) dl_525 dl_526 (fun h => lv_iconst (v := iI ((3 : Nat) : Int)) X.1 X.2.1 dl_527 (by decide) h) dl_528 dl_529 ?_
  refine lw_call (cells := cellsX) (other := cellsM) (kd := 11) (mid := 1422) (nL' := 5) (as := [vI (xs (i + 1)), vI (xs (i + 2)), vI (xs (i + 3))]) (rest := []) X hA cl_X hW.1 hW.2.1 hDX hDM hne hW.2.2 (toI_run hf) e_1422 ce_X11_ring im_X11_ring se_X11_ring lwl_53 (by decide) rfl rfl mem_X0 (Nat.le_of_ble_eq_true rfl) (vv_ok rfl) rfl ⟨Nat.le_of_ble_eq_true rfl, Nat.le_of_ble_eq_true rfl⟩ hcs dl_530 hl.1 (by decide) rfl (fun H1 locs1 hP1 hPo1 hS1 => ?_)
  have hW : LwW D cA adX adM A s X' M H1 locs1 := ⟨hP1, hPo1, hS1⟩
  refine lv_aload_n X.1 X.2.1 dl_533 rfl (lv_at hl 1 rfl) ?_
  refine lw_arg (k := 1) (lk := 1) X hX hbl hbA hW.2.2 (lv_at hl 3 rfl) (lv_at hl 0 rfl) hL (by omega) dl_534 dl_535 (fun h => lv_iconst (v := iI ((1 : Nat) : Int)) X.1 X.2.1 dl_536 (by decide) h) dl_537 dl_538 ?_
  refine lw_arg (k := 2) (lk := 1) X hX hbl hbA hW.2.2 (lv_at hl 3 rfl) (lv_at hl 0 rfl) hL (by omega) dl_539 dl_540 (fun h => lv_iconst (v := iI ((2 : Nat) : Int)) X.1 X.2.1 dl_541 (by decide) h) dl_542 dl_543 ?_
  refine lw_arg (k := 3) (lk := 1) X hX hbl hbA hW.2.2 (lv_at hl 3 rfl) (lv_at hl 0 rfl) hL (by omega) dl_544 dl_545 (fun h => lv_iconst (v := iI ((3 : Nat) : Int)) X.1 X.2.1 dl_546 (by decide) h) dl_547 dl_548 ?_
  refine lw_call (cells := cellsM) (other := cellsX) (kd := 12) (mid := 1573) (nL' := 4) (as := [vI (xs (i + 1)), vI (xs (i + 2)), vI (xs (i + 3))]) (rest := [.int r]) X hA cl_M hW.2.1 hW.1 hDM hDX (fun k i k' i' h h' q => hne k' i' k i h' h q.symm) hW.2.2 (toI_run hg) e_1573 ce_X12_ring im_X12_ring se_X12_ring lwl_56 (by decide) rfl rfl mem_M0 (Nat.le_of_ble_eq_true rfl) (vv_ok rfl) rfl ⟨Nat.le_of_ble_eq_true rfl, Nat.le_of_ble_eq_true rfl⟩ hcs dl_549 hl.1 (by show 1 + 0 ≤ 8; omega) rfl (fun H2 locs2 hP2 hPo2 hS2 => ?_)
  refine lv_icmp_eq (tgt := 1771) X.1 X.2.1 dl_552 (by decide) (fun _ => ?_) (fun q => absurd rfl q)
  exact kk X' M' H2 locs2 hR' ⟨hPo2, hP2, hS2⟩
set_option maxHeartbeats 2000000 in
set_option maxRecDepth 20000 in
theorem law_9 {D : va_G} {cA : Nat → ClassId} {adX adM : Nat → Nat → Nat} {b L : Nat} {xs : Nat → Int32} {p : Program} {l : Launch} {e : Env} {s : State} {m : MethodId} {below : List Frame} {meth : Method} {c : Code} {A : Nat → Prop} {Q : State → Prop} {cs sl : Nat} (C : LwC D cA adX adM b L xs p s m c A) {n i : Nat} {X0 M : St} {H : Heap} {locs : List Loc} {ls : Array Slot} (hR : Rel n X0 M) (hn : n ≤ 600) (hi : i + 7 ≤ L) (hW : LwW D cA adX adM A s X0 M H locs) (hl : lv_has ls 4 [(3, .int (iI (i : Int))), (2, .ref (adM 12 0)), (1, .ref (adX 11 0)), (0, .ref b)]) (hcs : cs ≤ room_1.cells ∧ sl ≤ room_1.slots) (kk : ∀ (X' M' : St) (H' : Heap) (locs' : List Loc), Rel (n + 1) X' M' → LwW D cA adX adM A s X' M' H' locs' → W p l e room_1 s m #[Value.ref b] below meth c H' locs' cs sl Q (F0 m 1771 ls [])) : W p l e room_1 s m #[Value.ref b] below meth c H locs cs sl Q (F0 m 557 ls []) := by
  obtain ⟨X, hX, hbl, hbA, hA, hL, hDX, hDM, hne⟩ := C
  obtain ⟨r, X', M', hf, hg, hR'⟩ := op_of hn hR (xs (i + 1)) (xs (i + 2))
  refine lv_aload_n X.1 X.2.1 dl_557 rfl (lv_at hl 2 rfl) ?_
  refine lw_arg (k := 1) (lk := 1) X hX hbl hbA hW.2.2 (lv_at hl 3 rfl) (lv_at hl 0 rfl) hL (by omega) dl_558 dl_559 (fun h => lv_iconst (v := iI ((1 : Nat) : Int)) X.1 X.2.1 dl_560 (by decide) h) dl_561 dl_562 ?_
  refine lw_arg (k := 2) (lk := 1) X hX hbl hbA hW.2.2 (lv_at hl 3 rfl) (lv_at hl 0 rfl) hL (by omega) dl_563 dl_564 (fun h => lv_iconst (v := iI ((2 : Nat) : Int)) X.1 X.2.1 dl_565 (by decide) h) dl_566 dl_567 ?_
  refine lw_call (cells := cellsX) (other := cellsM) (kd := 11) (mid := 1423) (nL' := 4) (as := [vI (xs (i + 1)), vI (xs (i + 2))]) (rest := []) X hA cl_X hW.1 hW.2.1 hDX hDM hne hW.2.2 (toI_run hf) e_1423 ce_X11_of im_X11_of se_X11_of lwl_57 (by decide) rfl rfl mem_X0 (Nat.le_of_ble_eq_true rfl) (vv_ok rfl) rfl ⟨Nat.le_of_ble_eq_true rfl, Nat.le_of_ble_eq_true rfl⟩ hcs dl_568 hl.1 (by decide) rfl (fun H1 locs1 hP1 hPo1 hS1 => ?_)
  have hW : LwW D cA adX adM A s X' M H1 locs1 := ⟨hP1, hPo1, hS1⟩
  refine lv_aload_n X.1 X.2.1 dl_571 rfl (lv_at hl 1 rfl) ?_
  refine lw_arg (k := 1) (lk := 1) X hX hbl hbA hW.2.2 (lv_at hl 3 rfl) (lv_at hl 0 rfl) hL (by omega) dl_572 dl_573 (fun h => lv_iconst (v := iI ((1 : Nat) : Int)) X.1 X.2.1 dl_574 (by decide) h) dl_575 dl_576 ?_
  refine lw_arg (k := 2) (lk := 1) X hX hbl hbA hW.2.2 (lv_at hl 3 rfl) (lv_at hl 0 rfl) hL (by omega) dl_577 dl_578 (fun h => lv_iconst (v := iI ((2 : Nat) : Int)) X.1 X.2.1 dl_579 (by decide) h) dl_580 dl_581 ?_
  refine lw_call (cells := cellsM) (other := cellsX) (kd := 12) (mid := 1575) (nL' := 3) (as := [vI (xs (i + 1)), vI (xs (i + 2))]) (rest := [.int r]) X hA cl_M hW.2.1 hW.1 hDM hDX (fun k i k' i' h h' q => hne k' i' k i h' h q.symm) hW.2.2 (toI_run hg) e_1575 ce_X12_of im_X12_of se_X12_of lwl_60 (by decide) rfl rfl mem_M0 (Nat.le_of_ble_eq_true rfl) (vv_ok rfl) rfl ⟨Nat.le_of_ble_eq_true rfl, Nat.le_of_ble_eq_true rfl⟩ hcs dl_582 hl.1 (by show 1 + 0 ≤ 8; omega) rfl (fun H2 locs2 hP2 hPo2 hS2 => ?_)
  refine lv_icmp_eq (tgt := 1771) X.1 X.2.1 dl_585 (by decide) (fun _ => ?_) (fun q => absurd rfl q)
  exact kk X' M' H2 locs2 hR' ⟨hPo2, hP2, hS2⟩
set_option maxHeartbeats 2000000 in
set_option maxRecDepth 20000 in
theorem law_10 {D : va_G} {cA : Nat → ClassId} {adX adM : Nat → Nat → Nat} {b L : Nat} {xs : Nat → Int32} {p : Program} {l : Launch} {e : Env} {s : State} {m : MethodId} {below : List Frame} {meth : Method} {c : Code} {A : Nat → Prop} {Q : State → Prop} {cs sl : Nat} (C : LwC D cA adX adM b L xs p s m c A) {n i : Nat} {X0 M : St} {H : Heap} {locs : List Loc} {ls : Array Slot} (hR : Rel n X0 M) (hn : n ≤ 600) (hi : i + 7 ≤ L) (hW : LwW D cA adX adM A s X0 M H locs) (hl : lv_has ls 4 [(3, .int (iI (i : Int))), (2, .ref (adM 12 0)), (1, .ref (adX 11 0)), (0, .ref b)]) (hcs : cs ≤ room_1.cells ∧ sl ≤ room_1.slots) (kk : ∀ (X' M' : St) (H' : Heap) (locs' : List Loc), Rel (n + 1) X' M' → LwW D cA adX adM A s X' M' H' locs' → W p l e room_1 s m #[Value.ref b] below meth c H' locs' cs sl Q (F0 m 1771 ls [])) : W p l e room_1 s m #[Value.ref b] below meth c H locs cs sl Q (F0 m 590 ls []) := by
  obtain ⟨X, hX, hbl, hbA, hA, hL, hDX, hDM, hne⟩ := C
  obtain ⟨r, X', M', hf, hg, hR'⟩ := op_years hn hR (xs (i + 1))
  refine lv_aload_n X.1 X.2.1 dl_590 rfl (lv_at hl 2 rfl) ?_
  refine lw_arg (k := 1) (lk := 1) X hX hbl hbA hW.2.2 (lv_at hl 3 rfl) (lv_at hl 0 rfl) hL (by omega) dl_591 dl_592 (fun h => lv_iconst (v := iI ((1 : Nat) : Int)) X.1 X.2.1 dl_593 (by decide) h) dl_594 dl_595 ?_
  refine lw_call (cells := cellsX) (other := cellsM) (kd := 11) (mid := 1424) (nL' := 3) (as := [vI (xs (i + 1))]) (rest := []) X hA cl_X hW.1 hW.2.1 hDX hDM hne hW.2.2 (toI_run hf) e_1424 ce_X11_years im_X11_years se_X11_years lwl_61 (by decide) rfl rfl mem_X0 (Nat.le_of_ble_eq_true rfl) (vv_ok rfl) rfl ⟨Nat.le_of_ble_eq_true rfl, Nat.le_of_ble_eq_true rfl⟩ hcs dl_596 hl.1 (by decide) rfl (fun H1 locs1 hP1 hPo1 hS1 => ?_)
  have hW : LwW D cA adX adM A s X' M H1 locs1 := ⟨hP1, hPo1, hS1⟩
  refine lv_aload_n X.1 X.2.1 dl_599 rfl (lv_at hl 1 rfl) ?_
  refine lw_arg (k := 1) (lk := 1) X hX hbl hbA hW.2.2 (lv_at hl 3 rfl) (lv_at hl 0 rfl) hL (by omega) dl_600 dl_601 (fun h => lv_iconst (v := iI ((1 : Nat) : Int)) X.1 X.2.1 dl_602 (by decide) h) dl_603 dl_604 ?_
  refine lw_call (cells := cellsM) (other := cellsX) (kd := 12) (mid := 1581) (nL' := 5) (as := [vI (xs (i + 1))]) (rest := [.int r]) X hA cl_M hW.2.1 hW.1 hDM hDX (fun k i k' i' h h' q => hne k' i' k i h' h q.symm) hW.2.2 (toI_run hg) e_1581 ce_X12_years im_X12_years se_X12_years lwl_64 (by decide) rfl rfl mem_M0 (Nat.le_of_ble_eq_true rfl) (vv_ok rfl) rfl ⟨Nat.le_of_ble_eq_true rfl, Nat.le_of_ble_eq_true rfl⟩ hcs dl_605 hl.1 (by show 1 + 0 ≤ 8; omega) rfl (fun H2 locs2 hP2 hPo2 hS2 => ?_)
  refine lv_icmp_eq (tgt := 1771) X.1 X.2.1 dl_608 (by decide) (fun _ => ?_) (fun q => absurd rfl q)
  exact kk X' M' H2 locs2 hR' ⟨hPo2, hP2, hS2⟩
