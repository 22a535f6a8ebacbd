/-! THE LAW'S STRETCHES -/
theorem toI_run {c : Cfg} {r : Int32} {S' : St} (h : (RunT TB c).bind tI = some (r, S')) : RunT TB c = some (some (vI r), S') := by
  obtain ⟨q, h1, h2⟩ := Option.bind_eq_some_iff.mp h
  obtain ⟨v, S2⟩ := q
  rcases v with _ | v
  · cases h2
  rcases v with x | x | o
  · cases h2
    exact h1
  · cases h2
  · cases h2
def okA : PV → Bool
  | .inr (.inr _) => false
  | _ => true
theorem vv_ok {cells : List (Nat × Nat)} {as : List PV} (h : as.all okA = true) : ∀ v ∈ as, VV cells v := fun v hv => by
  have h1 := List.all_eq_true.mp h v hv
  rcases v with x | x | o
  · exact True.intro
  · exact True.intro
  · cases h1
def LwC (D : va_G) (cA : Nat → ClassId) (adX adM : Nat → Nat → Nat) (b L : Nat) (xs : Nat → Int32) (p : Program) (s : State) (m : MethodId) (c : Code) (A : Nat → Prop) : Prop :=
  Cw D cA "SaltRoomsLaw" code 4 p s m #[Value.ref b] c ∧ va_X b L xs s s.heap ∧ b < s.heap.size ∧ ¬ A b ∧ (∀ q, s.heap.size ≤ q → A q) ∧ L ≤ 3584 ∧ va_D A (wsO cA adX cellsX S0) ∧ va_D A (wsO cA adM cellsM S0) ∧ ∀ k i k' i', (k, i) ∈ cellsX → (k', i') ∈ cellsM → adX k i ≠ adM k' i'
def LwW (D : va_G) (cA : Nat → ClassId) (adX adM : Nat → Nat → Nat) (A : Nat → Prop) (s : State) (X M : St) (H : Heap) (locs : List Loc) : Prop := va_P D vwCl (wsO cA adX cellsX X) H ∧ va_P D vwCl (wsO cA adM cellsM M) H ∧ va_S A s.heap H locs
section LAW
variable {D : va_G} {cA : Nat → ClassId} {p : Program} {l : Launch} {e : Env} {R : Room} {s : State} {m : MethodId} {args : Array Value} {below : List Frame} {meth : Method} {c : Code} {H : Heap} {locs : List Loc} {cs sl : Nat} {Q : State → Prop} {A : Nat → Prop} {pc : Nat} {ls : Array Slot} {rest : List Value}
/-- a number of the script at i + k -/
theorem lw_arg (X : Cw D cA "SaltRoomsLaw" code 4 p s m args c) {b L i k lk : Nat} {xs : Nat → Int32} (hX : va_X b L xs s s.heap) (hbl : b < s.heap.size) (hbA : ¬ A b) (hS : va_S A s.heap H locs) (h0 : ls[0]? = some (.val (.ref b))) (h3 : ls[3]? = some (.val (.int (iI (i : Int))))) (hL : L ≤ 3584) (hk : i + k < L)
    (d0 : decode code pc = .ok (.aload_n 0, 1)) (d1 : decode code (pc + 1) = .ok (.iload_n 3, 1)) (d2 : W p l e R s m args below meth c H locs cs sl Q (F0 m (pc + 1 + 1 + lk) ls (.int (iI (k : Int)) :: .int (iI (i : Int)) :: .ref b :: rest)) → W p l e R s m args below meth c H locs cs sl Q (F0 m (pc + 1 + 1) ls (.int (iI (i : Int)) :: .ref b :: rest))) (d3 : decode code (pc + 1 + 1 + lk) = .ok (.iadd, 1)) (d4 : decode code (pc + 1 + 1 + lk + 1) = .ok (.iaload, 1))
    (kk : W p l e R s m args below meth c H locs cs sl Q (F0 m (pc + 1 + 1 + lk + 1 + 1) ls (.int (xs (i + k)) :: rest))) : W p l e R s m args below meth c H locs cs sl Q (F0 m pc ls rest) := by
  refine lv_aload_n X.1 X.2.1 d0 rfl h0 ?_
  refine lv_iload_n X.1 X.2.1 d1 rfl h3 ?_
  refine d2 ?_
  refine lv_iadd X.1 X.2.1 d3 ?_
  have e : iI (i : Int) + iI (k : Int) = iI ((i + k : Nat) : Int) := by rw [iI_add]; rfl
  have hc : (iI ((i + k : Nat) : Int)).toNatClampNeg = i + k := by rw [iI_cl (by omega)]; omega
  rw [e]
  refine va_sld X.1 X.2.1 hX hbl hbA hS (fun q => ?_) d4 (by rw [hc]; exact kk)
  rcases q with q | q
  · rw [li_0, iI_lt (by omega) (by omega)] at q
    omega
  · rw [hc] at q
    omega
/-- a truth: not 0 -/
theorem lw_z (X : Cw D cA "SaltRoomsLaw" code 4 p s m args c) {x : Int32} {o1 o2 : Int} {t1 t2 : Nat} (d0 : decode code pc = .ok (.ifCond .eq o1, 3)) (e1 : (pc : Int) + o1 = (t1 : Int)) (d1 : decode code (pc + 3) = .ok (.iconst 1, 1)) (d2 : decode code (pc + 3 + 1) = .ok (.goto o2, 3)) (e2 : ((pc + 3 + 1 : Nat) : Int) + o2 = (t2 : Int)) (d3 : decode code t1 = .ok (.iconst 0, 1)) (e3 : t1 + 1 = t2)
    (kk : W p l e R s m args below meth c H locs cs sl Q (F0 m t2 ls (.int (if x = 0 then 0 else 1) :: rest))) : W p l e R s m args below meth c H locs cs sl Q (F0 m pc ls (.int x :: rest)) := by
  refine lv_if_eq (tgt := t1) X.1 X.2.1 d0 e1 (fun h => ?_) (fun h => ?_)
  · rw [if_pos h] at kk
    refine lv_iconst (v := 0) X.1 X.2.1 d3 (by decide) ?_
    rw [e3]
    exact kk
  · rw [if_neg h] at kk
    refine lv_iconst (v := 1) X.1 X.2.1 d1 (by decide) ?_
    exact lv_goto X.1 X.2.1 d2 e2 kk
/-- a call into one of the two worlds -/
theorem lw_call (X : Cw D cA "SaltRoomsLaw" code 4 p s m args c) (hA : ∀ q, s.heap.size ≤ q → A q) {cells other : List (Nat × Nat)} {ad ado : Nat → Nat → Nat} {S So S1 So1 : St} (hC : Cl cells) (hP : va_P D vwCl (wsO cA ad cells S) H) (hPo : va_P D vwCl (wsO cA ado other So) H) (hD : va_D A (wsO cA ad cells S1)) (hDo : va_D A (wsO cA ado other So1)) (hne : ∀ k i k' i', (k, i) ∈ cells → (k', i') ∈ other → ad k i ≠ ado k' i') (hS : va_S A s.heap H locs)
    {kd mid n nL' d' ix : Nat} {y' : MethodName} {cc' : ByteArray} {q : vw_C} {as : List PV} {r : Int32} {S' : St} {st : List Value} (hRun : RunT TB (entry mid nL' (vR kd 0 :: as) S) = some (some (vI r), S')) (hI : mJ mid = some (y', cc', nL', some .int, d')) (hE : Ce y' cc' nL' (some .int) n) (him : Cond.instanceMethod y' ∈ bwL) (hse : Cond.selects y'.cls y' y' ∈ bwL) (hlk : Cond.methodLink "SaltRoomsLaw" ix y' ∈ bwL) (hkd : kd < 1000) (hcl : vwCl[kd]? = some q) (hq : q.1 = y'.cls) (hm : (kd, 0) ∈ cells) (hlay : (lay (vR kd 0 :: as)).length ≤ nL') (hv : ∀ v ∈ as, VV cells v) (hlen : as.length = n) (hroom : d' + 1 ≤ R.frames ∧ 8 + (nL' + 11) + 64 * d' ≤ R.locals) (hcs : cs ≤ R.cells ∧ sl ≤ R.slots) (hdg : decode code pc = .ok (.invokevirtual ix, 3)) (hsz : ls.size = 4) (hrest : (rest.map fun v => v.category).sum ≤ 8) (hst : st = (as.map (cn ad)).reverse ++ .ref (ad kd 0) :: rest)
    (kk : ∀ (H1 : Heap) (locs1 : List Loc), va_P D vwCl (wsO cA ad cells S') H1 → va_P D vwCl (wsO cA ado other So) H1 → va_S A s.heap H1 locs1 → W p l e R s m args below meth c H1 locs1 cs sl Q (F0 m (pc + 3) ls (.int r :: rest))) : W p l e R s m args below meth c H locs cs sl Q (F0 m pc ls st) := by
  subst hst
  have hD := wsO_D (S' := S) hD
  have hDo := wsO_D (S' := So) hDo
  have hMet := met_all (D := D) (cA := cA) (ad := ad) (l := l) hC hRun hI hlay (fun v hv' => by
    rcases List.mem_cons.mp hv' with rfl | hv'
    · exact hm
    · exact hv v hv')
  have hfree := free_A hD hS hA
  have hfix : CallFix p m c code 4 s args bwL "SaltRoomsLaw" := ⟨X.1, X.2.1, X.2.2.1, X.2.2.2.1, X.2.2.2.2.1⟩
  obtain ⟨q0, h1, h2⟩ := wsO_at (cA := cA) (ad := ad) hm S
  rw [ct_obj hkd] at h2
  have hrecv := va_recv X.2.2.2.2.2.1 hP hcl h2
  rw [hq] at hrecv
  have hpre : PreV s H y'.cls (ad kd 0) (PcM D cA ad cells S H.size (vR kd 0 :: as)) (as.map (cn ad)) := ⟨pc_blind, hrecv, pc_pay hP hD X.2.2.2.2.2.1 X.2.2.2.2.2.2.1 (vR kd 0 :: as)⟩
  have hwd : 2 * (F0 m pc ls ((as.map (cn ad)).reverse ++ .ref (ad kd 0) :: rest)).monitorRoom + (rest.map fun v => v.category).sum ≤ 8 := lv_room hrest
  have hrun : va_Run p l e R s m args below meth c H locs cs sl 0 0 (F0 m pc ls ((as.map (cn ad)).reverse ++ .ref (ad kd 0) :: rest)) rest (QcM D cA ad cells (some (vI r), S') (va_A (wsO cA ad cells S) H.size) (Value.ref (ad kd 0) :: as.map (cn ad)).toArray) (va_A (wsO cA ad cells S) H.size) := va_runV hfix (hMet H.size) ⟨callB_of n X.2.2.2.2.1 (good_ws hE.1) rfl rfl rfl (X.2.2.2.2.1 _ hE.2.1) (X.2.2.2.2.1 _ hlk) hE.2.2 hroom, X.2.2.2.2.1 _ him, X.2.2.2.2.1 _ hse⟩ hpre rfl (by rw [List.length_map]; exact hlen) hsz rfl hwd hdg hcs
  intro T hT XX
  obtain ⟨v, st₀, t, T', LL, g0, X', hLL, e1, e2, ⟨hv1, hp, hz, hk⟩, stp⟩ := hrun T hT XX
  cases hv1
  rw [g0] at hz hk
  have hPo' : va_P D vwCl (wsO cA ado other So) T'.heap := hPo.kept (fun j w hw => by
    rw [e1]
    refine hk w.1 (hPo j w hw).lt (fun z => ?_)
    obtain ⟨k', i', hm', rfl⟩ := wsO_ad hw
    rcases z with ⟨j2, e2, z⟩ | z
    · obtain ⟨k2, i2, hm2, e3⟩ := wsO_ad z
      exact hne k2 i2 k' i' (List.mem_of_getElem? hm2) (List.mem_of_getElem? hm') (congrArg (fun o => o.1) e3).symm
    · have z : H.size ≤ ado k' i' := z
      have h9 : ado k' i' < H.size := (hPo j _ hw).lt
      omega)
  obtain ⟨t2, a1, b1⟩ := kk T'.heap (locs ++ LL) (by rw [e1]; exact hp) hPo'
    ⟨Nat.le_trans hS.1 (by rw [e1]; exact hz), fun q h1 h2 => by rw [e1, hk q (Nat.lt_of_lt_of_le h1 hS.1) (fun z => h2 (hfree q z))]; exact hS.2.1 q h1 h2, fun q hq => by
      rcases List.mem_append.mp hq with h | h
      · exact hS.2.2 q h
      · exact hfree _ (hLL q h)⟩ T' rfl X'
  exact ⟨t2, stp t2 a1, b1⟩
end LAW
theorem kl_13 : Jvm.Cond.constantLong "SaltRoomsLaw" 13 4294967295 ∈ bwL := bw_of (tb_ix 1532 (by decide +kernel)) rfl
