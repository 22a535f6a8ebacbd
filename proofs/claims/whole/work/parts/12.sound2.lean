/-! OPS ON CELLS, CALLS, ANSWERS -/
/-- a field's link: of its own class, or a nest mate's -/
def Lk (y : MethodName) (ix : Nat) (q : String × String × String × Bool) : Prop := Cond.fieldLink y.cls ix q.1 q.2.1 q.2.2.1 ∈ bwL ∨ ∃ host, Cond.fieldLinkNest y.cls ix q.1 q.2.1 q.2.2.1 host ∈ nwL
def MLk (y : MethodName) (ix : Nat) (y' : MethodName) : Prop := Cond.methodLink y.cls ix y' ∈ bwL ∨ ∃ host, Cond.methodLinkNest y.cls ix y' host ∈ nwL
theorem Cx.w {D : va_G} {cA : Nat → ClassId} {y : MethodName} {cc : ByteArray} {nL : Nat} {rt : Option FieldType} {p : Program} {s : State} {m : MethodId} {args : Array Value} {meth : Method} {c : Code} (X : Cx D cA y cc nL rt p s m args meth c) {w : Cond} (h : w ∈ bwL) : w.before args s = true := X.2.2.2.2.2.1 _ (List.mem_cons_of_mem _ h)
theorem mp_get {cA : Nat → ClassId} {ad : Nat → Nat → Nat} {S : St} {k ci i : Nat} (h : k < nfl ci) : ((List.range (nfl ci)).map (fun j => fv ad S (64 * ci + j) i))[k]? = some (fv ad S (64 * ci + k) i) := by
  rw [List.getElem?_map, List.getElem?_range h]
  rfl
theorem nw_warm {s U : State} (hW : s.WarmedH U.vm) (h : ∀ w ∈ nwL, va_Nw w s) : ∀ w ∈ nwL, va_Nw w U := fun w hw => by
  have h1 := (List.mem_filter.mp hw).2
  have h2 := h w hw
  unfold isNw at h1
  split at h1
  · exact va_Nw.warmF hW h2
  · exact va_Nw.warmM hW h2
  · cases h1
theorem nw_tab {w : Cond} (hw : w ∈ nwL) : w.onTables = true := by
  have h1 := (List.mem_filter.mp hw).2
  unfold isNw at h1
  split at h1
  · rfl
  · rfl
  · cases h1
theorem bw_good : ∀ w ∈ bwL, goodWord w = true := fun w hw => (List.mem_filter.mp hw).2
theorem wds_eq (ad : Nat → Nat → Nat) : ∀ st : List PV, (((st.map (cn ad)).map fun v => v.category).sum) = wds st
  | [] => rfl
  | v :: st => by
    have := wds_eq ad st
    rw [List.map_cons, List.map_cons, List.sum_cons, this]
    show _ = wd v + wds st
    congr 1
    unfold wd
    cases h : isL v with
    | true => exact (isL_cat ad v).mpr h
    | false => exact isL_cat1 ad v h
theorem inb_in {x : Int32} {n : Nat} (h : inb x n = true) : vp_in x n := by
  unfold inb at h
  unfold vp_in
  rintro (q | q)
  · rw [decide_eq_true q] at h; cases h
  · rw [Nat.ble_eq_true_of_le q, Bool.or_true] at h; cases h
theorem isZ_or {x : Int32} (h : isZ01 x = true) : x = 0 ∨ x = 1 := by
  unfold isZ01 at h
  rcases (Bool.or_eq_true _ _).mp h with q | q
  · exact Or.inl (of_decide_eq_true q)
  · exact Or.inr (of_decide_eq_true q)
section OPS
variable {mI : Nat → Option (MethodName × ByteArray × Nat × Option FieldType × Nat)} {y : MethodName} {cc : ByteArray} {nL : Nat} {rt : Option FieldType} {d pc : Nat} {mk ma : Option (List Bool)}
section GET
variable {D : va_G} {cA : Nat → ClassId} {ad : Nat → Nat → Nat} {cells : List (Nat × Nat)} {l : Launch} {p : Program} {e : Env} {s : State} {m : MethodId} {args : Array Value} {below : List Frame} {meth : Method} {c : Code} {A : Nat → Prop} {S : St} {H : Heap} {ls : Array Slot} {locs : List Loc} {Q : State → Prop} {rest : List Value}
theorem Wget (X : Cx D cA y cc nL rt p s m args meth c) (hP : va_P D vwCl (wsO cA ad cells S) H) {C : String} {T : u_T} {N ci k ix i : Nat} (hci : ci < 1000) (hc : vwCl[ci]? = some (C, T, N)) (hk : k < N) (hN : nfl ci = N) (hin : ∀ w ∈ u_ws C T N, w ∈ bwL) (hlk : Lk y ix (T k)) (hm : (ci, i) ∈ cells) (hdg : decode cc pc = .ok (.getfield ix, 3))
    (kk : W p l e (rmD d) s m args below meth c H locs 0 0 Q (F0 m (pc + 3) ls (fv ad S (64 * ci + k) i :: rest))) : W p l e (rmD d) s m args below meth c H locs 0 0 Q (F0 m pc ls (.ref (ad ci i) :: rest)) := by
  obtain ⟨q0, h1, h2⟩ := wsO_at (cA := cA) (ad := ad) hm S
  rw [ct_obj hci] at h2
  rcases hlk with h | ⟨host, h⟩
  · exact va_get (D := D) X.1 X.2.1 X.2.2.2.2.2.1 (fun w hw => List.mem_cons_of_mem _ (hin w hw)) X.2.2.2.2.1 X.2.2.2.2.2.2.2.1 hP q0 h2 hc k hk (X.w h) (fun _ z => z) (mp_get (cA := cA) (by omega)) hdg kk
  · exact va_getN (D := D) X.1 X.2.1 X.2.2.2.2.2.1 (fun w hw => List.mem_cons_of_mem _ (hin w hw)) X.2.2.2.2.1 X.2.2.2.2.2.2.2.1 hP q0 h2 hc k hk (va_Nw.use (nw_tab h) (X.2.2.2.2.2.2.2.2 _ h)) (fun _ z => z) (mp_get (cA := cA) (by omega)) hdg kk
theorem Wput (hC : Cl cells) (X : Cx D cA y cc nL rt p s m args meth c) (hP : va_P D vwCl (wsO cA ad cells S) H) (hD : va_D A (wsO cA ad cells S)) (hS : va_S A s.heap H locs) {C : String} {T : u_T} {N ci k ix i : Nat} {ty0 : Nat → FieldType} {ty : FieldType} {x : Int32} (hci : ci < 1000) (hk64 : k < 64) (hc : vwCl[ci]? = some (C, T, N)) (hk : k < N) (hN : nfl ci = N) (hin : ∀ w ∈ u_ws C T N, w ∈ bwL) (hty : ∀ k, k < N → parseFieldDescriptor (T k).2.2.1 = some (ty0 k)) (hnm : ∀ a, a < N → ∀ b, b < N → a ≠ b → (T a).2.1 ≠ (T b).2.1) (hfin : (T k).2.2.2 = false) (hd : parseFieldDescriptor (T k).2.2.1 = some ty) (hn : narrow ty (.int x) = .int x) (hfit : fits ty (.int x) = true) (hg : (gF (64 * ci + k)).1 = 0 ∨ (gF (64 * ci + k)).1 = 5) (hlk : Lk y ix (T k)) (hm : (ci, i) ∈ cells) (hdg : decode cc pc = .ok (.putfield ix, 3))
    (kk : ∀ (H1 : Heap) (locs1 : List Loc), va_P D vwCl (wsO cA ad cells (st_wr S (64 * ci + k) i 0 x)) H1 → va_D A (wsO cA ad cells (st_wr S (64 * ci + k) i 0 x)) → va_S A s.heap H1 locs1 → W p l e (rmD d) s m args below meth c H1 locs1 0 0 Q (F0 m (pc + 3) ls rest)) : W p l e (rmD d) s m args below meth c H locs 0 0 Q (F0 m pc ls (.int x :: .ref (ad ci i) :: rest)) := by
  obtain ⟨q0, h1, h2⟩ := wsO_at (cA := cA) (ad := ad) hm S
  rw [ct_obj hci] at h2
  have e := wsO_set hD h1 (ct_put (cA := cA) (ad := ad) (S := S) (i := i) (x := x) hci (by omega) hk64 hg) (ct_put_ne hC hk64 nfl_le hg)
  have hl : k < ((List.range (nfl ci)).map (fun j => fv ad S (64 * ci + j) i)).length := by simp; omega
  rcases hlk with h | ⟨host, h⟩
  · exact va_put (D := D) X.1 X.2.1 X.2.2.2.2.2.1 (fun w hw => List.mem_cons_of_mem _ (hin w hw)) ty0 hty hnm X.2.2.2.2.1 X.2.2.2.2.2.2.2.1 hP hD hS q0 h2 hc k hk (X.w h) (fun _ z => z) hfin hd hn hfit hl hdg (fun H1 locs1 a b z => by rw [e] at a b; exact kk H1 locs1 a b z)
  · exact va_putN (D := D) X.1 X.2.1 X.2.2.2.2.2.1 (fun w hw => List.mem_cons_of_mem _ (hin w hw)) ty0 hty hnm X.2.2.2.2.1 X.2.2.2.2.2.2.2.1 hP hD hS q0 h2 hc k hk (va_Nw.use (nw_tab h) (X.2.2.2.2.2.2.2.2 _ h)) (fun _ z => z) hfin hd hn hfit hl hdg (fun H1 locs1 a b z => by rw [e] at a b; exact kk H1 locs1 a b z)
/-- behind a call -/
theorem Wback {r : Res} {st0 : List Value} {a : Array Value} (hr : va_Run p l e (rmD d) s m args below meth c H locs 0 0 0 0 (F0 m pc ls st0) rest (QcM D cA ad cells r (va_A (wsO cA ad cells S) H.size) a) (va_A (wsO cA ad cells S) H.size)) (hS : va_S A s.heap H locs) (hf : ∀ q, va_A (wsO cA ad cells S) H.size q → A q)
    (kk : ∀ (H1 : Heap) (locs1 : List Loc), va_P D vwCl (wsO cA ad cells r.2) H1 → va_S A s.heap H1 locs1 → W p l e (rmD d) s m args below meth c H1 locs1 0 0 Q (F0 m (pc + 3) ls ((r.1.map (cn ad)).toList ++ rest))) : W p l e (rmD d) s m args below meth c H locs 0 0 Q (F0 m pc ls st0) := by
  intro T hT X
  obtain ⟨v, st₀, t, T', L, h0, X', hL, e1, e2, ⟨hv, hp, hz, hk⟩, st⟩ := hr T hT X
  cases hv
  rw [h0] at hz hk
  obtain ⟨t2, a1, b1⟩ := kk T'.heap (locs ++ L) (by rw [e1]; exact hp)
    ⟨Nat.le_trans hS.1 (by rw [e1]; exact hz), fun q h1 h2 => by rw [e1, hk q (Nat.lt_of_lt_of_le h1 hS.1) (fun z => h2 (hf q z))]; exact hS.2.1 q h1 h2, fun q hq => by
      rcases List.mem_append.mp hq with h | h
      · exact hS.2.2 q h
      · exact hf _ (hL q h)⟩ T' rfl X'
  exact ⟨t2, st t2 a1, b1⟩
theorem pc_blind {S : St} {sz : Nat} {as : List PV} : FrameBlind (PcM D cA ad cells S sz as) := fun a U g mk q => by
  obtain ⟨q0, q1, ⟨qP, qK, qN⟩, qD⟩ := q
  exact ⟨q0, q1, ⟨qP, va_K.moved (u := U) (U := U.calling g mk a) (Vm.Alike.refl U.vm) qK, fun w hw => va_Nw.same (nw_tab hw) (u := U) rfl (qN w hw)⟩, qD⟩
theorem pc_pay (hP : va_P D vwCl (wsO cA ad cells S) H) (hD : va_D A (wsO cA ad cells S)) (hK : va_K D vwCl (tysL cA) s) (hN : ∀ w ∈ nwL, va_Nw w s) (as : List PV) : ∀ U : State, U.heap = H → s.WarmedH U.vm → PcM D cA ad cells S H.size as (as.map (cn ad)).toArray U := fun U hU hW => ⟨rfl, by rw [hU], ⟨by rw [hU]; exact hP, va_K.moved hW.alike hK, nw_warm hW hN⟩, hD.weaken (fun _ _ _ _ => trivial)⟩
theorem free_A (hD : va_D A (wsO cA ad cells S)) (hS : va_S A s.heap H locs) (hA : ∀ q, s.heap.size ≤ q → A q) : ∀ q, va_A (wsO cA ad cells S) H.size q → A q := by
  intro q h
  rcases h with ⟨k, e, h⟩ | h
  · exact hD.2 k _ h
  · exact hA q (Nat.le_trans hS.1 h)
end GET
/-- what a call needs to know of the method that it calls -/
def Ce (y' : MethodName) (cc' : ByteArray) (nL' : Nat) (rt' : Option FieldType) (n : Nat) : Prop :=
  Cond.code y' cc' nL' rt' ∈ bwL ∧ Cond.initialized y'.cls ∈ bwL ∧ y'.cls ≠ "java/lang/invoke/MethodHandle" ∧ y'.cls ≠ "java/lang/invoke/VarHandle" ∧ (parseMethodDescriptor y'.desc).map (fun d => d.parameters.length) = some n
theorem good_ws {y' : MethodName} {cc' : ByteArray} {nL' : Nat} {rt' : Option FieldType} (h : Cond.code y' cc' nL' rt' ∈ bwL) : GoodIn bwL (wsM y' cc' nL' rt') := fun w hw => by
  rcases List.mem_cons.mp hw with rfl | q
  · exact ⟨h, good_of_word (bw_good _ h)⟩
  · exact ⟨q, good_of_word (bw_good _ q)⟩
theorem tyOK_VV {cells : List (Nat × Nat)} {t : Nat} {v : Option PV} (h : tyOK t v) (hC : Cl cells) (hx : 2 ≤ t → ∃ k i, (k, i) ∈ cells ∧ k < 12) (ht : t < 14) : ∀ w, v = some w → VV cells w := by
  intro w hw
  subst hw
  match t, h, hx with
  | 0, h, _ => cases h
  | 1, h, _ =>
    obtain ⟨x, hx⟩ := h
    cases hx
    trivial
  | n + 2, h, hx =>
    rcases h with h | ⟨i, hi, h⟩
    · cases h
      trivial
    · cases h
      obtain ⟨k, j, h1, h2⟩ := hx (by omega)
      refine hC.2.2.2.2.1 k j n h1 h2 (by omega) i ?_
      unfold cntR at hi
      have g : ∀ n, n < 12 → (bif Nat.beq n 0 then 200 else bif Nat.beq n 3 then 5 else 0) ≤ (gN gCnt n).getD 0 := by decide +kernel
      exact Nat.lt_of_lt_of_le hi (g n (by omega))
theorem pushR_eq (ad : Nat → Nat → Nat) (v : Option PV) (st : List PV) : ((v.map (cn ad)).toList ++ st.map (cn ad)) = (pushR v st).map (cn ad) := by
  cases v <;> rfl
theorem Vs.pushR {cells : List (Nat × Nat)} {v : Option PV} {st : List PV} (h : Vs cells st) (hv : ∀ w, v = some w → VV cells w) : Vs cells (pushR v st) := by
  cases v with
  | none => exact h
  | some w => exact h.cons (hv w rfl)
theorem Vs.drop {cells : List (Nat × Nat)} {st : List PV} (h : Vs cells st) (n : Nat) : Vs cells (st.drop n) := fun v hv => h v (List.mem_of_mem_drop hv)
theorem Vs.takeR {cells : List (Nat × Nat)} {st : List PV} (h : Vs cells st) (n : Nat) : ∀ v ∈ (st.take n).reverse, VV cells v := fun v hv => h v (List.mem_of_mem_take (List.mem_reverse.mp hv))
set_option maxHeartbeats 1000000 in
theorem os_calS {m' n rty nL' d' ix : Nat} {y' : MethodName} {cc' : ByteArray} {rt' : Option FieldType} (hI : mI m' = some (y', cc', nL', rt', d')) (hE : Ce y' cc' nL' rt' n) (hst : Cond.static y' ∈ bwL) (hlk : MLk y ix y') (hrty : rty < 2) (hroom : d' + 1 ≤ d ∧ 8 + (nL' + 11) + 64 * d' ≤ 64 * d) (hdg : decode cc pc = .ok (.invokestatic ix, 3)) : OS mI y cc nL rt d pc (oCalS m' n rty nL' (pc + 3, mk)) := by
  intro D cA ad cells l p e s m args below meth c A r0 mid pl st S hC X hA K H ls locs hl hp hs hP hD hS
  have hb : (Nat.beq (st.take n).length n && (Nat.ble (lay (st.take n).reverse).length nL' && Nat.ble (wds (st.drop n)) 8)) = true := by
    cases hb : (Nat.beq (st.take n).length n && (Nat.ble (lay (st.take n).reverse).length nL' && Nat.ble (wds (st.drop n)) 8)) with
    | true => rfl
    | false => unfold oCalS at K; rw [hb] at K; exact K.elim
  unfold oCalS at K
  rw [hb] at K
  obtain ⟨r, hM, hty, hV⟩ := K
  obtain ⟨hb1, hb23⟩ := (Bool.and_eq_true _ _).mp hb
  obtain ⟨hb2, hb3⟩ := (Bool.and_eq_true _ _).mp hb23
  have hMet := hM m' _ S y' cc' nL' rt' d' rfl hI (Nat.le_of_ble_eq_true hb2) (hs.takeR n)
  have hfree := free_A hD hS hA
  have hlen : ((st.take n).reverse.map (cn ad)).length = n := by rw [List.length_map, List.length_reverse]; exact Nat.eq_of_beq_eq_true hb1
  have hstk : st.map (cn ad) = ((st.take n).reverse.map (cn ad)).reverse ++ (st.drop n).map (cn ad) := by
    rw [← List.map_reverse, List.reverse_reverse, ← List.map_append, List.take_append_drop]
  have hwd : 2 * (F0 m pc ls (st.map (cn ad))).monitorRoom + (((st.drop n).map (cn ad)).map fun v => v.category).sum ≤ 8 := lv_room (by rw [wds_eq]; exact Nat.le_of_ble_eq_true hb3)
  have hbw : ∀ w ∈ bwL, w.before args s = true := fun w hw => X.w hw
  have hfix : CallFix p m c cc nL s args bwL y.cls := ⟨X.1, X.2.1, X.2.2.1, X.2.2.2.2.1, hbw⟩
  have hpre : PreS s H (PcM D cA ad cells S H.size (st.take n).reverse) ((st.take n).reverse.map (cn ad)) := ⟨pc_blind, pc_pay hP hD X.2.2.2.2.2.2.2.1 X.2.2.2.2.2.2.2.2 _⟩
  have hini : (Cond.initialized y'.cls).before args s = true := X.w hE.2.1
  have hrun : va_Run p l e (rmD d) s m args below meth c H locs 0 0 0 0 (F0 m pc ls (st.map (cn ad))) ((st.drop n).map (cn ad)) (QcM D cA ad cells r (va_A (wsO cA ad cells S) H.size) ((st.take n).reverse.map (cn ad)).toArray) (va_A (wsO cA ad cells S) H.size) := by
    rcases hlk with h | ⟨host, h⟩
    · exact va_runS hfix (hMet H.size) ⟨callB_of n hbw (good_ws hE.1) rfl rfl rfl hini (X.w h) hE.2.2 hroom, X.w hst⟩ hpre rfl hlen hl.1 hstk hwd hdg ⟨Nat.le_refl _, Nat.le_refl _⟩
    · exact va_runSN hfix (hMet H.size) ⟨va_cnB n hbw (good_ws hE.1) rfl rfl rfl (X.2.2.2.2.2.2.2.2 _ h) hini hE.2.2 hroom, X.w hst, trivial⟩ hpre rfl hlen hl.1 hstk hwd hdg ⟨Nat.le_refl _, Nat.le_refl _⟩
  refine Wback hrun hS hfree (fun H1 locs1 hP1 hS1 => ?_)
  rw [pushR_eq]
  exact hV rfl H1 ls locs1 (hl.gom mk) (hp.gom mk) ((hs.drop n).pushR (tyOK_VV hty hC (by omega) (by omega))) hP1 (wsO_D hD) hS1
set_option maxHeartbeats 1000000 in
theorem os_calV {m' n kd rty nL' d' ix : Nat} {y' : MethodName} {cc' : ByteArray} {rt' : Option FieldType} {q : vw_C} (hI : mI m' = some (y', cc', nL', rt', d')) (hE : Ce y' cc' nL' rt' n) (hin : Cond.instanceMethod y' ∈ bwL) (hse : Cond.selects y'.cls y' y' ∈ bwL) (hlk : MLk y ix y') (hkd : kd < 1000) (hcl : vwCl[kd]? = some q) (hq : q.1 = y'.cls) (hrty : rty < 2 ∨ (kd < 12 ∧ rty < 14)) (hroom : d' + 1 ≤ d ∧ 8 + (nL' + 11) + 64 * d' ≤ 64 * d) (hdg : decode cc pc = .ok (.invokevirtual ix, 3)) : OS mI y cc nL rt d pc (oCalV m' n kd rty nL' (pc + 3, mk)) := by
  intro D cA ad cells l p e s m args below meth c A r0 mid pl st S hC X hA K H ls locs hl hp hs hP hD hS
  unfold oCalV at K
  rcases hdr : st.drop n with _ | ⟨v, st'⟩
  · rw [hdr] at K; exact K.elim
  rw [hdr] at K
  rcases v with x | x | o
  · exact K.elim
  · exact K.elim
  rcases o with _ | ⟨k, i⟩
  · exact K.elim
  have hb : (Nat.beq (st.take n).length n && (Nat.beq k kd && (Nat.ble (lay (vR k i :: (st.take n).reverse)).length nL' && Nat.ble (wds st') 8))) = true := by
    cases hb : (Nat.beq (st.take n).length n && (Nat.beq k kd && (Nat.ble (lay (vR k i :: (st.take n).reverse)).length nL' && Nat.ble (wds st') 8))) with
    | true => rfl
    | false => dsimp only at K; rw [hb] at K; exact K.elim
  dsimp only at K
  rw [hb] at K
  obtain ⟨r, hM, hty, hV⟩ := K
  obtain ⟨hb1, hb234⟩ := (Bool.and_eq_true _ _).mp hb
  obtain ⟨hb4, hb23⟩ := (Bool.and_eq_true _ _).mp hb234
  obtain ⟨hb2, hb3⟩ := (Bool.and_eq_true _ _).mp hb23
  have hk : k = kd := Nat.eq_of_beq_eq_true hb4
  subst hk
  have hmem : VV cells (vR k i) := (hs.drop n) _ (by rw [hdr]; exact List.mem_cons_self)
  have hmem : (k, i) ∈ cells := hmem
  have hs' : Vs cells st' := by have := hs.drop n; rw [hdr] at this; exact this.tl
  have hMet := hM m' _ S y' cc' nL' rt' d' rfl hI (Nat.le_of_ble_eq_true hb2) (fun v hv => by
    rcases List.mem_cons.mp hv with rfl | hv
    · exact hmem
    · exact hs.takeR n v hv)
  have hfree := free_A hD hS hA
  have hlen : ((st.take n).reverse.map (cn ad)).length = n := by rw [List.length_map, List.length_reverse]; exact Nat.eq_of_beq_eq_true hb1
  have hstk : st.map (cn ad) = ((st.take n).reverse.map (cn ad)).reverse ++ .ref (ad k i) :: st'.map (cn ad) := by
    rw [← List.map_reverse, List.reverse_reverse, show Value.ref (ad k i) :: st'.map (cn ad) = (st.drop n).map (cn ad) by rw [hdr]; rfl, ← List.map_append, List.take_append_drop]
  have hwd : 2 * (F0 m pc ls (st.map (cn ad))).monitorRoom + ((st'.map (cn ad)).map fun v => v.category).sum ≤ 8 := lv_room (by rw [wds_eq]; exact Nat.le_of_ble_eq_true hb3)
  have hbw : ∀ w ∈ bwL, w.before args s = true := fun w hw => X.w hw
  have hfix : CallFix p m c cc nL s args bwL y.cls := ⟨X.1, X.2.1, X.2.2.1, X.2.2.2.2.1, hbw⟩
  have hK := X.2.2.2.2.2.2.2.1
  obtain ⟨q0, h1, h2⟩ := wsO_at (cA := cA) (ad := ad) hmem S
  rw [ct_obj hkd] at h2
  have hrecv := va_recv hK hP hcl h2
  rw [hq] at hrecv
  have hpre : PreV s H y'.cls (ad k i) (PcM D cA ad cells S H.size (vR k i :: (st.take n).reverse)) ((st.take n).reverse.map (cn ad)) := ⟨pc_blind, hrecv, pc_pay hP hD hK X.2.2.2.2.2.2.2.2 (vR k i :: (st.take n).reverse)⟩
  have hini : (Cond.initialized y'.cls).before args s = true := X.w hE.2.1
  have hrun : va_Run p l e (rmD d) s m args below meth c H locs 0 0 0 0 (F0 m pc ls (st.map (cn ad))) (st'.map (cn ad)) (QcM D cA ad cells r (va_A (wsO cA ad cells S) H.size) (Value.ref (ad k i) :: (st.take n).reverse.map (cn ad)).toArray) (va_A (wsO cA ad cells S) H.size) := by
    rcases hlk with h | ⟨host, h⟩
    · exact va_runV hfix (hMet H.size) ⟨callB_of n hbw (good_ws hE.1) rfl rfl rfl hini (X.w h) hE.2.2 hroom, X.w hin, X.w hse⟩ hpre rfl hlen hl.1 hstk hwd hdg ⟨Nat.le_refl _, Nat.le_refl _⟩
    · exact va_runVN hfix (hMet H.size) ⟨va_cnB n hbw (good_ws hE.1) rfl rfl rfl (X.2.2.2.2.2.2.2.2 _ h) hini hE.2.2 hroom, X.w hin, X.w hse⟩ hpre rfl hlen hl.1 hstk hwd hdg ⟨Nat.le_refl _, Nat.le_refl _⟩
  refine Wback hrun hS hfree (fun H1 locs1 hP1 hS1 => ?_)
  rw [pushR_eq]
  exact hV rfl H1 ls locs1 (hl.gom mk) (hp.gom mk) (hs'.pushR (tyOK_VV hty hC (fun _ => ⟨k, i, hmem, by omega⟩) (by omega))) hP1 (wsO_D hD) hS1
theorem os_get {C : String} {T : u_T} {N ci k f ix : Nat} (hf : f = 64 * ci + k) (hci : ci < 1000) (hc : vwCl[ci]? = some (C, T, N)) (hk : k < N) (hN : nfl ci = N) (hin : ∀ w ∈ u_ws C T N, w ∈ bwL) (hg : (gF (64 * ci + k)).1 = 0 ∨ (gF (64 * ci + k)).1 = 5) (hlk : Lk y ix (T k)) (hdg : decode cc pc = .ok (.getfield ix, 3)) : OS mI y cc nL rt d pc (oGet ci f (pc + 3, mk)) := by
  intro D cA ad cells l p e s m args below meth c A r0 mid pl st S hC X hA K H ls locs hl hp hs hP hD hS
  rcases st with _ | ⟨v, st⟩
  · exact K.elim
  rcases v with z0 | z0 | z0
  · exact K.elim
  · exact K.elim
  rcases z0 with _ | ⟨k0, i0⟩
  · exact K.elim
  subst hf
  have hb : Nat.beq k0 ci = true := by
    cases hb : Nat.beq k0 ci with
    | true => rfl
    | false => simp only [oGet, hb] at K; exact K.elim
  simp only [oGet, hb] at K
  have hk0 := Nat.eq_of_beq_eq_true hb
  subst hk0
  refine Wget X hP hci hc hk hN hin hlk hs.hd hdg ?_
  rw [show fv ad S (64 * k0 + k) i0 = .int (S (64 * k0 + k) i0 0) by unfold fv; rw [if_neg (by rcases hg with q | q <;> rw [q] <;> decide), if_pos hg]]
  exact K rfl H ls locs (hl.gom mk) (hp.gom mk) (hs.tl.cons trivial) hP hD hS

theorem os_getO {C : String} {T : u_T} {N ci k f ix : Nat} (hf : f = 64 * ci + k) (hci : ci < 1000) (hc : vwCl[ci]? = some (C, T, N)) (hk : k < N) (hN : nfl ci = N) (hin : ∀ w ∈ u_ws C T N, w ∈ bwL) {tk off : Nat} (hg : gF (64 * ci + k) = (1, tk, off, 0)) (hlk : Lk y ix (T k)) (hdg : decode cc pc = .ok (.getfield ix, 3)) : OS mI y cc nL rt d pc (oGetO ci f tk off (pc + 3, mk)) := by
  intro D cA ad cells l p e s m args below meth c A r0 mid pl st S hC X hA K H ls locs hl hp hs hP hD hS
  rcases st with _ | ⟨v, st⟩
  · exact K.elim
  rcases v with z0 | z0 | z0
  · exact K.elim
  · exact K.elim
  rcases z0 with _ | ⟨k0, i0⟩
  · exact K.elim
  subst hf
  have hb : Nat.beq k0 ci = true := by
    cases hb : Nat.beq k0 ci with
    | true => rfl
    | false => simp only [oGetO, hb] at K; exact K.elim
  simp only [oGetO, hb] at K
  have hk0 := Nat.eq_of_beq_eq_true hb
  subst hk0
  refine Wget X hP hci hc hk hN hin hlk hs.hd hdg ?_
  rw [show fv ad S (64 * k0 + k) i0 = .ref (ad tk (i0 + off)) by unfold fv; rw [hg]; rfl]
  have hv : (tk, i0 + off) ∈ cells := by
    have := hC.2.1 k0 i0 k hs.hd hci (by omega) (by rw [hg])
    rw [hg] at this
    exact this
  exact K rfl H ls locs (hl.gom mk) (hp.gom mk) (hs.tl.cons hv) hP hD hS

theorem os_getA {C : String} {T : u_T} {N ci k f ix : Nat} (hf : f = 64 * ci + k) (hci : ci < 1000) (hc : vwCl[ci]? = some (C, T, N)) (hk : k < N) (hN : nfl ci = N) (hin : ∀ w ∈ u_ws C T N, w ∈ bwL) (hg : 2 ≤ (gF (64 * ci + k)).1 ∧ (gF (64 * ci + k)).1 ≤ 4) (hlk : Lk y ix (T k)) (hdg : decode cc pc = .ok (.getfield ix, 3)) : OS mI y cc nL rt d pc (oGetA ci f (pc + 3, mk)) := by
  intro D cA ad cells l p e s m args below meth c A r0 mid pl st S hC X hA K H ls locs hl hp hs hP hD hS
  rcases st with _ | ⟨v, st⟩
  · exact K.elim
  rcases v with z0 | z0 | z0
  · exact K.elim
  · exact K.elim
  rcases z0 with _ | ⟨k0, i0⟩
  · exact K.elim
  subst hf
  have hb : Nat.beq k0 ci = true := by
    cases hb : Nat.beq k0 ci with
    | true => rfl
    | false => simp only [oGetA, hb] at K; exact K.elim
  simp only [oGetA, hb] at K
  have hk0 := Nat.eq_of_beq_eq_true hb
  subst hk0
  refine Wget X hP hci hc hk hN hin hlk hs.hd hdg ?_
  rw [show fv ad S (64 * k0 + k) i0 = .ref (ad (1000 + (64 * k0 + k)) i0) by unfold fv; rw [if_neg (by omega), if_neg (by omega)]]
  have hv : (1000 + (64 * k0 + k), i0) ∈ cells := hC.2.2.1 k0 i0 k hs.hd hci (by omega) hg.1 hg.2
  exact K rfl H ls locs (hl.gom mk) (hp.gom mk) (hs.tl.cons hv) hP hD hS

theorem os_put {C : String} {T : u_T} {N ci k f ix : Nat} (hf : f = 64 * ci + k) (hci : ci < 1000) (hc : vwCl[ci]? = some (C, T, N)) (hk : k < N) (hN : nfl ci = N) (hin : ∀ w ∈ u_ws C T N, w ∈ bwL) {ty0 : Nat → FieldType} (hty : ∀ k, k < N → parseFieldDescriptor (T k).2.2.1 = some (ty0 k)) (hnm : ∀ a, a < N → ∀ b, b < N → a ≠ b → (T a).2.1 ≠ (T b).2.1) (hfin : (T k).2.2.2 = false) (hd : parseFieldDescriptor (T k).2.2.1 = some .int) (hg : (gF (64 * ci + k)).1 = 0) (hlk : Lk y ix (T k)) (hdg : decode cc pc = .ok (.putfield ix, 3)) : OS mI y cc nL rt d pc (oPut ci f (pc + 3, mk)) := by
  intro D cA ad cells l p e s m args below meth c A r0 mid pl st S hC X hA K H ls locs hl hp hs hP hD hS
  rcases st with _ | ⟨v, st⟩
  · exact K.elim
  rcases v with z0 | z0 | z0
  rotate_left
  · exact K.elim
  · exact K.elim
  rcases st with _ | ⟨v, st⟩
  · exact K.elim
  rcases v with z1 | z1 | z1
  · exact K.elim
  · exact K.elim
  rcases z1 with _ | ⟨k1, i1⟩
  · exact K.elim
  subst hf
  have hb : Nat.beq k1 ci = true := by
    cases hb : Nat.beq k1 ci with
    | true => rfl
    | false => simp only [oPut, hb] at K; exact K.elim
  simp only [oPut, hb] at K
  have hk0 := Nat.eq_of_beq_eq_true hb
  subst hk0
  exact Wput hC X hP hD hS hci (by have := nfl_le k1; omega) hc hk hN hin hty hnm hfin hd rfl rfl (Or.inl hg) hlk hs.tl.hd hdg (fun H1 locs1 a b z => K rfl H1 ls locs1 (hl.gom mk) (hp.gom mk) hs.tl.tl a b z)

theorem os_putZ {C : String} {T : u_T} {N ci k f ix : Nat} (hf : f = 64 * ci + k) (hci : ci < 1000) (hc : vwCl[ci]? = some (C, T, N)) (hk : k < N) (hN : nfl ci = N) (hin : ∀ w ∈ u_ws C T N, w ∈ bwL) {ty0 : Nat → FieldType} (hty : ∀ k, k < N → parseFieldDescriptor (T k).2.2.1 = some (ty0 k)) (hnm : ∀ a, a < N → ∀ b, b < N → a ≠ b → (T a).2.1 ≠ (T b).2.1) (hfin : (T k).2.2.2 = false) (hd : parseFieldDescriptor (T k).2.2.1 = some .boolean) (hg : (gF (64 * ci + k)).1 = 5) (hlk : Lk y ix (T k)) (hdg : decode cc pc = .ok (.putfield ix, 3)) : OS mI y cc nL rt d pc (oPutZ ci f (pc + 3, mk)) := by
  intro D cA ad cells l p e s m args below meth c A r0 mid pl st S hC X hA K H ls locs hl hp hs hP hD hS
  rcases st with _ | ⟨v, st⟩
  · exact K.elim
  rcases v with z0 | z0 | z0
  rotate_left
  · exact K.elim
  · exact K.elim
  rcases st with _ | ⟨v, st⟩
  · exact K.elim
  rcases v with z1 | z1 | z1
  · exact K.elim
  · exact K.elim
  rcases z1 with _ | ⟨k1, i1⟩
  · exact K.elim
  subst hf
  have hb : Nat.beq k1 ci = true := by
    cases hb : Nat.beq k1 ci with
    | true => rfl
    | false => simp only [oPutZ, hb] at K; exact K.elim
  simp only [oPutZ, hb] at K
  have hk0 := Nat.eq_of_beq_eq_true hb
  subst hk0
  cases hz : isZ01 z0 with
  | false => exact (K.2 hz).elim
  | true =>
    have K := K.1 hz
    have hn : narrow .boolean (.int z0) = .int z0 := by rcases isZ_or hz with rfl | rfl <;> rfl
    have hft : fits .boolean (.int z0) = true := by rcases isZ_or hz with rfl | rfl <;> rfl
    exact Wput hC X hP hD hS hci (by have := nfl_le k1; omega) hc hk hN hin hty hnm hfin hd hn hft (Or.inr hg) hlk hs.tl.hd hdg (fun H1 locs1 a b z => K rfl H1 ls locs1 (hl.gom mk) (hp.gom mk) hs.tl.tl a b z)

theorem os_iaload (hdg : decode cc pc = .ok (.iaload, 1)) : OS mI y cc nL rt d pc (oIald (pc + 1, mk)) := by
  intro D cA ad cells l p e s m args below meth c A r0 mid pl st S hC X hA K H ls locs hl hp hs hP hD hS
  rcases st with _ | ⟨v, st⟩
  · exact K.elim
  rcases v with z0 | z0 | z0
  rotate_left
  · exact K.elim
  · exact K.elim
  rcases st with _ | ⟨v, st⟩
  · exact K.elim
  rcases v with z1 | z1 | z1
  · exact K.elim
  · exact K.elim
  rcases z1 with _ | ⟨k1, i1⟩
  · exact K.elim
  have hb : Nat.beq (gA k1).1 2 = true := by
    cases hb : Nat.beq (gA k1).1 2 with
    | true => rfl
    | false => simp only [oIald, hb] at K; exact K.elim
  simp only [oIald, hb] at K
  have hg := Nat.eq_of_beq_eq_true hb
  have hk := gA_ge hg (by decide)
  cases hz : inb z0 (gA k1).2.1 with
  | false => exact (K.2 hz).elim
  | true =>
    have K := K.1 hz
    obtain ⟨q0, h1, h2⟩ := wsO_at (cA := cA) (ad := ad) (show (k1, i1) ∈ cells from hs.tl.hd) S
    rw [ct_arr hk (by rw [hg]; decide), show acN k1 = 0 by unfold acN; rw [hg]; rfl] at h2
    exact va_iald (D := D) X.1 X.2.1 X.2.2.2.2.2.2.2.1 hP q0 0 h2 rfl (inb_in hz) hdg (K rfl H ls locs (hl.gom mk) (hp.gom mk) (hs.tl.tl.cons trivial) hP hD hS)

theorem os_baload (hdg : decode cc pc = .ok (.baload, 1)) : OS mI y cc nL rt d pc (oZald (pc + 1, mk)) := by
  intro D cA ad cells l p e s m args below meth c A r0 mid pl st S hC X hA K H ls locs hl hp hs hP hD hS
  rcases st with _ | ⟨v, st⟩
  · exact K.elim
  rcases v with z0 | z0 | z0
  rotate_left
  · exact K.elim
  · exact K.elim
  rcases st with _ | ⟨v, st⟩
  · exact K.elim
  rcases v with z1 | z1 | z1
  · exact K.elim
  · exact K.elim
  rcases z1 with _ | ⟨k1, i1⟩
  · exact K.elim
  have hb : Nat.beq (gA k1).1 3 = true := by
    cases hb : Nat.beq (gA k1).1 3 with
    | true => rfl
    | false => simp only [oZald, hb] at K; exact K.elim
  simp only [oZald, hb] at K
  have hg := Nat.eq_of_beq_eq_true hb
  have hk := gA_ge hg (by decide)
  cases hz : inb z0 (gA k1).2.1 with
  | false => exact (K.2 hz).elim
  | true =>
    have K := K.1 hz
    obtain ⟨q0, h1, h2⟩ := wsO_at (cA := cA) (ad := ad) (show (k1, i1) ∈ cells from hs.tl.hd) S
    rw [ct_arr hk (by rw [hg]; decide), show acN k1 = 1 by unfold acN; rw [hg]; rfl] at h2
    exact va_zald (D := D) X.1 X.2.1 X.2.2.2.2.2.2.2.1 hP q0 1 h2 rfl (inb_in hz) hdg (K rfl H ls locs (hl.gom mk) (hp.gom mk) (hs.tl.tl.cons trivial) hP hD hS)

theorem os_aaload (hdg : decode cc pc = .ok (.aaload, 1)) : OS mI y cc nL rt d pc (oAald (pc + 1, mk)) := by
  intro D cA ad cells l p e s m args below meth c A r0 mid pl st S hC X hA K H ls locs hl hp hs hP hD hS
  rcases st with _ | ⟨v, st⟩
  · exact K.elim
  rcases v with z0 | z0 | z0
  rotate_left
  · exact K.elim
  · exact K.elim
  rcases st with _ | ⟨v, st⟩
  · exact K.elim
  rcases v with z1 | z1 | z1
  · exact K.elim
  · exact K.elim
  rcases z1 with _ | ⟨k1, i1⟩
  · exact K.elim
  have hb : Nat.beq (gA k1).1 4 = true := by
    cases hb : Nat.beq (gA k1).1 4 with
    | true => rfl
    | false => simp only [oAald, hb] at K; exact K.elim
  simp only [oAald, hb] at K
  have hg := Nat.eq_of_beq_eq_true hb
  have hk := gA_ge hg (by decide)
  cases hz : inb z0 (gA k1).2.1 with
  | false => exact (K.2 hz).elim
  | true =>
    have K := K.1 hz
    obtain ⟨q0, h1, h2⟩ := wsO_at (cA := cA) (ad := ad) (show (k1, i1) ∈ cells from hs.tl.hd) S
    have hct : ct cA ad S k1 i1 = .inl (cA (acN k1), (gA k1).2.1, .inr (.inr (.inr (.inr (fun j => some (ad (gA k1).2.2.1 (j + (gA k1).2.2.2))))))) := by unfold ct; rw [if_pos hk, if_pos hg]
    rw [hct] at h2
    have hin := inb_in hz
    have hj : z0.toNatClampNeg < (gA k1).2.1 := Nat.not_le.mp fun q => hin (Or.inr q)
    have hv : ((gA k1).2.2.1, z0.toNatClampNeg + (gA k1).2.2.2) ∈ cells := hC.2.2.2.1 k1 i1 _ hs.tl.hd hg hj
    have hac : acN k1 = if (gA k1).2.2.1 = 0 then 2 else if (gA k1).2.2.1 = 3 then 3 else 4 := by unfold acN; rw [hg]; rfl
    by_cases q1 : (gA k1).2.2.1 = 0
    · rw [hac, if_pos q1] at h2
      exact va_aldq (D := D) X.1 X.2.1 X.2.2.2.2.2.2.2.1 hP q0 2 h2 rfl hin hdg (K rfl H ls locs (hl.gom mk) (hp.gom mk) (hs.tl.tl.cons hv) hP hD hS)
    · by_cases q2 : (gA k1).2.2.1 = 3
      · rw [hac, if_neg q1, if_pos q2] at h2
        exact va_aldq (D := D) X.1 X.2.1 X.2.2.2.2.2.2.2.1 hP q0 3 h2 rfl hin hdg (K rfl H ls locs (hl.gom mk) (hp.gom mk) (hs.tl.tl.cons hv) hP hD hS)
      · rw [hac, if_neg q1, if_neg q2] at h2
        exact va_aldq (D := D) X.1 X.2.1 X.2.2.2.2.2.2.2.1 hP q0 4 h2 rfl hin hdg (K rfl H ls locs (hl.gom mk) (hp.gom mk) (hs.tl.tl.cons hv) hP hD hS)

theorem os_iastore (hdg : decode cc pc = .ok (.iastore, 1)) : OS mI y cc nL rt d pc (oIast (pc + 1, mk)) := by
  intro D cA ad cells l p e s m args below meth c A r0 mid pl st S hC X hA K H ls locs hl hp hs hP hD hS
  rcases st with _ | ⟨v, st⟩
  · exact K.elim
  rcases v with z0 | z0 | z0
  rotate_left
  · exact K.elim
  · exact K.elim
  rcases st with _ | ⟨v, st⟩
  · exact K.elim
  rcases v with z1 | z1 | z1
  rotate_left
  · exact K.elim
  · exact K.elim
  rcases st with _ | ⟨v, st⟩
  · exact K.elim
  rcases v with z2 | z2 | z2
  · exact K.elim
  · exact K.elim
  rcases z2 with _ | ⟨k2, i2⟩
  · exact K.elim
  have hb : Nat.beq (gA k2).1 2 = true := by
    cases hb : Nat.beq (gA k2).1 2 with
    | true => rfl
    | false => simp only [oIast, hb] at K; exact K.elim
  simp only [oIast, hb] at K
  have hg := Nat.eq_of_beq_eq_true hb
  have hk := gA_ge hg (by decide)
  cases hz : inb z1 (gA k2).2.1 with
  | false => exact (K.2 hz).elim
  | true =>
    have K := K.1 hz
    obtain ⟨q0, h1, h2⟩ := wsO_at (cA := cA) (ad := ad) (show (k2, i2) ∈ cells from hs.tl.tl.hd) S
    rw [ct_arr hk (by rw [hg]; decide), show acN k2 = 0 by unfold acN; rw [hg]; rfl] at h2
    have e := wsO_set (cA := cA) (ad := ad) (e := .inl (cA (acN k2), (gA k2).2.1, .inl (upd (S (k2 - 1000) i2) z1.toNatClampNeg z0))) hD h1 (ct_row hk (by rw [hg]; decide)) (ct_row_ne hk (by rw [hg]; decide))
    rw [show acN k2 = 0 by unfold acN; rw [hg]; rfl] at e
    exact va_iast (D := D) X.1 X.2.1 X.2.2.2.2.2.2.2.1 hP hD hS q0 0 h2 rfl (inb_in hz) hdg (fun H1 locs1 a b z => by rw [e] at a b; exact K rfl H1 ls locs1 (hl.gom mk) (hp.gom mk) hs.tl.tl.tl a b z)

theorem os_bastore (hdg : decode cc pc = .ok (.bastore, 1)) : OS mI y cc nL rt d pc (oZast (pc + 1, mk)) := by
  intro D cA ad cells l p e s m args below meth c A r0 mid pl st S hC X hA K H ls locs hl hp hs hP hD hS
  rcases st with _ | ⟨v, st⟩
  · exact K.elim
  rcases v with z0 | z0 | z0
  rotate_left
  · exact K.elim
  · exact K.elim
  rcases st with _ | ⟨v, st⟩
  · exact K.elim
  rcases v with z1 | z1 | z1
  rotate_left
  · exact K.elim
  · exact K.elim
  rcases st with _ | ⟨v, st⟩
  · exact K.elim
  rcases v with z2 | z2 | z2
  · exact K.elim
  · exact K.elim
  rcases z2 with _ | ⟨k2, i2⟩
  · exact K.elim
  have hb : Nat.beq (gA k2).1 3 = true := by
    cases hb : Nat.beq (gA k2).1 3 with
    | true => rfl
    | false => simp only [oZast, hb] at K; exact K.elim
  simp only [oZast, hb] at K
  have hg := Nat.eq_of_beq_eq_true hb
  have hk := gA_ge hg (by decide)
  have hz1 : isZ01 z0 = true := by
    cases hz1 : isZ01 z0 with
    | true => rfl
    | false => simp only [hz1] at K; exact K.elim
  simp only [hz1] at K
  have hnr : vp_nar .boolean z0 = z0 := by rcases isZ_or hz1 with rfl | rfl <;> rfl
  cases hz : inb z1 (gA k2).2.1 with
  | false => exact (K.2 hz).elim
  | true =>
    have K := K.1 hz
    obtain ⟨q0, h1, h2⟩ := wsO_at (cA := cA) (ad := ad) (show (k2, i2) ∈ cells from hs.tl.tl.hd) S
    rw [ct_arr hk (by rw [hg]; decide), show acN k2 = 1 by unfold acN; rw [hg]; rfl] at h2
    have e := wsO_set (cA := cA) (ad := ad) (e := .inl (cA (acN k2), (gA k2).2.1, .inl (upd (S (k2 - 1000) i2) z1.toNatClampNeg z0))) hD h1 (ct_row hk (by rw [hg]; decide)) (ct_row_ne hk (by rw [hg]; decide))
    rw [show acN k2 = 1 by unfold acN; rw [hg]; rfl] at e
    exact va_zast (D := D) X.1 X.2.1 X.2.2.2.2.2.2.2.1 hP hD hS q0 1 h2 rfl (inb_in hz) hdg (fun H1 locs1 a b z => by rw [hnr] at a b; rw [e] at a b; exact K rfl H1 ls locs1 (hl.gom mk) (hp.gom mk) hs.tl.tl.tl a b z)

theorem os_alen (hdg : decode cc pc = .ok (.arraylength, 1)) : OS mI y cc nL rt d pc (oAlen (pc + 1, mk)) := by
  intro D cA ad cells l p e s m args below meth c A r0 mid pl st S hC X hA K H ls locs hl hp hs hP hD hS
  rcases st with _ | ⟨v, st⟩
  · exact K.elim
  rcases v with z0 | z0 | z0
  · exact K.elim
  · exact K.elim
  rcases z0 with _ | ⟨k0, i0⟩
  · exact K.elim
  have hb : (Nat.ble 2 (gA k0).1 && Nat.ble (gA k0).1 4) = true := by
    cases hb : (Nat.ble 2 (gA k0).1 && Nat.ble (gA k0).1 4) with
    | true => rfl
    | false => simp only [oAlen, hb] at K; exact K.elim
  simp only [oAlen, hb] at K
  obtain ⟨hb1, hb2⟩ := (Bool.and_eq_true _ _).mp hb
  have g1 := Nat.le_of_ble_eq_true hb1
  have g2 := Nat.le_of_ble_eq_true hb2
  have hk := gA_ge (k := k0) rfl (by omega)
  obtain ⟨q0, h1, h2⟩ := wsO_at (cA := cA) (ad := ad) (show (k0, i0) ∈ cells from hs.hd) S
  have hct : ∃ z, ct cA ad S k0 i0 = .inl (cA (acN k0), (gA k0).2.1, z) := by
    unfold ct
    rw [if_pos hk]
    by_cases q : (gA k0).1 = 4
    · rw [if_pos q]; exact ⟨_, rfl⟩
    · rw [if_neg q]; exact ⟨_, rfl⟩
  obtain ⟨z, hz⟩ := hct
  rw [hz] at h2
  have ha5 : acN k0 < 5 := by unfold acN; repeat (first | split | decide)
  obtain ⟨ty, hty⟩ : ∃ ty, (tysL cA)[acN k0]? = some (cA (acN k0), ty) := by
    match acN k0, ha5 with
    | 0, _ => exact ⟨_, rfl⟩
    | 1, _ => exact ⟨_, rfl⟩
    | 2, _ => exact ⟨_, rfl⟩
    | 3, _ => exact ⟨_, rfl⟩
    | 4, _ => exact ⟨_, rfl⟩
  exact va_alen (D := D) X.1 X.2.1 X.2.2.2.2.2.2.2.1 hP q0 (acN k0) h2 hty rfl hdg (K rfl H ls locs (hl.gom mk) (hp.gom mk) (hs.tl.cons trivial) hP hD hS)

set_option maxHeartbeats 1000000 in
theorem os_copy {ix : Nat} (hlk : Cond.methodLink y.cls ix arraycopyName ∈ bwL) (hnat : Cond.native arraycopyName ∈ bwL) (hst : Cond.static arraycopyName ∈ bwL) (hini : Cond.initialized "java/lang/System" ∈ bwL) (hd1 : 1 ≤ d) (hdg : decode cc pc = .ok (.invokestatic ix, 3)) : OS mI y cc nL rt d pc (oCopy (pc + 3, mk)) := by
  intro D cA ad cells l p e s m args below meth c A r0 mid pl st S hC X hA K H ls locs hl hp hs hP hD hS
  rcases st with _ | ⟨v, st⟩
  · exact K.elim
  rcases v with z0 | z0 | z0
  rotate_left
  · exact K.elim
  · exact K.elim
  rcases st with _ | ⟨v, st⟩
  · exact K.elim
  rcases v with z1 | z1 | z1
  rotate_left
  · exact K.elim
  · exact K.elim
  rcases st with _ | ⟨v, st⟩
  · exact K.elim
  rcases v with z2 | z2 | z2
  · exact K.elim
  · exact K.elim
  rcases z2 with _ | ⟨k2, i2⟩
  · exact K.elim
  rcases st with _ | ⟨v, st⟩
  · exact K.elim
  rcases v with z3 | z3 | z3
  rotate_left
  · exact K.elim
  · exact K.elim
  rcases st with _ | ⟨v, st⟩
  · exact K.elim
  rcases v with z4 | z4 | z4
  · exact K.elim
  · exact K.elim
  rcases z4 with _ | ⟨k4, i4⟩
  · exact K.elim
  have hb : (Nat.beq (gA k2).1 2 && (Nat.beq (gA k4).1 2 && Nat.ble (wds st) 8)) = true := by
    cases hb : (Nat.beq (gA k2).1 2 && (Nat.beq (gA k4).1 2 && Nat.ble (wds st) 8)) with
    | true => rfl
    | false => simp only [oCopy, hb] at K; exact K.elim
  simp only [oCopy, hb] at K
  obtain ⟨hb1, hb23⟩ := (Bool.and_eq_true _ _).mp hb
  obtain ⟨hb2, hb3⟩ := (Bool.and_eq_true _ _).mp hb23
  have g1 := Nat.eq_of_beq_eq_true hb1
  have g0 := Nat.eq_of_beq_eq_true hb2
  have hk1 := gA_ge g1 (by decide)
  have hk0 := gA_ge g0 (by decide)
  cases hz : cpOk z0 z1 z3 (gA k4).2.1 (gA k2).2.1 with
  | false => exact (K.2 hz).elim
  | true =>
    have K := K.1 hz
    unfold cpOk at hz
    simp only [Bool.and_eq_true, Bool.not_eq_true', decide_eq_false_iff_not] at hz
    obtain ⟨c1, c2, c3, c4, c5⟩ := hz
    obtain ⟨q1, h1, h2⟩ := wsO_at (cA := cA) (ad := ad) (show (k2, i2) ∈ cells from hs.tl.tl.hd) S
    obtain ⟨q0, h3, h4⟩ := wsO_at (cA := cA) (ad := ad) (show (k4, i4) ∈ cells from hs.tl.tl.tl.tl.hd) S
    have e := wsO_set (cA := cA) (ad := ad) (e := .inl (cA (acN k2), (gA k2).2.1, .inl (va_cpy (S (k4 - 1000) i4) (S (k2 - 1000) i2) z3.toNatClampNeg z1.toNatClampNeg z0.toNatClampNeg))) hD h1 (ct_row hk1 (by rw [g1]; decide)) (ct_row_ne hk1 (by rw [g1]; decide))
    rw [show acN k2 = 0 by unfold acN; rw [g1]; rfl] at e
    rw [ct_arr hk1 (by rw [g1]; decide), show acN k2 = 0 by unfold acN; rw [g1]; rfl] at h2
    rw [ct_arr hk0 (by rw [g0]; decide), show acN k4 = 0 by unfold acN; rw [g0]; rfl] at h4
    have hloc : ((st.map (cn ad)).map fun v => v.category).sum + (nativeFrameWords "java/lang/System" "arraycopy" 5 + 11) ≤ (rmD d).locals := by
      rw [wds_eq, show nativeFrameWords "java/lang/System" "arraycopy" 5 = 7 by decide +kernel]
      have := Nat.le_of_ble_eq_true hb3
      show wds st + (7 + 11) ≤ 64 * d
      omega
    exact va_copyi (D := D) X.1 X.2.1 (X.2.2.1.trans hl.1.symm) X.2.2.2.2.1 (X.w hlk) (X.w hnat) (X.w hst) (X.w hini) X.2.2.2.2.2.2.2.1 hP hD hS q0 q1 0 0 h4 h2 rfl rfl rfl c1 c2 c3 (Nat.le_of_ble_eq_true c4) (Nat.le_of_ble_eq_true c5) (fun _ _ => rfl) hd1 hloc hdg (fun H1 locs1 a b z => by rw [e] at a b; exact K rfl H1 ls locs1 (hl.gom mk) (hp.gom mk) hs.tl.tl.tl.tl.tl a b z)

theorem os_max {ix : Nat} (hlk : Cond.methodLink y.cls ix Lib.Math.max.name ∈ bwL) (hst : Cond.static Lib.Math.max.name ∈ bwL) (hini : Cond.initialized "java/lang/Math" ∈ bwL) (hco : Cond.code Lib.Math.max.name Lib.Math.max.code 2 (some .int) ∈ bwL) (hd1 : 1 ≤ d) (hdg : decode cc pc = .ok (.invokestatic ix, 3)) : OS mI y cc nL rt d pc (oM2 mx32 (pc + 3, mk)) := by
  intro D cA ad cells l p e s m args below meth c A r0 mid pl st S hC X hA K H ls locs hl hp hs hP hD hS
  rcases st with _ | ⟨v, st⟩
  · exact K.elim
  rcases v with z0 | z0 | z0
  rotate_left
  · exact K.elim
  · exact K.elim
  rcases st with _ | ⟨v, st⟩
  · exact K.elim
  rcases v with z1 | z1 | z1
  rotate_left
  · exact K.elim
  · exact K.elim
  have hb : Nat.ble (wds st) 8 = true := by
    cases hb : Nat.ble (wds st) 8 with
    | true => rfl
    | false => simp only [oM2, hb] at K; exact K.elim
  simp only [oM2, hb] at K
  have hloc : ((st.map (cn ad)).map fun v => v.category).sum + 13 ≤ (rmD d).locals := by
    rw [wds_eq]
    have := Nat.le_of_ble_eq_true hb
    show wds st + 13 ≤ 64 * d
    omega
  exact va_mmax X.1 X.2.1 (X.2.2.1.trans hl.1.symm) X.2.2.2.2.1 (X.w hlk) (X.w hst) (X.w hini) (X.w hco) hd1 hloc (Nat.le_refl _) (Nat.le_refl _) hdg (K rfl H ls locs (hl.gom mk) (hp.gom mk) (hs.tl.tl.cons trivial) hP hD hS)

theorem os_min {ix : Nat} (hlk : Cond.methodLink y.cls ix Lib.Math.min.name ∈ bwL) (hst : Cond.static Lib.Math.min.name ∈ bwL) (hini : Cond.initialized "java/lang/Math" ∈ bwL) (hco : Cond.code Lib.Math.min.name Lib.Math.min.code 2 (some .int) ∈ bwL) (hd1 : 1 ≤ d) (hdg : decode cc pc = .ok (.invokestatic ix, 3)) : OS mI y cc nL rt d pc (oM2 mn32 (pc + 3, mk)) := by
  intro D cA ad cells l p e s m args below meth c A r0 mid pl st S hC X hA K H ls locs hl hp hs hP hD hS
  rcases st with _ | ⟨v, st⟩
  · exact K.elim
  rcases v with z0 | z0 | z0
  rotate_left
  · exact K.elim
  · exact K.elim
  rcases st with _ | ⟨v, st⟩
  · exact K.elim
  rcases v with z1 | z1 | z1
  rotate_left
  · exact K.elim
  · exact K.elim
  have hb : Nat.ble (wds st) 8 = true := by
    cases hb : Nat.ble (wds st) 8 with
    | true => rfl
    | false => simp only [oM2, hb] at K; exact K.elim
  simp only [oM2, hb] at K
  have hloc : ((st.map (cn ad)).map fun v => v.category).sum + 13 ≤ (rmD d).locals := by
    rw [wds_eq]
    have := Nat.le_of_ble_eq_true hb
    show wds st + 13 ≤ 64 * d
    omega
  exact va_mmin X.1 X.2.1 (X.2.2.1.trans hl.1.symm) X.2.2.2.2.1 (X.w hlk) (X.w hst) (X.w hini) (X.w hco) hd1 hloc (Nat.le_refl _) (Nat.le_refl _) hdg (K rfl H ls locs (hl.gom mk) (hp.gom mk) (hs.tl.tl.cons trivial) hP hD hS)

theorem os_abs {ix : Nat} (hlk : Cond.methodLink y.cls ix Lib.Math.abs.name ∈ bwL) (hst : Cond.static Lib.Math.abs.name ∈ bwL) (hini : Cond.initialized "java/lang/Math" ∈ bwL) (hco : Cond.code Lib.Math.abs.name Lib.Math.abs.code 1 (some .int) ∈ bwL) (hd1 : 1 ≤ d) (hdg : decode cc pc = .ok (.invokestatic ix, 3)) : OS mI y cc nL rt d pc (oAbs (pc + 3, mk)) := by
  intro D cA ad cells l p e s m args below meth c A r0 mid pl st S hC X hA K H ls locs hl hp hs hP hD hS
  rcases st with _ | ⟨v, st⟩
  · exact K.elim
  rcases v with z0 | z0 | z0
  rotate_left
  · exact K.elim
  · exact K.elim
  have hb : Nat.ble (wds st) 8 = true := by
    cases hb : Nat.ble (wds st) 8 with
    | true => rfl
    | false => simp only [oAbs, hb] at K; exact K.elim
  simp only [oAbs, hb] at K
  have hloc : ((st.map (cn ad)).map fun v => v.category).sum + 13 ≤ (rmD d).locals := by
    rw [wds_eq]
    have := Nat.le_of_ble_eq_true hb
    show wds st + 13 ≤ 64 * d
    omega
  exact va_mabs X.1 X.2.1 (X.2.2.1.trans hl.1.symm) X.2.2.2.2.1 (X.w hlk) (X.w hst) (X.w hini) (X.w hco) hd1 hloc (Nat.le_refl _) (Nat.le_refl _) hdg (K rfl H ls locs (hl.gom mk) (hp.gom mk) (hs.tl.cons trivial) hP hD hS)

theorem zret2 {p : Program} {l : Launch} {e : Env} {R : Room} {s : State} {m : MethodId} {args : Array Value} {below : List Frame} {meth : Method} {c : Code} {H : Heap} {locs : List Loc} {cells slots : Nat} {cc : ByteArray} {Qc : Array Value → State → Outcome → State → Prop} {free : Addr → Prop} {v w : Int32} {ty : FieldType} (hexec : p.tables.exec = Jvm.exec) (hb : c.code = cc) (hr : meth.sig.returnType = some ty) (hn : narrow ty (.int v) = .int w)
    (hq : ∀ t : State, t.heap = H → s.WarmedH t.vm → Qc args s (.returned (some (.int w))) t) (hf : ∀ q ∈ locs, free q.base)
    {pc : Nat} {ls : Array Slot} (hdg : decode cc pc = .ok (.ireturn, 1)) (hlocks : meth.locks = false) : W p l e R s m args below meth c H locs cells slots (MQ below Qc args s cells slots free) (F0 m pc ls [.int v]) := by
  intro T hT X
  obtain ⟨fs, hret, hrun, hended, hW, hframe⟩ := X.leave (v := some (.int w)) (fun h => by rw [hr] at h; cases h)
  have hmeth' : T.vm.method? m = some meth := X.method'
  refine ⟨T.setFrames fs, ?_, .returned (some (.int w)), hrun, hended, hq _ hT hW, locs, ⟨⟨_, rfl⟩, hW, hframe⟩, hf⟩
  jvm_step X.here [X.here.top, hexec, hb, hdg, hmeth', hr, hn]
  (try refine ⟨rfl, ?_⟩); (try refine ⟨rfl, ?_⟩)
  first | (intro acts; rw [hret _ acts rfl rfl rfl]) | rw [hret _ _ rfl rfl rfl]
  exact Steps.refl _

theorem os_retV (hr : rt = none) (hdg : decode cc pc = .ok (.return_, 1)) : OS mI y cc nL rt d pc (oRetV) := by
  intro D cA ad cells l p e s m args below meth c A r0 mid pl st S hC X hA K H ls locs hl hp hs hP hD hS
  rcases st with _ | ⟨v, st⟩
  · exact W.vret X.1 X.2.1 (X.2.2.2.1.trans hr) (fun t ht hW => ⟨by rw [← K]; rfl, by rw [ht, ← K]; exact hP, hS.F ht⟩) hS.2.2 hdg X.2.2.2.2.2.2.1
  · exact K.elim

theorem os_retI (hr : rt = some .int) (hdg : decode cc pc = .ok (.ireturn, 1)) : OS mI y cc nL rt d pc (oRetI) := by
  intro D cA ad cells l p e s m args below meth c A r0 mid pl st S hC X hA K H ls locs hl hp hs hP hD hS
  rcases st with _ | ⟨v, st⟩
  · exact K.elim
  rcases v with z0 | z0 | z0
  rotate_left
  · exact K.elim
  · exact K.elim
  rcases st with _ | ⟨v, st⟩
  rotate_left
  · exact K.elim
  exact W.iret X.1 X.2.1 (X.2.2.2.1.trans hr) (fun t ht hW => ⟨by rw [← K]; rfl, by rw [ht, ← K]; exact hP, hS.F ht⟩) hS.2.2 hdg X.2.2.2.2.2.2.1

theorem os_retZ (hr : rt = some .boolean) (hdg : decode cc pc = .ok (.ireturn, 1)) : OS mI y cc nL rt d pc (oRetZ) := by
  intro D cA ad cells l p e s m args below meth c A r0 mid pl st S hC X hA K H ls locs hl hp hs hP hD hS
  rcases st with _ | ⟨v, st⟩
  · exact K.elim
  rcases v with z0 | z0 | z0
  rotate_left
  · exact K.elim
  · exact K.elim
  rcases st with _ | ⟨v, st⟩
  rotate_left
  · exact K.elim
  exact zret2 X.1 X.2.1 (X.2.2.2.1.trans hr) (show narrow .boolean (.int z0) = .int (zn z0) from rfl) (fun t ht hW => ⟨by rw [← K]; rfl, by rw [ht, ← K]; exact hP, hS.F ht⟩) hS.2.2 hdg X.2.2.2.2.2.2.1

theorem os_retR {C : String} (hr : rt = some (.object C)) (hdg : decode cc pc = .ok (.areturn, 1)) : OS mI y cc nL rt d pc (oRetR) := by
  intro D cA ad cells l p e s m args below meth c A r0 mid pl st S hC X hA K H ls locs hl hp hs hP hD hS
  rcases st with _ | ⟨v, st⟩
  · exact K.elim
  rcases v with z0 | z0 | z0
  · exact K.elim
  · exact K.elim
  rcases st with _ | ⟨v, st⟩
  rotate_left
  · exact K.elim
  cases z0 with
  | none => exact W.aret X.1 X.2.1 (X.2.2.2.1.trans hr) (Or.inl ⟨_, rfl⟩) (Or.inl rfl) (fun t ht hW => ⟨by rw [← K]; rfl, by rw [ht, ← K]; exact hP, hS.F ht⟩) hS.2.2 hdg X.2.2.2.2.2.2.1
  | some q => exact W.aret X.1 X.2.1 (X.2.2.2.1.trans hr) (Or.inl ⟨_, rfl⟩) (Or.inr ⟨_, rfl⟩) (fun t ht hW => ⟨by rw [← K]; rfl, by rw [ht, ← K]; exact hP, hS.F ht⟩) hS.2.2 hdg X.2.2.2.2.2.2.1

theorem swC_map {x : Int32} {mm : Nat} {pl : Pl} {st : List PV} {S : St} : ∀ (ks : List (Int32 × Tg)) (d : Tg), swC x (ks.map (fun q => (q.1, cf mm q.2 pl st S))) (cf mm d pl st S) = cf mm (((ks.find? (fun q => decide (x = q.1))).map (fun q => q.2)).getD d) pl st S
  | [], d => rfl
  | (k, t) :: ks, d => by
    unfold List.map swC
    by_cases h : x = k
    · rw [if_pos h, List.find?_cons_of_pos (by simpa using h)]
      rfl
    · rw [if_neg h, List.find?_cons_of_neg (by simpa using h)]
      exact swC_map ks d

theorem os_tsw {dflt lo hi : Int} {offs : Array Int} {len : Nat} {ks : List (Int32 × Tg)} {dt : Tg} (hdg : decode cc pc = .ok (.tableswitch dflt lo hi offs, len)) (hks : ∀ j, j < ks.length → ∃ off, offs[j]? = some off ∧ (ks[j]?).map (fun q => (q.1, (q.2.1 : Int))) = some (Int32.ofInt (lo + j), (pc : Int) + off)) (hlo : -2147483648 ≤ lo ∧ hi = lo + ks.length - 1 ∧ hi ≤ 2147483647) (hdt : (pc : Int) + dflt = (dt.1 : Int)) : OS mI y cc nL rt d pc (oSw ks dt) := by
  intro D cA ad cells l p e s m args below meth c A r0 mid pl st S hC X hA K H ls locs hl hp hs hP hD hS
  rcases st with _ | ⟨v, st⟩
  · exact K.elim
  rcases v with z0 | z0 | z0
  rotate_left
  · exact K.elim
  · exact K.elim
  have K : VC D cA ad cells l p e s m args below meth c A d r0 nL mid (swC z0 (ks.map (fun q => (q.1, cf mid q.2 pl st S))) (cf mid dt pl st S)) := K
  rw [swC_map] at K
  by_cases hr : z0.toInt < lo ∨ hi < z0.toInt
  · have hnf : ks.find? (fun q => decide (z0 = q.1)) = none := by
      rw [List.find?_eq_none]
      intro q hq
      obtain ⟨j, hj⟩ := List.mem_iff_getElem?.mp hq
      have hjl : j < ks.length := (List.getElem?_eq_some_iff.mp hj).1
      obtain ⟨off, h1, h2⟩ := hks j hjl
      rw [hj] at h2
      have h3 : q.1 = Int32.ofInt (lo + j) := congrArg (fun o => o.1) (Option.some.inj h2)
      simp only [decide_eq_true_eq]
      rintro rfl
      rw [h3, Int32.toInt_ofInt_of_le (by omega) (by omega)] at hr
      omega
    rw [hnf] at K
    exact lv_tableOut X.1 X.2.1 hdg hr hdt (K rfl H ls locs (hl.gom dt.2) (hp.gom dt.2) hs.tl hP hD hS)
  · have h1 : ¬ z0.toInt < lo := fun q => hr (Or.inl q)
    have h2 : ¬ hi < z0.toInt := fun q => hr (Or.inr q)
    obtain ⟨j, hj⟩ : ∃ j : Nat, z0.toInt = lo + j := ⟨(z0.toInt - lo).toNat, by omega⟩
    have hjl : j < ks.length := by omega
    obtain ⟨off, ho, hk⟩ := hks j hjl
    have hz : z0 = Int32.ofInt (lo + j) := by rw [← hj, Int32.ofInt_toInt]
    have hex : ∃ q, ks.find? (fun q => decide (z0 = q.1)) = some q := by
      rw [← Option.isSome_iff_exists, List.find?_isSome]
      cases hq : ks[j]? with
      | none => rw [hq] at hk; cases hk
      | some q =>
        rw [hq] at hk
        have h3 : q.1 = Int32.ofInt (lo + j) := congrArg (fun o => o.1) (Option.some.inj hk)
        exact ⟨q, List.mem_of_getElem? hq, by simpa using hz.trans h3.symm⟩
    obtain ⟨q, hq⟩ := hex
    rw [hq] at K
    have hqe : z0 = q.1 := by simpa using List.find?_some hq
    obtain ⟨j2, hj2⟩ := List.mem_iff_getElem?.mp (List.mem_of_find?_eq_some hq)
    have hj2l : j2 < ks.length := (List.getElem?_eq_some_iff.mp hj2).1
    obtain ⟨off2, ho2, hk2⟩ := hks j2 hj2l
    rw [hj2] at hk2
    have h4 := Option.some.inj hk2
    have h5 : q.1 = Int32.ofInt (lo + j2) := congrArg (fun o => o.1) h4
    have h6 : ((q.2.1 : Nat) : Int) = (pc : Int) + off2 := congrArg (fun o => o.2) h4
    have h7 : z0.toInt = lo + j2 := by rw [hqe, h5, Int32.toInt_ofInt_of_le (by omega) (by omega)]
    exact lv_tableIn X.1 X.2.1 hdg h1 h2 (by rw [show (z0.toInt - lo).toNat = j2 by omega]; exact ho2) h6.symm (K rfl H ls locs (hl.gom q.2.2) (hp.gom q.2.2) hs.tl hP hD hS)

theorem os_lsw {dflt : Int} {ps : Array (Int × Int)} {len : Nat} {ks : List (Int32 × Tg)} {dt : Tg} (hdg : decode cc pc = .ok (.lookupswitch dflt ps, len)) (hps : (ps.toList.zip (ps.toList.drop 1)).all (fun (a, next) => a.1 < next.1) = true) (hks : ∀ x : Int32, (pc : Int) + Op.lookupswitch.offset ps.toList dflt x.toInt = (((((ks.find? (fun q => decide (x = q.1))).map (fun q => q.2)).getD dt).1 : Nat) : Int)) : OS mI y cc nL rt d pc (oSw ks dt) := by
  intro D cA ad cells l p e s m args below meth c A r0 mid pl st S hC X hA K H ls locs hl hp hs hP hD hS
  rcases st with _ | ⟨v, st⟩
  · exact K.elim
  rcases v with z0 | z0 | z0
  rotate_left
  · exact K.elim
  · exact K.elim
  have K : VC D cA ad cells l p e s m args below meth c A d r0 nL mid (swC z0 (ks.map (fun q => (q.1, cf mid q.2 pl st S))) (cf mid dt pl st S)) := K
  rw [swC_map] at K
  exact lv_lookup X.1 X.2.1 hdg hps rfl (hks z0) (K rfl H ls locs (hl.gom _) (hp.gom _) hs.tl hP hD hS)

end OPS
