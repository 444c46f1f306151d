def qx_ad (ws : va_W) : Nat → Prop := fun q => ∃ (k : Nat) (e : va_E), ws[k]? = some (q, e)
def qx_Pc (D : va_G) (cl : List vw_C) (tys : List (ClassId × FieldType)) (wc : va_W) (av : List Value) : Array Value → State → Prop := va_Pc av (fun U => va_P D cl wc U.heap ∧ va_K D cl tys U ∧ qn U ∧ va_D (fun _ => True) wc)
def qx_Q (D : va_G) (cl : List vw_C) (w1 : va_W) (A : Nat → Prop) (v : Option Value) : Array Value → State → Outcome → State → Prop := fun _ st oc t => oc = .returned v ∧ va_P D cl w1 t.heap ∧ va_F A st t
def qx_ix : List Nat → Nat → Option Nat
  | [], _ => none
  | a :: l, j => if a = j then some 0 else (qx_ix l j).map (· + 1)
theorem qx_ix_none : ∀ (l : List Nat) (j : Nat), qx_ix l j = none → j ∉ l
  | [], _, _ => List.not_mem_nil
  | a :: l, j, h => by
    intro hm
    simp only [qx_ix] at h
    by_cases e : a = j
    · rw [if_pos e] at h; cases h
    · rw [if_neg e] at h
      have h2 : qx_ix l j = none := by cases hq : qx_ix l j with
        | none => rfl
        | some i => rw [hq] at h; cases h
      rcases List.mem_cons.mp hm with h3 | h3
      · exact e h3.symm
      · exact qx_ix_none l j h2 h3
theorem qx_at {ws w : va_W} {is : List Nat} (hs : is.map (fun i => ws[i]?) = w.map some) (k : Nat) (q : Nat × va_E) (hq : w[k]? = some q) : ∃ i, is[k]? = some i ∧ ws[i]? = some q := by
  have h1 : (is.map (fun i => ws[i]?))[k]? = some (some q) := by rw [hs, List.getElem?_map, hq]; rfl
  rw [List.getElem?_map] at h1
  cases hi : is[k]? with
  | none => rw [hi] at h1; cases h1
  | some i => rw [hi] at h1; exact ⟨i, rfl, Option.some.inj h1⟩
theorem qx_P_sub {D : va_G} {cl : List vw_C} {ws w : va_W} {H : Heap} (hP : va_P D cl ws H) (is : List Nat) (hs : is.map (fun i => ws[i]?) = w.map some) : va_P D cl w H := by
  intro k q hq
  obtain ⟨i, -, h2⟩ := qx_at hs k q hq
  exact hP i q h2
theorem qx_ad_in {A : Nat → Prop} {ws wc : va_W} (hD : va_D A ws) (is : List Nat) (hs : is.map (fun i => ws[i]?) = wc.map some) (q : Nat) (h : qx_ad wc q) : A q := by
  obtain ⟨k, e, hk⟩ := h
  obtain ⟨i, -, h2⟩ := qx_at hs k _ hk
  exact hD.2 i _ h2
theorem qx_join {A : Nat → Prop} {D : va_G} {cl : List vw_C} {ws wc w1 wn : va_W} {H H1 : Heap} (hP : va_P D cl ws H) (hD : va_D A ws) (isC : List Nat) (hC : isC.map (fun i => ws[i]?) = wc.map some) (hP1 : va_P D cl w1 H1) (hk : ∀ q : Nat, q < H.size → ¬ qx_ad wc q → H1[q]? = H[q]?)
    (hnew : (List.range wn.length).map (fun j => match qx_ix isC j with | some i => w1[i]? | none => ws[j]?) = wn.map some) (hadr : wn.map Prod.fst = ws.map Prod.fst) : va_P D cl wn H1 ∧ va_D A wn := by
  have adr : ∀ (i : Nat) (q : Nat × va_E), wn[i]? = some q → ∃ e : va_E, ws[i]? = some (q.1, e) := by
    intro i q hq
    have h1 : (wn.map Prod.fst)[i]? = some q.1 := by rw [List.getElem?_map, hq]; rfl
    rw [hadr, List.getElem?_map] at h1
    cases hi : ws[i]? with
    | none => rw [hi] at h1; cases h1
    | some x =>
      rw [hi] at h1
      have h2 : x.1 = q.1 := Option.some.inj h1
      exact ⟨x.2, by rw [← h2]⟩
  refine ⟨fun k q hq => ?_, fun i j x y hi hj hxy => ?_, fun k q hq => ?_⟩
  · have hlt : k < wn.length := (List.getElem?_eq_some_iff.mp hq).1
    have h1 : ((List.range wn.length).map (fun j => match qx_ix isC j with | some i => w1[i]? | none => ws[j]?))[k]? = some (some q) := by rw [hnew, List.getElem?_map, hq]; rfl
    rw [List.getElem?_map, List.getElem?_range hlt] at h1
    have h2 : (match qx_ix isC k with | some i => w1[i]? | none => ws[k]?) = some q := Option.some.inj h1
    cases hx : qx_ix isC k with
    | some i =>
      rw [hx] at h2
      exact hP1 i q h2
    | none =>
      rw [hx] at h2
      have h3 : ws[k]? = some q := h2
      refine (hP k q h3).kept (hk q.1 (hP k q h3).lt ?_)
      rintro ⟨i, e, hi⟩
      obtain ⟨j, h4, h5⟩ := qx_at hC i _ hi
      have h6 := hD.1 k j q (q.1, e) h3 h5 rfl
      subst h6
      exact qx_ix_none isC k hx (List.mem_of_getElem? h4)
  · obtain ⟨e1, h1⟩ := adr i x hi
    obtain ⟨e2, h2⟩ := adr j y hj
    exact hD.1 i j _ _ h1 h2 hxy
  · obtain ⟨e1, h1⟩ := adr k q hq
    exact hD.2 k (q.1, e1) h1
theorem qx_blind {D : va_G} {cl : List vw_C} {tys : List (ClassId × FieldType)} {wc : va_W} {av : List Value} : FrameBlind (qx_Pc D cl tys wc av) := fun a U g mk q => by
  obtain ⟨q0, qP, qK, qN, qD⟩ := q
  exact ⟨q0, qP, va_K.moved (u := U) (U := U.calling g mk a) (Vm.Alike.refl U.vm) qK, qn_same (U := U.calling g mk a) rfl qN, qD⟩
section QxCalls
variable {p : Program} {l : Launch} {e : Env} {R : Room} {s : State} {m : MethodId} {args : Array Value} {below : List Frame} {meth : Method} {c : Code} {H H0 : Heap} {locs : List Loc} {cells slots : Nat} {Q : State → Prop} {D : va_G} {cl : List vw_C} {tys : List (ClassId × FieldType)} {A : Nat → Prop} {ws wc w1 wn : va_W} {a : Array Value} {pc : Nat} {ls : Array Slot} {st0 rest As : List Value}
theorem qx_preS (hP : va_P D cl ws H) (hD : va_D A ws) (hK : va_K D cl tys s) (hN : qn s) (isC : List Nat) (hn : va_nd isC = true) (hC : isC.map (fun i => ws[i]?) = wc.map some) : PreS s H (qx_Pc D cl tys wc As) As :=
  ⟨qx_blind, fun U hU hW => ⟨rfl, by rw [hU]; exact qx_P_sub hP isC hC, va_K.moved hW.alike hK, qn_warm hW hN, (hD.sub isC hn hC).weaken (fun _ _ _ _ => trivial)⟩⟩
theorem qx_preV {b q0 ci : Nat} {q : vw_C} {fs : List Value} (hP : va_P D cl ws H) (hD : va_D A ws) (hK : va_K D cl tys s) (hN : qn s) (isC : List Nat) (hn : va_nd isC = true) (hC : isC.map (fun i => ws[i]?) = wc.map some) (hc : cl[ci]? = some q) (he : ws[q0]? = some (b, .inr (ci, fs))) : PreV s H q.1 b (qx_Pc D cl tys wc (.ref b :: As)) As :=
  ⟨qx_blind, va_recv hK hP hc he, fun U hU hW => ⟨rfl, by rw [hU]; exact qx_P_sub hP isC hC, va_K.moved hW.alike hK, qn_warm hW hN, (hD.sub isC hn hC).weaken (fun _ _ _ _ => trivial)⟩⟩
/-- behind the call of a contract that reads alone -/
theorem qx_rd {r : Value} (hr : va_Run p l e R s m args below meth c H locs cells slots 0 0 (F0 m pc ls st0) rest (k2_QcV r a) (fun _ => False)) (kk : W p l e R s m args below meth c H locs cells slots Q (F0 m (pc + 3) ls (r :: rest))) : W p l e R s m args below meth c H locs cells slots Q (F0 m pc ls st0) := W.callV hr.run kk
/-- behind the call of a contract that writes -/
theorem qx_mu {v : Option Value} (hr : va_Run p l e R s m args below meth c H locs cells slots 0 0 (F0 m pc ls st0) rest (qx_Q D cl w1 (qx_ad wc) v a) (qx_ad wc)) (hP : va_P D cl ws H) (hD : va_D A ws) (hS : va_S A H0 H locs) (isC : List Nat) (hC : isC.map (fun i => ws[i]?) = wc.map some)
    (hnew : (List.range wn.length).map (fun j => match qx_ix isC j with | some i => w1[i]? | none => ws[j]?) = wn.map some) (adr : List Nat) (had1 : wn.map Prod.fst = adr) (had2 : ws.map Prod.fst = adr)
    (kk : ∀ (H1 : Heap) (locs1 : List Loc), va_P D cl wn H1 → va_D A wn → va_S A H0 H1 locs1 → W p l e R s m args below meth c H1 locs1 cells slots Q (F0 m (pc + 3) ls (v.toList ++ rest))) : W p l e R s m args below meth c H locs cells slots Q (F0 m pc ls st0) := by
  intro T hT X
  obtain ⟨v', st₀, t, T', L, h0, X', hL, e1, e2, ⟨hv, hP1, hz, hk⟩, st⟩ := hr T hT X
  cases hv
  rw [h0] at hz hk
  rw [← e1] at hP1 hz hk
  obtain ⟨j1, j2⟩ := qx_join hP hD isC hC hP1 hk hnew (had1.trans had2.symm)
  obtain ⟨t2, a1, b1⟩ := kk T'.heap (locs ++ L) j1 j2 ⟨Nat.le_trans hS.1 hz, fun q h1 h2 => by rw [hk q (Nat.lt_of_lt_of_le h1 hS.1) (fun z => h2 (qx_ad_in hD isC hC q z))]; exact hS.2.1 q h1 h2, fun q hq => by
      rcases List.mem_append.mp hq with h | h
      · exact hS.2.2 q h
      · exact qx_ad_in hD isC hC _ (hL q h)⟩ T' rfl X'
  exact ⟨t2, st t2 a1, b1⟩
/-- the same, the new state as a name -/
theorem qx_muZ {σ : Type} {T : σ} {Wf : σ → va_W} {vf : σ → Option Value} (hr : va_Run p l e R s m args below meth c H locs cells slots 0 0 (F0 m pc ls st0) rest (qx_Q D cl w1 (qx_ad wc) (vf T) a) (qx_ad wc)) (hP : va_P D cl ws H) (hD : va_D A ws) (hS : va_S A H0 H locs) (isC : List Nat) (hC : isC.map (fun i => ws[i]?) = wc.map some)
    (hnew : (List.range (Wf T).length).map (fun j => match qx_ix isC j with | some i => w1[i]? | none => ws[j]?) = (Wf T).map some) (adr : List Nat) (had1 : (Wf T).map Prod.fst = adr) (had2 : ws.map Prod.fst = adr)
    (kk : ∀ (z : σ), T = z → ∀ (H1 : Heap) (locs1 : List Loc), va_P D cl (Wf z) H1 → va_D A (Wf z) → va_S A H0 H1 locs1 → W p l e R s m args below meth c H1 locs1 cells slots Q (F0 m (pc + 3) ls ((vf z).toList ++ rest))) : W p l e R s m args below meth c H locs cells slots Q (F0 m pc ls st0) :=
  qx_mu hr hP hD hS isC hC hnew adr had1 had2 (kk T rfl)
theorem qx_kS {own : String} {idx maxL n : Nat} {y : MethodName} {bytes : ByteArray} {ret : Option FieldType} {rm : Room} (ht : ∀ w ∈ qx_T, w.before args s = true) (hl : Cond.methodLink own idx y ∈ qx_T) (hs : Cond.static y ∈ qx_T) (hi : Cond.initialized y.cls ∈ qx_T) (hc : Cond.code y bytes maxL ret ∈ qx_T)
    (hd : y.cls ≠ "java/lang/invoke/MethodHandle" ∧ y.cls ≠ "java/lang/invoke/VarHandle" ∧ (parseMethodDescriptor y.desc).map (fun d => d.parameters.length) = some n) (hR : rm.frames + 1 ≤ R.frames ∧ 8 + (maxL + 11) + rm.locals ≤ R.locals) : CallB R s args own idx y bytes maxL ret (Cond.code y bytes maxL ret :: qx_T) rm rm.cells rm.slots n ∧ (Cond.static y).before args s = true :=
  ⟨callB_of n ht (qx_good hc) rfl rfl rfl (ht _ hi) (ht _ hl) hd hR, ht _ hs⟩
theorem qx_kV {own : String} {idx maxL n : Nat} {y : MethodName} {bytes : ByteArray} {ret : Option FieldType} {rm : Room} (ht : ∀ w ∈ qx_T, w.before args s = true) (hl : Cond.methodLink own idx y ∈ qx_T) (hm : Cond.instanceMethod y ∈ qx_T) (hs : Cond.selects y.cls y y ∈ qx_T) (hi : Cond.initialized y.cls ∈ qx_T) (hc : Cond.code y bytes maxL ret ∈ qx_T)
    (hd : y.cls ≠ "java/lang/invoke/MethodHandle" ∧ y.cls ≠ "java/lang/invoke/VarHandle" ∧ (parseMethodDescriptor y.desc).map (fun d => d.parameters.length) = some n) (hR : rm.frames + 1 ≤ R.frames ∧ 8 + (maxL + 11) + rm.locals ≤ R.locals) : CallW R s args own y.cls idx y bytes maxL ret (Cond.code y bytes maxL ret :: qx_T) rm rm.cells rm.slots n :=
  ⟨callB_of n ht (qx_good hc) rfl rfl rfl (ht _ hi) (ht _ hl) hd hR, ht _ hm, ht _ hs⟩
theorem qx_kI {own : String} {idx maxL n : Nat} {y : MethodName} {bytes : ByteArray} {rm : Room} (ht : ∀ w ∈ qx_T, w.before args s = true) (hl : Cond.methodLink own idx y ∈ qx_T) (hm : Cond.instanceMethod y ∈ qx_T) (hi : Cond.initialized y.cls ∈ qx_T) (hc : Cond.code y bytes maxL none ∈ qx_T) (hy : y.name = "<init>")
    (hd : y.cls ≠ "java/lang/invoke/MethodHandle" ∧ y.cls ≠ "java/lang/invoke/VarHandle" ∧ (parseMethodDescriptor y.desc).map (fun d => d.parameters.length) = some n) (hR : rm.frames + 1 ≤ R.frames ∧ 8 + (maxL + 11) + rm.locals ≤ R.locals) : CallB R s args own idx y bytes maxL none (Cond.code y bytes maxL none :: qx_T) rm rm.cells rm.slots n ∧ y.name = "<init>" ∧ (Cond.instanceMethod y).before args s = true :=
  ⟨callB_of n ht (qx_good hc) rfl rfl rfl (ht _ hi) (ht _ hl) hd hR, hy, ht _ hm⟩
theorem qx_kSN {own host : String} {idx maxL n : Nat} {y : MethodName} {bytes : ByteArray} {ret : Option FieldType} {rm : Room} (ht : ∀ w ∈ qx_T, w.before args s = true) (hl : va_Nw (.methodLinkNest own idx y host) s) (hs : Cond.static y ∈ qx_T) (hi : Cond.initialized y.cls ∈ qx_T) (hc : Cond.code y bytes maxL ret ∈ qx_T)
    (hd : y.cls ≠ "java/lang/invoke/MethodHandle" ∧ y.cls ≠ "java/lang/invoke/VarHandle" ∧ (parseMethodDescriptor y.desc).map (fun d => d.parameters.length) = some n) (hR : rm.frames + 1 ≤ R.frames ∧ 8 + (maxL + 11) + rm.locals ≤ R.locals) : va_CN R s args own idx y host bytes maxL ret (Cond.code y bytes maxL ret :: qx_T) rm rm.cells rm.slots n ∧ (Cond.static y).before args s = true ∧ True :=
  ⟨va_cnB n ht (qx_good hc) rfl rfl rfl hl (ht _ hi) hd hR, ht _ hs, trivial⟩
theorem qx_kIN {own host : String} {idx maxL n : Nat} {y : MethodName} {bytes : ByteArray} {rm : Room} (ht : ∀ w ∈ qx_T, w.before args s = true) (hl : va_Nw (.methodLinkNest own idx y host) s) (hm : Cond.instanceMethod y ∈ qx_T) (hi : Cond.initialized y.cls ∈ qx_T) (hc : Cond.code y bytes maxL none ∈ qx_T) (hy : y.name = "<init>")
    (hd : y.cls ≠ "java/lang/invoke/MethodHandle" ∧ y.cls ≠ "java/lang/invoke/VarHandle" ∧ (parseMethodDescriptor y.desc).map (fun d => d.parameters.length) = some n) (hR : rm.frames + 1 ≤ R.frames ∧ 8 + (maxL + 11) + rm.locals ≤ R.locals) : va_CN R s args own idx y host bytes maxL none (Cond.code y bytes maxL none :: qx_T) rm rm.cells rm.slots n ∧ y.name = "<init>" ∧ (Cond.instanceMethod y).before args s = true :=
  ⟨va_cnB n ht (qx_good hc) rfl rfl rfl hl (ht _ hi) hd hR, hy, ht _ hm⟩
end QxCalls
theorem qx_one {D : va_G} {cl : List vw_C} {cA cB : ClassId} {s : State} (h : va_K D cl ([(cA, .int)] ++ [(cB, .int)]) s) : cB = cA := by
  have h1 := (h.2 0 (cA, .int) rfl).2
  have h2 := (h.2 1 (cB, .int) rfl).2
  exact Option.some.inj (h2.symm.trans h1)
