/-! the frame of every contract here: a world of cells before, a world behind, the same array classes -/
def bI (b : Bool) : Int32 := if b then 1 else 0
theorem bI_0 {b : Bool} : bI b = nI 0 ↔ b = false := by cases b <;> simp [bI, nI]
theorem bI_z (b : Bool) : narrow .boolean (.int (bI b)) = .int (bI b) := by cases b <;> rfl
theorem bI_t {b : Bool} (h : b = true) : nI 1 = bI b := by rw [h]; rfl
theorem bI_f {b : Bool} (h : b = false) : nI 0 = bI b := by rw [h]; rfl
theorem bI_cf {b : Bool} (h : bI b = nI 0) : b = false := bI_0.mp h
theorem bI_ct {b : Bool} (h : ¬ bI b = nI 0) : b = true := by
  cases b with
  | false => exact absurd (bI_0.mpr rfl) h
  | true => rfl
/-- the array classes of the worlds -/
abbrev TY (cI cG cC cR : ClassId) : List (ClassId × FieldType) := [(cI, .int), (cG, .array .int), (cC, .char), (cR, .object "SlotMaps$Slots")]
/-- the words of the nest: what a class here reads of a nest mate's private members -/
def nwF : List (Nat × String × String × String) := [(121, "SlotMaps$Slots", "bits", "[[I"), (138, "SlotMaps$Slots", "blockFirst", "[I"), (142, "SlotMaps$Slots", "blockSize", "[I"), (95, "SlotMaps$Slots", "summary", "I"), (92, "SlotMaps$Slots", "looks", "I"), (112, "SlotMaps$History", "states", "I")]
def nwM : List (Nat × MethodName) := [(51, yX3_lowestBit), (54, yX3_bitOf), (64, yX3_isRunLength), (70, yX3_wordOf), (73, yX3_rangeBits), (85, yX3_isBlockSize)]
def nwL : List Cond := nwF.map (fun q => .fieldLinkNest RX3 q.1 q.2.1 q.2.2.1 q.2.2.2 RX3) ++ nwM.map (fun q => .methodLinkNest RX2 q.1 q.2 RX3)
def nwH (U : State) : Prop := ∀ w ∈ nwL, va_Nw w U
theorem nwH.warm {s U : State} (hW : s.WarmedH U.vm) (h : nwH s) : nwH U := by
  intro w hw
  rcases List.mem_append.mp hw with h1 | h1
  · obtain ⟨q, -, rfl⟩ := List.mem_map.mp h1
    exact va_Nw.warmF hW (h _ hw)
  · obtain ⟨q, -, rfl⟩ := List.mem_map.mp h1
    exact va_Nw.warmM hW (h _ hw)
theorem nwH.same {s U : State} (e : s.vm = U.vm) (h : nwH s) : nwH U := by
  intro w hw
  refine va_Nw.same ?_ e (h w hw)
  rcases List.mem_append.mp hw with h1 | h1
  · obtain ⟨q, -, rfl⟩ := List.mem_map.mp h1
    rfl
  · obtain ⟨q, -, rfl⟩ := List.mem_map.mp h1
    rfl
/-- what stays known of the tables: the classes, the array classes, the nest -/
def KK (D : va_G) (tys : List (ClassId × FieldType)) (U : State) : Prop := va_K D vwCl tys U ∧ nwH U
theorem KK.warm {D : va_G} {tys : List (ClassId × FieldType)} {s U : State} (hW : s.WarmedH U.vm) (h : KK D tys s) : KK D tys U := ⟨va_K.moved hW.alike h.1, h.2.warm hW⟩
abbrev MPc (D : va_G) (tys : List (ClassId × FieldType)) (av : List Value) (ws : va_W) (sz : Nat) : Array Value → State → Prop := va_Pc av (fun U => U.heap.size = sz ∧ va_P D vwCl ws U.heap ∧ KK D tys U ∧ va_D (fun _ => True) ws)
abbrev MB (D : va_G) (ws : va_W) (sz : Nat) (ws' : va_W) : State → Prop := fun t => va_P D vwCl ws' t.heap ∧ va_D (va_A ws sz) ws'
/-- a method that answers a number: from any heap that holds ws it returns r with post r u, and the heap holds W' u; nothing else is changed, nothing is made -/
def CtI {S : Type} (l : Launch) (y : MethodName) (wd : List Cond) (rm : Room) (D : va_G) (tys : List (ClassId × FieldType)) (av : List Value) (ws : va_W) (W' : S → va_W) (post : Int32 → S → Prop) : Prop :=
  ∀ sz : Nat, Met l y wd rm (MPc D tys av ws sz) (va_Qi post (fun u => MB D ws sz (W' u)) (va_A ws sz)) 0 0 (va_A ws sz)
/-- the same of a method without an answer -/
def CtV {S : Type} (l : Launch) (y : MethodName) (wd : List Cond) (rm : Room) (D : va_G) (tys : List (ClassId × FieldType)) (av : List Value) (ws : va_W) (W' : S → va_W) (post : S → Prop) : Prop :=
  ∀ sz : Nat, Met l y wd rm (MPc D tys av ws sz) (va_Qv post (fun u => MB D ws sz (W' u)) (va_A ws sz)) 0 0 (va_A ws sz)
theorem MPc_blind {D : va_G} {tys : List (ClassId × FieldType)} {av : List Value} {ws : va_W} {sz : Nat} : FrameBlind (MPc D tys av ws sz) := fun a U g mk q => by
  obtain ⟨q0, q1, qP, qK, qD⟩ := q
  exact ⟨q0, q1, qP, ⟨va_K.moved (u := U) (U := U.calling g mk a) (Vm.Alike.refl U.vm) qK.1, nwH.same (s := U) (U := U.calling g mk a) rfl qK.2⟩, qD⟩
theorem CtI.of {S : Type} {l : Launch} {y : MethodName} {wd wd' : List Cond} {rm : Room} {D : va_G} {tys : List (ClassId × FieldType)} {av : List Value} {ws : va_W} {W' : S → va_W} {post : Int32 → S → Prop} {cc : ByteArray} {maxL : Nat} {ty : FieldType}
    (hy : plainName y.cls = true) (hw : wd = Cond.code y cc maxL (some ty) :: wd') (hlen : (lg_sl av).length ≤ maxL)
    (body : ∀ (p : Program) (e : Env) (s : State) (m : MethodId) (args : Array Value) (below : List Frame) (meth : Method) (c : Code) (A : Nat → Prop) (Q : State → Prop) (ls : Array Slot),
      CallFix p m c cc maxL s args wd y.cls → KK D tys s → va_P D vwCl ws s.heap → va_D A ws → (∀ q : Nat, s.heap.size ≤ q → A q) →
      (∀ (H : Heap) (locs : List Loc) (r : Int32) (u : S) (ls : Array Slot) (pc : Nat), decode cc pc = .ok (.ireturn, 1) → narrow ty (.int r) = .int r → post r u → va_P D vwCl (W' u) H → va_D A (W' u) → va_S A s.heap H locs → W p l e rm s m args below meth c H locs 0 0 Q (F0 m pc ls [.int r])) →
      lv_has ls maxL (lv_args 0 av) → W p l e rm s m args below meth c s.heap [] 0 0 Q (F0 m 0 ls [])) : CtI l y wd rm D tys av ws W' post := by
  intro sz
  refine Met.ofW hy hw ?_
  intro p e s m args below meth c s₁ B hml hv
  obtain ⟨rfl, hsz, hP, hK, hD0⟩ := hv
  subst hsz
  have hl := lv_entry av (n := maxL) hlen
  rw [lg_entry_eq]
  refine body p e s m av.toArray below meth c (va_A ws s.heap.size) _ _ ⟨B.exec, B.bytes, hml, findClass_of_methodNamed B.named, atoms_spec (ws := wd) B.pre⟩ hK hP hD0.self (fun q h => Or.inr h) ?_ hl
  intro H locs r u ls pc hdg hn hp hP' hD' hS
  exact W.zret B.exec B.bytes B.returns hn (fun t ht hW => ⟨⟨r, u, rfl, hp, by rw [ht]; exact hP', hD'⟩, hS.F ht⟩) hS.2.2 hdg B.notSynchronized
theorem CtV.of {S : Type} {l : Launch} {y : MethodName} {wd wd' : List Cond} {rm : Room} {D : va_G} {tys : List (ClassId × FieldType)} {av : List Value} {ws : va_W} {W' : S → va_W} {post : S → Prop} {cc : ByteArray} {maxL : Nat}
    (hy : plainName y.cls = true) (hw : wd = Cond.code y cc maxL none :: wd') (hlen : (lg_sl av).length ≤ maxL)
    (body : ∀ (p : Program) (e : Env) (s : State) (m : MethodId) (args : Array Value) (below : List Frame) (meth : Method) (c : Code) (A : Nat → Prop) (Q : State → Prop) (ls : Array Slot),
      CallFix p m c cc maxL s args wd y.cls → KK D tys s → va_P D vwCl ws s.heap → va_D A ws → (∀ q : Nat, s.heap.size ≤ q → A q) →
      (∀ (H : Heap) (locs : List Loc) (u : S) (ls : Array Slot) (pc : Nat), decode cc pc = .ok (.return_, 1) → post u → va_P D vwCl (W' u) H → va_D A (W' u) → va_S A s.heap H locs → W p l e rm s m args below meth c H locs 0 0 Q (F0 m pc ls [])) →
      lv_has ls maxL (lv_args 0 av) → W p l e rm s m args below meth c s.heap [] 0 0 Q (F0 m 0 ls [])) : CtV l y wd rm D tys av ws W' post := by
  intro sz
  refine Met.ofW hy hw ?_
  intro p e s m args below meth c s₁ B hml hv
  obtain ⟨rfl, hsz, hP, hK, hD0⟩ := hv
  subst hsz
  have hl := lv_entry av (n := maxL) hlen
  rw [lg_entry_eq]
  refine body p e s m av.toArray below meth c (va_A ws s.heap.size) _ _ ⟨B.exec, B.bytes, hml, findClass_of_methodNamed B.named, atoms_spec (ws := wd) B.pre⟩ hK hP hD0.self (fun q h => Or.inr h) ?_ hl
  intro H locs u ls pc hdg hp hP' hD' hS
  exact W.vret B.exec B.bytes B.returns (fun t ht hW => ⟨⟨u, rfl, hp, by rw [ht]; exact hP', hD'⟩, hS.F ht⟩) hS.2.2 hdg B.notSynchronized
section CALLS
variable {p : Program} {l : Launch} {e : Env} {R : Room} {s : State} {m : MethodId} {args : Array Value} {below : List Frame} {meth : Method} {c : Code} {H : Heap} {locs : List Loc} {cells slots : Nat} {Q : State → Prop}
variable {cc : ByteArray} {nL pc index n maxL : Nat} {ls : Array Slot} {rest st As : List Value} {D : va_G} {A : Nat → Prop} {b ci : Nat} {fs : List Value} {tys : List (ClassId × FieldType)} {ws wc wr : va_W} {H0 : Heap} {Ts wd : List Cond} {own C : String} {y : MethodName} {rm : Room} {bytes : ByteArray} {ret : Option FieldType} {T : u_T} {N : Nat}
/-- how a call's end gives the caller's world: the callee's cells by isC, the others by isR, the order of what comes by isO -/
theorem cl_end {w1 wsN : va_W} {H1 : Heap} (hP : va_P D vwCl ws H) (hD : va_D A ws) (isC isR isO : List Nat) (hC : isC.map (fun i => ws[i]?) = wc.map some) (hR : isR.map (fun i => ws[i]?) = wr.map some) (hn : va_nd isR = true) (hdis : ∀ i ∈ isR, i ∉ isC) (hO : isO.map (fun i => (wr ++ w1)[i]?) = wsN.map some) (hnO : va_nd isO = true)
    (hk : ∀ q : Nat, q < H.size → ¬ va_A wc H.size q → H1[q]? = H[q]?) (hF : ∀ q, va_A wc H.size q → A q) (hP1 : va_P D vwCl w1 H1) (hD1 : va_D (va_A wc H.size) w1) : va_P D vwCl wsN H1 ∧ va_D A wsN := by
  obtain ⟨a1, a2⟩ := va_join hP hD isC isR hC hR hn hdis hk hF hP1 hD1
  refine ⟨fun k q hq => ?_, a2.sub isO hnO hO⟩
  have h1 : (isO.map (fun i => (wr ++ w1)[i]?))[k]? = some (some q) := by rw [hO, List.getElem?_map, hq]; rfl
  rw [List.getElem?_map] at h1
  cases hi : isO[k]? with
  | none => rw [hi] at h1; cases h1
  | some i => rw [hi] at h1; exact a1 i q (Option.some.inj h1)
theorem cl_sub (hP : va_P D vwCl ws H) (isC : List Nat) (hC : isC.map (fun i => ws[i]?) = wc.map some) : va_P D vwCl wc H := by
  intro k q hq
  have h1 : (isC.map (fun i => ws[i]?))[k]? = some (some q) := by rw [hC, List.getElem?_map, hq]; rfl
  rw [List.getElem?_map] at h1
  cases hi : isC[k]? with
  | none => rw [hi] at h1; cases h1
  | some i => rw [hi] at h1; exact hP i q (Option.some.inj h1)
/-- a virtual call that answers a number -/
theorem cl_Vi {S : Type} {post : Int32 → S → Prop} {W' wsN : S → va_W} (F : CallFix p m c cc nL s args Ts own) (hK : KK D tys s) (hA : ∀ q : Nat, H0.size ≤ q → A q) (hP : va_P D vwCl ws H) (hD : va_D A ws) (hS : va_S A H0 H locs)
    (hM : CtI l y wd rm D tys (.ref b :: As) wc W' post) (cw : CallW R s args own C index y bytes maxL ret wd rm 0 0 n) (isC isR isO : List Nat) (wr : va_W) (hC : isC.map (fun i => ws[i]?) = wc.map some) (hR : isR.map (fun i => ws[i]?) = wr.map some) (hO : ∀ u, isO.map (fun i => (wr ++ W' u)[i]?) = (wsN u).map some) (hnd : (va_nd isC && va_nd isR && va_nd isO) = true) (hdis : ∀ i ∈ isR, i ∉ isC)
    (q0 : Nat) (hrc : wc[q0]? = some (b, .inr (ci, fs))) (hci : vwCl[ci]? = some (C, T, N)) (hn : As.length = n) (hsz : ls.size = nL) (hst : st = As.reverse ++ .ref b :: rest) (hW : (rest.map fun v => v.category).sum ≤ 8) (hf : cells ≤ R.cells ∧ slots ≤ R.slots) (hdg : decode cc pc = .ok (.invokevirtual index, 3))
    (kk : ∀ (r : Int32) (u : S) (H1 : Heap) (locs1 : List Loc), post r u → va_P D vwCl (wsN u) H1 → va_D A (wsN u) → va_S A H0 H1 locs1 → W p l e R s m args below meth c H1 locs1 cells slots Q (F0 m (pc + 3) ls (.int r :: rest))) : W p l e R s m args below meth c H locs cells slots Q (F0 m pc ls st) := by
  simp only [Bool.and_eq_true] at hnd
  have hPc := cl_sub hP isC hC
  have hDc := hD.sub isC hnd.1.1 hC
  have hFc := va_free hD hS hA isC hC
  refine va_calli (va_runV (As := As) (rest := rest) F (hM H.size) cw ⟨MPc_blind, va_recv hK.1 hPc hci hrc, fun U hU hW => ⟨rfl, by rw [hU], by rw [hU]; exact hPc, KK.warm hW hK, hDc.weaken (fun _ _ _ _ => trivial)⟩⟩ rfl hn hsz hst (lv_room hW) hdg hf) hS (fun q _ h => hFc q h) hFc (fun r u t H1 locs1 ht hvm hw hB hz1 hk1 hS1 => ?_)
  obtain ⟨hP1, hD1⟩ := hB
  rw [ht] at hP1
  obtain ⟨a1, a2⟩ := cl_end hP hD isC isR isO hC hR hnd.1.2 hdis (hO u) hnd.2 hk1 hFc hP1 hD1
  exact kk r u H1 locs1 hw a1 a2 hS1
/-- a virtual call without an answer -/
theorem cl_Vv {S : Type} {post : S → Prop} {W' wsN : S → va_W} (F : CallFix p m c cc nL s args Ts own) (hK : KK D tys s) (hA : ∀ q : Nat, H0.size ≤ q → A q) (hP : va_P D vwCl ws H) (hD : va_D A ws) (hS : va_S A H0 H locs)
    (hM : CtV l y wd rm D tys (.ref b :: As) wc W' post) (cw : CallW R s args own C index y bytes maxL ret wd rm 0 0 n) (isC isR isO : List Nat) (wr : va_W) (hC : isC.map (fun i => ws[i]?) = wc.map some) (hR : isR.map (fun i => ws[i]?) = wr.map some) (hO : ∀ u, isO.map (fun i => (wr ++ W' u)[i]?) = (wsN u).map some) (hnd : (va_nd isC && va_nd isR && va_nd isO) = true) (hdis : ∀ i ∈ isR, i ∉ isC)
    (q0 : Nat) (hrc : wc[q0]? = some (b, .inr (ci, fs))) (hci : vwCl[ci]? = some (C, T, N)) (hn : As.length = n) (hsz : ls.size = nL) (hst : st = As.reverse ++ .ref b :: rest) (hW : (rest.map fun v => v.category).sum ≤ 8) (hf : cells ≤ R.cells ∧ slots ≤ R.slots) (hdg : decode cc pc = .ok (.invokevirtual index, 3))
    (kk : ∀ (u : S) (H1 : Heap) (locs1 : List Loc), post u → va_P D vwCl (wsN u) H1 → va_D A (wsN u) → va_S A H0 H1 locs1 → W p l e R s m args below meth c H1 locs1 cells slots Q (F0 m (pc + 3) ls rest)) : W p l e R s m args below meth c H locs cells slots Q (F0 m pc ls st) := by
  simp only [Bool.and_eq_true] at hnd
  have hPc := cl_sub hP isC hC
  have hDc := hD.sub isC hnd.1.1 hC
  have hFc := va_free hD hS hA isC hC
  refine va_callv (va_runV (As := As) (rest := rest) F (hM H.size) cw ⟨MPc_blind, va_recv hK.1 hPc hci hrc, fun U hU hW => ⟨rfl, by rw [hU], by rw [hU]; exact hPc, KK.warm hW hK, hDc.weaken (fun _ _ _ _ => trivial)⟩⟩ rfl hn hsz hst (lv_room hW) hdg hf) hS (fun q _ h => hFc q h) hFc (fun u t H1 locs1 ht hvm hw hB hz1 hk1 hS1 => ?_)
  obtain ⟨hP1, hD1⟩ := hB
  rw [ht] at hP1
  obtain ⟨a1, a2⟩ := cl_end hP hD isC isR isO hC hR hnd.1.2 hdis (hO u) hnd.2 hk1 hFc hP1 hD1
  exact kk u H1 locs1 hw a1 a2 hS1
/-- a static call without an answer, over a part of the world -/
theorem cl_Sv {S : Type} {post : S → Prop} {W' wsN : S → va_W} (F : CallFix p m c cc nL s args Ts own) (hK : KK D tys s) (hA : ∀ q : Nat, H0.size ≤ q → A q) (hP : va_P D vwCl ws H) (hD : va_D A ws) (hS : va_S A H0 H locs)
    (hM : CtV l y wd rm D tys As wc W' post) (cw : CallB R s args own index y bytes maxL ret wd rm 0 0 n ∧ (Cond.static y).before args s = true) (isC isR isO : List Nat) (wr : va_W) (hC : isC.map (fun i => ws[i]?) = wc.map some) (hR : isR.map (fun i => ws[i]?) = wr.map some) (hO : ∀ u, isO.map (fun i => (wr ++ W' u)[i]?) = (wsN u).map some) (hnd : (va_nd isC && va_nd isR && va_nd isO) = true) (hdis : ∀ i ∈ isR, i ∉ isC)
    (hn : As.length = n) (hsz : ls.size = nL) (hst : st = As.reverse ++ rest) (hW : (rest.map fun v => v.category).sum ≤ 8) (hf : cells ≤ R.cells ∧ slots ≤ R.slots) (hdg : decode cc pc = .ok (.invokestatic index, 3))
    (kk : ∀ (u : S) (H1 : Heap) (locs1 : List Loc), post u → va_P D vwCl (wsN u) H1 → va_D A (wsN u) → va_S A H0 H1 locs1 → W p l e R s m args below meth c H1 locs1 cells slots Q (F0 m (pc + 3) ls rest)) : W p l e R s m args below meth c H locs cells slots Q (F0 m pc ls st) := by
  simp only [Bool.and_eq_true] at hnd
  have hPc := cl_sub hP isC hC
  have hDc := hD.sub isC hnd.1.1 hC
  have hFc := va_free hD hS hA isC hC
  refine va_callv (va_runS (As := As) (rest := rest) F (hM H.size) cw ⟨MPc_blind, fun U hU hW => ⟨rfl, by rw [hU], by rw [hU]; exact hPc, KK.warm hW hK, hDc.weaken (fun _ _ _ _ => trivial)⟩⟩ rfl hn hsz hst (lv_room hW) hdg hf) hS (fun q _ h => hFc q h) hFc (fun u t H1 locs1 ht hvm hw hB hz1 hk1 hS1 => ?_)
  obtain ⟨hP1, hD1⟩ := hB
  rw [ht] at hP1
  obtain ⟨a1, a2⟩ := cl_end hP hD isC isR isO hC hR hnd.1.2 hdis (hO u) hnd.2 hk1 hFc hP1 hD1
  exact kk u H1 locs1 hw a1 a2 hS1
/-- a static call that touches no cell of the world -/
theorem cl_S0 {post : Int32 → Unit → Prop} (F : CallFix p m c cc nL s args Ts own) (hK : KK D tys s) (hA : ∀ q : Nat, H0.size ≤ q → A q) (hP : va_P D vwCl ws H) (hD : va_D A ws) (hS : va_S A H0 H locs)
    (hM : CtI l y wd rm D tys As [] (fun _ => []) post) (cw : CallB R s args own index y bytes maxL ret wd rm 0 0 n ∧ (Cond.static y).before args s = true)
    (hn : As.length = n) (hsz : ls.size = nL) (hst : st = As.reverse ++ rest) (hW : (rest.map fun v => v.category).sum ≤ 8) (hf : cells ≤ R.cells ∧ slots ≤ R.slots) (hdg : decode cc pc = .ok (.invokestatic index, 3))
    (kk : ∀ (r : Int32) (H1 : Heap) (locs1 : List Loc), post r () → va_P D vwCl ws H1 → va_S A H0 H1 locs1 → W p l e R s m args below meth c H1 locs1 cells slots Q (F0 m (pc + 3) ls (.int r :: rest))) : W p l e R s m args below meth c H locs cells slots Q (F0 m pc ls st) := by
  have hFc : ∀ q, va_A [] H.size q → A q := va_free hD hS hA [] rfl
  refine va_calli (va_runS (As := As) (rest := rest) F (hM H.size) cw ⟨MPc_blind, fun U hU hW => ⟨rfl, by rw [hU], fun k q h => by simp at h, KK.warm hW hK, ⟨fun i j p q h => by simp at h, fun k q h => by simp at h⟩⟩⟩ rfl hn hsz hst (lv_room hW) hdg hf) hS (fun q _ h => hFc q h) hFc (fun r u t H1 locs1 ht hvm hw hB hz1 hk1 hS1 => ?_)
  refine kk r H1 locs1 hw (hP.kept (fun k q hq => hk1 q.1 ((hP k q hq).lt) (fun h => ?_))) hS1
  rcases h with ⟨k, e, h⟩ | h
  · simp at h
  · exact absurd ((hP k q hq).lt) (Nat.not_lt.mpr h)
/-- a static call of a nest mate's private method that touches no cell of the world -/
theorem cl_N0 {host : String} {post : Int32 → Unit → Prop} (F : CallFix p m c cc nL s args Ts own) (hK : KK D tys s) (hA : ∀ q : Nat, H0.size ≤ q → A q) (hP : va_P D vwCl ws H) (hD : va_D A ws) (hS : va_S A H0 H locs)
    (hM : CtI l y wd rm D tys As [] (fun _ => []) post) (cw : va_CN R s args own index y host bytes maxL ret wd rm 0 0 n ∧ (Cond.static y).before args s = true ∧ True)
    (hn : As.length = n) (hsz : ls.size = nL) (hst : st = As.reverse ++ rest) (hW : (rest.map fun v => v.category).sum ≤ 8) (hf : cells ≤ R.cells ∧ slots ≤ R.slots) (hdg : decode cc pc = .ok (.invokestatic index, 3))
    (kk : ∀ (r : Int32) (H1 : Heap) (locs1 : List Loc), post r () → va_P D vwCl ws H1 → va_S A H0 H1 locs1 → W p l e R s m args below meth c H1 locs1 cells slots Q (F0 m (pc + 3) ls (.int r :: rest))) : W p l e R s m args below meth c H locs cells slots Q (F0 m pc ls st) := by
  have hFc : ∀ q, va_A [] H.size q → A q := va_free hD hS hA [] rfl
  refine va_calli (va_runSN (As := As) (rest := rest) F (hM H.size) cw ⟨MPc_blind, fun U hU hW => ⟨rfl, by rw [hU], fun k q h => by simp at h, KK.warm hW hK, ⟨fun i j p q h => by simp at h, fun k q h => by simp at h⟩⟩⟩ rfl hn hsz hst (lv_room hW) hdg hf) hS (fun q _ h => hFc q h) hFc (fun r u t H1 locs1 ht hvm hw hB hz1 hk1 hS1 => ?_)
  refine kk r H1 locs1 hw (hP.kept (fun k q hq => hk1 q.1 ((hP k q hq).lt) (fun h => ?_))) hS1
  rcases h with ⟨k, e, h⟩ | h
  · simp at h
  · exact absurd ((hP k q hq).lt) (Nat.not_lt.mpr h)
/-- the load of a place of an int array -/
theorem n_iald (hexec : p.tables.exec = Jvm.exec) (hb : c.code = cc) (hK : KK D tys s) (hP : va_P D vwCl ws H) (q0 t0 : Nat) {a : Nat} {cA : ClassId} {n : Nat} {f : Nat → Int32} (ha : ws[q0]? = some (a, .inl (cA, n, .inl f))) (ht : tys[t0]? = some (cA, .int)) (hn : n < 2 ^ 31) {i : Nat} (hin : i < n) (hdg : decode cc pc = .ok (.iaload, 1))
    (kk : W p l e R s m args below meth c H locs cells slots Q (F0 m (pc + 1) ls (.int (f i) :: rest))) : W p l e R s m args below meth c H locs cells slots Q (F0 m pc ls (.int (nI i) :: .ref a :: rest)) := by
  refine va_iald hexec hb hK.1 hP q0 t0 ha ht (vp_in_nI hin hn) hdg ?_
  rw [nI_clamp (Nat.lt_trans hin hn)]
  exact kk
theorem n_iast (hexec : p.tables.exec = Jvm.exec) (hb : c.code = cc) (hK : KK D tys s) (hP : va_P D vwCl ws H) (hD : va_D A ws) (hS : va_S A H0 H locs) (q0 t0 : Nat) {a : Nat} {cA : ClassId} {n : Nat} {f : Nat → Int32} (ha : ws[q0]? = some (a, .inl (cA, n, .inl f))) (ht : tys[t0]? = some (cA, .int)) (hn : n < 2 ^ 31) {i : Nat} {x : Int32} (hin : i < n) (hdg : decode cc pc = .ok (.iastore, 1)) {wsN : va_W} (hN : ws.set q0 (a, .inl (cA, n, .inl (upd f i x))) = wsN)
    (kk : ∀ (H1 : Heap) (locs1 : List Loc), va_P D vwCl wsN H1 → va_D A wsN → va_S A H0 H1 locs1 → W p l e R s m args below meth c H1 locs1 cells slots Q (F0 m (pc + 1) ls rest)) : W p l e R s m args below meth c H locs cells slots Q (F0 m pc ls (.int x :: .int (nI i) :: .ref a :: rest)) := by
  refine va_iast hexec hb hK.1 hP hD hS q0 t0 ha ht (vp_in_nI hin hn) hdg (fun H1 locs1 h1 h2 h3 => ?_)
  rw [nI_clamp (Nat.lt_trans hin hn), hN] at h1 h2
  exact kk H1 locs1 h1 h2 h3
theorem n_as {x x' : Int32} (h : x = x') (k : W p l e R s m args below meth c H locs cells slots Q (F0 m pc ls (.int x' :: rest))) : W p l e R s m args below meth c H locs cells slots Q (F0 m pc ls (.int x :: rest)) := by rw [h]; exact k
end CALLS
/-- an array's cell by its places below its length -/
theorem vc_arr {D : va_G} {cl : List vw_C} {ws wsN : va_W} {H : Heap} {a n : Nat} {cA : ClassId} {f g : Nat → Int32} (k : Nat) (h : ws[k]? = some (a, .inl (cA, n, .inl f))) (hfg : ∀ j, j < n → f j = g j) (hN : ws.set k (a, .inl (cA, n, .inl g)) = wsN) (hP : va_P D cl ws H) : va_P D cl wsN H := by
  subst hN
  intro i q hq
  by_cases e : i = k
  · subst e
    rw [List.getElem?_set_self ((List.getElem?_eq_some_iff.mp h).1)] at hq
    cases hq
    have h1 := hP i _ h
    refine Eq.trans (show H[a]? = some (vp_cell cA (n, .inl f)) from h1) (congrArg some ?_)
    show arrV cA n (fun j => .int (f j)) = arrV cA n (fun j => .int (g j))
    unfold arrV
    have e : (fun j : Fin n => Value.int (f j.val)) = (fun j : Fin n => Value.int (g j.val)) := funext fun j => by rw [hfg j.val j.isLt]
    rw [e]
  · rw [List.getElem?_set_ne (Ne.symm e)] at hq
    exact hP i q hq
theorem vc_arrD {ws wsN : va_W} {A : Nat → Prop} {a n : Nat} {cA : ClassId} {f g : Nat → Int32} (k : Nat) (h : ws[k]? = some (a, .inl (cA, n, .inl f))) (hN : ws.set k (a, .inl (cA, n, .inl g)) = wsN) (hD : va_D A ws) : va_D A wsN := by
  subst hN
  exact hD.set h
