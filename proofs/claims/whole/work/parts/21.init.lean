/-! the constructors: cells come -/
theorem va_AOA.alike {ty : FieldType} {u U : State} (hvm : u.vm.Alike U.vm) (h : va_AOA ty u) : va_AOA ty U := by
  first
  | exact arrayOver_alikeB hvm h
  | (have e := Cond.arrayOver_setVmC (args := #[]) (s := u) (vm' := U.vm) hvm (.array ty); exact e.trans h)
def KN (U : State) : Prop := va_AOA .int U ∧ va_AO "SlotMaps$Slots" U
theorem KN.alike {u U : State} (hvm : u.vm.Alike U.vm) (h : KN u) : KN U := ⟨h.1.alike hvm, h.2.moved hvm⟩
abbrev MPn (D : va_G) (tys : List (ClassId × FieldType)) (av : List Value) (ws : va_W) (sz : Nat) : Array Value → State → Prop := va_Pc av (fun U => U.heap.size = sz ∧ va_P D vwCl ws U.heap ∧ (KK D tys U ∧ KN U) ∧ va_D (fun _ => True) ws)
/-- a constructor: mc cells of ms slots come; the heap holds W' u then -/
def CtN {S : Type} (l : Launch) (y : MethodName) (wd : List Cond) (rm : Room) (D : va_G) (tys : List (ClassId × FieldType)) (av : List Value) (ws : va_W) (W' : S → va_W) (post : S → Prop) (mc ms : Nat) : Prop :=
  ∀ sz : Nat, Met l y wd rm (MPn D tys av ws sz) (va_Qv post (fun u => MB D ws sz (W' u)) (va_A ws sz)) mc ms (va_A ws sz)
theorem MPn_blind {D : va_G} {tys : List (ClassId × FieldType)} {av : List Value} {ws : va_W} {sz : Nat} : FrameBlind (MPn D tys av ws sz) := fun a U g mk q => by
  obtain ⟨q0, q1, qP, ⟨qK, qN⟩, qD⟩ := q
  exact ⟨q0, q1, qP, ⟨⟨va_K.moved (u := U) (U := U.calling g mk a) (Vm.Alike.refl U.vm) qK.1, nwH.same (s := U) (U := U.calling g mk a) rfl qK.2⟩, KN.alike (u := U) (U := U.calling g mk a) (Vm.Alike.refl U.vm) qN⟩, qD⟩
theorem CtN.of {S : Type} {l : Launch} {y : MethodName} {wd wd' : List Cond} {rm : Room} {D : va_G} {tys : List (ClassId × FieldType)} {av : List Value} {ws : va_W} {W' : S → va_W} {post : S → Prop} {mc ms : Nat} {cc : ByteArray} {maxL : Nat}
    (hy : plainName y.cls = true) (hw : wd = Cond.code y cc maxL none :: wd') (hlen : (lg_sl av).length ≤ maxL) (hyn : y.name = "<init>")
    (body : ∀ (p : Program) (e : Env) (s : State) (m : MethodId) (args : Array Value) (below : List Frame) (meth : Method) (c : Code) (A : Nat → Prop) (Q : State → Prop) (ls : Array Slot),
      CallFix p m c cc maxL s args wd y.cls → KK D tys s → KN s → meth.name = "<init>" → va_P D vwCl ws s.heap → va_D A ws → (∀ q : Nat, s.heap.size ≤ q → A q) →
      (∀ (H : Heap) (locs : List Loc) (u : S) (ls : Array Slot) (pc : Nat), decode cc pc = .ok (.return_, 1) → post u → va_P D vwCl (W' u) H → va_D A (W' u) → va_S A s.heap H locs → W p l e rm s m args below meth c H locs mc ms Q (F0 m pc ls [])) →
      lv_has ls maxL (lv_args 0 av) → W p l e rm s m args below meth c s.heap [] 0 0 Q (F0 m 0 ls [])) : CtN l y wd rm D tys av ws W' post mc ms := by
  intro sz
  refine Met.ofW hy hw ?_
  intro p e s m args below meth c s₁ B hml hv
  obtain ⟨rfl, hsz, hP, ⟨hK, hN⟩, hD0⟩ := hv
  subst hsz
  have hl := lv_entry av (n := maxL) hlen
  rw [lg_entry_eq]
  refine body p e s m av.toArray below meth c (va_A ws s.heap.size) _ _ ⟨B.exec, B.bytes, hml, findClass_of_methodNamed B.named, atoms_spec (ws := wd) B.pre⟩ hK hN (((name_of_methodNamed B.named B.method).1).trans hyn) hP hD0.self (fun q h => Or.inr h) ?_ hl
  intro H locs u ls pc hdg hp hP' hD' hS
  exact W.vret B.exec B.bytes B.returns (fun t ht hW => ⟨⟨u, rfl, hp, by rw [ht]; exact hP', hD'⟩, hS.F ht⟩) hS.2.2 hdg B.notSynchronized
theorem ra_i {U : State} {cA cB : ClassId} (h1 : va_RA U cA .int) (h2 : va_RA U cB .int) : cA = cB := by
  unfold va_RA at h1 h2
  exact Option.some.inj (h1.symm.trans h2)
theorem ra_c {U : State} {cA cB : ClassId} (h1 : va_RA U cA .char) (h2 : va_RA U cB .char) : cA = cB := by
  unfold va_RA at h1 h2
  exact Option.some.inj (h1.symm.trans h2)
theorem ra_g {U : State} {cA cB : ClassId} (h1 : va_RA U cA (.array .int)) (h2 : va_RA U cB (.array .int)) : cA = cB := by
  unfold va_RA at h1 h2
  exact Option.some.inj (h1.symm.trans h2)
theorem ra_int {U : State} {cA : ClassId} (h1 : va_RA U cA .int) : U.vm.findClass ("[" ++ (FieldType.int).toString) = some cA := by
  unfold va_RA at h1
  exact h1
theorem ra_int2 {U : State} {cA : ClassId} (h1 : va_RA U cA .int) : U.vm.findClass (FieldType.array .int).toString = some cA := by
  unfold va_RA at h1
  exact h1
section CALLS4
variable {p : Program} {l : Launch} {e : Env} {R : Room} {s : State} {m : MethodId} {args : Array Value} {below : List Frame} {meth : Method} {c : Code} {H : Heap} {locs : List Loc} {cells slots mc ms : Nat} {Q : State → Prop}
variable {cc : ByteArray} {nL pc index n maxL : Nat} {ls : Array Slot} {rest st As : List Value} {D : va_G} {A : Nat → Prop} {b : Nat} {tys : List (ClassId × FieldType)} {ws wc : va_W} {H0 : Heap} {Ts wd : List Cond} {own : String} {y : MethodName} {rm : Room} {bytes : ByteArray}
/-- a constructor's call -/
theorem cl_I {S : Type} {post : S → Prop} {W' wsN : S → va_W} (F : CallFix p m c cc nL s args Ts own) (hK : KK D tys s) (hN : KN s) (hA : ∀ q : Nat, H0.size ≤ q → A q) (hP : va_P D vwCl ws H) (hD : va_D A ws) (hS : va_S A H0 H locs)
    (hM : CtN l y wd rm D tys (.ref b :: As) wc W' post mc ms) (cw : CallB R s args own index y bytes maxL none wd rm mc ms n ∧ y.name = "<init>" ∧ (Cond.instanceMethod y).before args s = true) (isC isR isO : List Nat) (wr : va_W) (hC : isC.map (fun i => ws[i]?) = wc.map some) (hR : isR.map (fun i => ws[i]?) = wr.map some) (hO : ∀ u, isO.map (fun i => (wr ++ W' u)[i]?) = (wsN u).map some) (hnd : (va_nd isC && va_nd isR && va_nd isO) = true) (hdis : ∀ i ∈ isR, i ∉ isC)
    (hn : As.length = n) (hsz : ls.size = nL) (hst : st = As.reverse ++ .ref b :: rest) (hW : (rest.map fun v => v.category).sum ≤ 8) (hf : cells + mc ≤ R.cells ∧ slots + ms ≤ R.slots) (hdg : decode cc pc = .ok (.invokespecial index, 3))
    (kk : ∀ (u : S) (H1 : Heap) (locs1 : List Loc), post u → va_P D vwCl (wsN u) H1 → va_D A (wsN u) → va_S A H0 H1 locs1 → W p l e R s m args below meth c H1 locs1 (cells + mc) (slots + ms) Q (F0 m (pc + 3) ls rest)) : W p l e R s m args below meth c H locs cells slots Q (F0 m pc ls st) := by
  simp only [Bool.and_eq_true] at hnd
  have hPc := cl_sub hP isC hC
  have hDc := hD.sub isC hnd.1.1 hC
  have hFc := va_free hD hS hA isC hC
  refine va_callv (va_runI (As := As) (rest := rest) F (hM H.size) cw ⟨MPn_blind, fun U hU hW => ⟨rfl, by rw [hU], by rw [hU]; exact hPc, ⟨KK.warm hW hK, hN.alike hW.alike⟩, hDc.weaken (fun _ _ _ _ => trivial)⟩⟩ rfl hn hsz hst (lv_room hW) hdg hf) hS (fun q _ h => hFc q h) hFc (fun u t H1 locs1 ht hvm hw hB hz1 hk1 hS1 => ?_)
  obtain ⟨hP1, hD1⟩ := hB
  rw [ht] at hP1
  obtain ⟨a1, a2⟩ := cl_end hP hD isC isR isO hC hR hnd.1.2 hdis (hO u) hnd.2 hk1 hFc hP1 hD1
  exact kk u H1 locs1 hw a1 a2 hS1
/-- a new array of ints; its class is the world's -/
theorem n_newI {cG cC cR cI : ClassId} (hexec : p.tables.exec = Jvm.exec) (hb : c.code = cc) (harr : (Cond.arrayClass .int).before args s = true) (hK : KK D (TY cI cG cC cR) s) (hP : va_P D vwCl ws H) (hD : va_D A ws) (hS : va_S A H0 H locs) (hA : ∀ q, H0.size ≤ q → A q) {N' : Nat} (hN : N' < 100000) (hcells : cells + 1 ≤ R.cells) (hslots : slots + N' ≤ R.slots) (hdg : decode cc pc = .ok (.newarray .int, 2))
    (kk : ∀ (q : Nat) (H1 : Heap), va_P D vwCl (ws ++ [(q, .inl (cI, N', .inl (fun _ => nI 0)))]) H1 → va_D A (ws ++ [(q, .inl (cI, N', .inl (fun _ => nI 0)))]) → va_S A H0 H1 locs → W p l e R s m args below meth c H1 locs (cells + 1) (slots + N') Q (F0 m (pc + 2) ls (.ref q :: rest))) : W p l e R s m args below meth c H locs cells slots Q (F0 m pc ls (.int (nI N') :: rest)) := by
  refine va_newa (atype := .int) (ty := .int) (a0 := (N', .inl (fun _ => nI 0))) hexec hb harr rfl hK.1 hP hD hS hA (fun _ => rfl) (nI_pos (by omega)) (nI_clamp (by omega)) (by show N' * 4 ≤ 536870912; omega) hcells hslots hdg (fun q cA H1 k1 h1 h2 h3 => ?_)
  obtain rfl : cA = cI := ra_i (k1.2 4 (cA, _) rfl).2 (hK.1.2 0 (cI, _) rfl).2
  exact kk q H1 h1 h2 h3
theorem n_newC {cG cC cR cI : ClassId} (hexec : p.tables.exec = Jvm.exec) (hb : c.code = cc) (harr : (Cond.arrayClass .char).before args s = true) (hK : KK D (TY cI cG cC cR) s) (hP : va_P D vwCl ws H) (hD : va_D A ws) (hS : va_S A H0 H locs) (hA : ∀ q, H0.size ≤ q → A q) {N' : Nat} (hN : N' < 100000) (hcells : cells + 1 ≤ R.cells) (hslots : slots + N' ≤ R.slots) (hdg : decode cc pc = .ok (.newarray .char, 2))
    (kk : ∀ (q : Nat) (H1 : Heap), va_P D vwCl (ws ++ [(q, .inl (cC, N', .inl (fun _ => nI 0)))]) H1 → va_D A (ws ++ [(q, .inl (cC, N', .inl (fun _ => nI 0)))]) → va_S A H0 H1 locs → W p l e R s m args below meth c H1 locs (cells + 1) (slots + N') Q (F0 m (pc + 2) ls (.ref q :: rest))) : W p l e R s m args below meth c H locs cells slots Q (F0 m pc ls (.int (nI N') :: rest)) := by
  refine va_newa (atype := .char) (ty := .char) (a0 := (N', .inl (fun _ => nI 0))) hexec hb harr rfl hK.1 hP hD hS hA (fun _ => rfl) (nI_pos (by omega)) (nI_clamp (by omega)) (by show N' * 2 ≤ 536870912; omega) hcells hslots hdg (fun q cA H1 k1 h1 h2 h3 => ?_)
  obtain rfl : cA = cC := ra_c (k1.2 4 (cA, _) rfl).2 (hK.1.2 2 (cC, _) rfl).2
  exact kk q H1 h1 h2 h3
/-- a new array of Slots -/
theorem n_newR {cG cC cR cI : ClassId} (hexec : p.tables.exec = Jvm.exec) (hb : c.code = cc) (hown : s.vm.findClass own = some m.cls) (hclink : (Cond.classLink own index "SlotMaps$Slots").before args s = true) (hN0 : KN s) (hK : KK D (TY cI cG cC cR) s) (hP : va_P D vwCl ws H) (hD : va_D A ws) (hS : va_S A H0 H locs) (hA : ∀ q, H0.size ≤ q → A q) {N' : Nat} (hN : N' < 100000) (hcells : cells + 1 ≤ R.cells) (hslots : slots + N' ≤ R.slots) (hdg : decode cc pc = .ok (.anewarray index, 3))
    (kk : ∀ (q : Nat) (H1 : Heap), va_P D vwCl (ws ++ [(q, .inl (cR, N', .inr (.inr (.inr (.inr (fun _ => none))))))]) H1 → va_D A (ws ++ [(q, .inl (cR, N', .inr (.inr (.inr (.inr (fun _ => none))))))]) → va_S A H0 H1 locs → W p l e R s m args below meth c H1 locs (cells + 1) (slots + N') Q (F0 m (pc + 3) ls (.ref q :: rest))) : W p l e R s m args below meth c H locs cells slots Q (F0 m pc ls (.int (nI N') :: rest)) := by
  refine va_newq hexec hb hown hclink hN0.2 hK.1 hP hD hS hA (nI_pos (by omega)) (nI_clamp (by omega)) (by omega) hcells hslots hdg (fun q cA H1 k1 h1 h2 h3 => ?_)
  obtain ⟨kA, comp, -, -, -, r1⟩ := (k1.2 4 _ rfl).2
  obtain ⟨kA2, comp2, -, -, -, r2⟩ := (hK.1.2 3 _ rfl).2
  obtain rfl : cA = cR := Option.some.inj (r1.symm.trans r2)
  exact kk q H1 h1 h2 h3
theorem mna_rows {r : Nat → Nat} {f : Nat → va_E} {v : va_E} : va_pl ([] ++ (List.range 4).map r) (vr_up f ((List.range 4).map r) v) = [(r 0, v), (r 1, v), (r 2, v), (r 3, v)] := by
  have h : ∀ a ∈ (List.range 4).map r, vr_up f ((List.range 4).map r) v a = v := fun a ha => vr_up_in ha
  unfold va_pl
  rw [List.nil_append, List.map_congr_left (g := fun a => (a, v)) (fun a ha => by rw [h a ha])]
  rfl
/-- a new array of 4 rows of 10 ints -/
theorem n_new2 {cG cC cR cI : ClassId} (hexec : p.tables.exec = Jvm.exec) (hb : c.code = cc) (hown : s.vm.findClass own = some m.cls) (hclink : (Cond.classLink own index "[[I").before args s = true) (harr : (Cond.arrayClass .int).before args s = true) (hN0 : KN s) (hK : KK D (TY cI cG cC cR) s) (hP : va_P D vwCl ws H) (hD : va_D A ws) (hS : va_S A H0 H locs) (hA : ∀ q, H0.size ≤ q → A q) (hcells : cells + 5 ≤ R.cells) (hslots : slots + 44 ≤ R.slots) (hdg : decode cc pc = .ok (.multianewarray index 2, 4))
    (kk : ∀ (q : Nat) (r : Nat → Nat) (H1 : Heap), va_P D vwCl ((ws ++ [(q, .inl (cG, 4, .inr (.inr (.inr (.inr (fun i => if i < 4 then some (r i) else none))))))]) ++ [(r 0, .inl (cI, 10, .inl (fun _ => nI 0))), (r 1, .inl (cI, 10, .inl (fun _ => nI 0))), (r 2, .inl (cI, 10, .inl (fun _ => nI 0))), (r 3, .inl (cI, 10, .inl (fun _ => nI 0)))]) H1 → va_D A ((ws ++ [(q, .inl (cG, 4, .inr (.inr (.inr (.inr (fun i => if i < 4 then some (r i) else none))))))]) ++ [(r 0, .inl (cI, 10, .inl (fun _ => nI 0))), (r 1, .inl (cI, 10, .inl (fun _ => nI 0))), (r 2, .inl (cI, 10, .inl (fun _ => nI 0))), (r 3, .inl (cI, 10, .inl (fun _ => nI 0)))]) → va_S A H0 H1 locs → W p l e R s m args below meth c H1 locs (cells + 5) (slots + 44) Q (F0 m (pc + 4) ls (.ref q :: rest))) : W p l e R s m args below meth c H locs cells slots Q (F0 m pc ls (.int (nI 10) :: .int (nI 4) :: rest)) := by
  refine va_mna (X := ws) (L := []) (f := fun _ => .inr (0, [])) (z := (10, .inl (fun _ => nI 0))) (ty := .int) (cy := cI) hexec hb hown hclink hN0.1 harr (ra_int2 (hK.1.2 0 (cI, _) rfl).2) hK.1 (by rw [show va_pl [] _ = [] from rfl, List.append_nil]; exact hP) (by rw [show va_pl [] _ = [] from rfl, List.append_nil]; exact hD) hS hA (nI_pos (by decide)) (nI_pos (by decide)) (nI_clamp (by decide)) (nI_clamp (by decide)) (by decide) (by decide) (by decide) (by decide) (by decide) (by omega) (by omega) (fun c => ?_) hdg (fun q r cA H1 _ _ k1 h1 h2 h3 => ?_)
  · show (_ : Cell) = arrV c 10 (fun _ => .int (nI 0))
    unfold Jvm.Free.Multi.innerC
    rw [arrV_new]
    rfl
  · rw [mna_rows] at h1 h2
    obtain rfl : cA = cG := ra_g (k1.2 4 (cA, _) rfl).2 (hK.1.2 1 (cG, _) rfl).2
    exact kk q r H1 h1 h2 h3
end CALLS4
