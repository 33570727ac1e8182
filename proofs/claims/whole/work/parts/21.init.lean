/-! the constructors: cells come -/
theorem va_AOA.alike {ty : FieldType} {u U : State} (hvm : u.vm.Alike U.vm) (h : va_AOA ty u) : va_AOA ty U := by
  first
  | exact arrayOver_alikeB hvm h
  | (have e := Cond.arrayOver_setVmC (args := #[]) (s := u) (vm' := U.vm) hvm (.array ty); exact e.trans h)
def KN (U : State) : Prop := va_AOA .int U ∧ va_AO "SlotMaps$Slots" U
theorem KN.alike {u U : State} (hvm : u.vm.Alike U.vm) (h : KN u) : KN U := ⟨h.1.alike hvm, h.2.moved hvm⟩
abbrev MPn (D : va_G) (tys : List (ClassId × FieldType)) (av : List Value) (ws : va_W) (sz : Nat) : Array Value → State → Prop := va_Pc av (fun U => U.heap.size = sz ∧ va_P D vwCl ws U.heap ∧ (KK D tys U ∧ KN U) ∧ va_D (fun _ => True) ws)
/-- a constructor: mc cells of ms slots come; the heap holds W' u then -/
def CtN {S : Type} (l : Launch) (y : MethodName) (wd : List Cond) (rm : Room) (D : va_G) (tys : List (ClassId × FieldType)) (av : List Value) (ws : va_W) (W' : S → va_W) (post : S → Prop) (mc ms : Nat) : Prop :=
  ∀ sz : Nat, Met l y wd rm (MPn D tys av ws sz) (va_Qv post (fun u => MB D ws sz (W' u)) (va_A ws sz)) mc ms (va_A ws sz)
theorem MPn_blind {D : va_G} {tys : List (ClassId × FieldType)} {av : List Value} {ws : va_W} {sz : Nat} : FrameBlind (MPn D tys av ws sz) := fun a U g mk q => by
  obtain ⟨q0, q1, qP, ⟨qK, qN⟩, qD⟩ := q
  exact ⟨q0, q1, qP, ⟨⟨va_K.moved (u := U) (U := U.calling g mk a) (Vm.Alike.refl U.vm) qK.1, nwH.same (s := U) (U := U.calling g mk a) rfl qK.2⟩, KN.alike (u := U) (U := U.calling g mk a) (Vm.Alike.refl U.vm) qN⟩, qD⟩
theorem CtN.of {S : Type} {l : Launch} {y : MethodName} {wd wd' : List Cond} {rm : Room} {D : va_G} {tys : List (ClassId × FieldType)} {av : List Value} {ws : va_W} {W' : S → va_W} {post : S → Prop} {mc ms : Nat} {cc : ByteArray} {maxL : Nat}
    (hy : plainName y.cls = true) (hw : wd = Cond.code y cc maxL none :: wd') (hlen : (lg_sl av).length ≤ maxL) (hyn : y.name = "<init>")
    (body : ∀ (p : Program) (e : Env) (s : State) (m : MethodId) (args : Array Value) (below : List Frame) (meth : Method) (c : Code) (A : Nat → Prop) (Q : State → Prop) (ls : Array Slot),
      CallFix p m c cc maxL s args wd y.cls → KK D tys s → KN s → meth.name = "<init>" → va_P D vwCl ws s.heap → va_D A ws → (∀ q : Nat, s.heap.size ≤ q → A q) →
      (∀ (H : Heap) (locs : List Loc) (u : S) (ls : Array Slot) (pc : Nat), decode cc pc = .ok (.return_, 1) → post u → va_P D vwCl (W' u) H → va_D A (W' u) → va_S A s.heap H locs → W p l e rm s m args below meth c H locs mc ms Q (F0 m pc ls [])) →
      lv_has ls maxL (lv_args 0 av) → W p l e rm s m args below meth c s.heap [] 0 0 Q (F0 m 0 ls [])) : CtN l y wd rm D tys av ws W' post mc ms := by
  intro sz
  refine Met.ofW hy hw ?_
  intro p e s m args below meth c s₁ B hml hv
  obtain ⟨rfl, hsz, hP, ⟨hK, hN⟩, hD0⟩ := hv
  subst hsz
  have hl := lv_entry av (n := maxL) hlen
  rw [lg_entry_eq]
  refine body p e s m av.toArray below meth c (va_A ws s.heap.size) _ _ ⟨B.exec, B.bytes, hml, findClass_of_methodNamed B.named, atoms_spec (ws := wd) B.pre⟩ hK hN (((name_of_methodNamed B.named B.method).1).trans hyn) hP hD0.self (fun q h => Or.inr h) ?_ hl
  intro H locs u ls pc hdg hp hP' hD' hS
  exact W.vret B.exec B.bytes B.returns (fun t ht hW => ⟨⟨u, rfl, hp, by rw [ht]; exact hP', hD'⟩, hS.F ht⟩) hS.2.2 hdg B.notSynchronized
theorem ra_i {U : State} {cA cB : ClassId} (h1 : va_RA U cA .int) (h2 : va_RA U cB .int) : cA = cB := by
  unfold va_RA at h1 h2
  exact Option.some.inj (h1.symm.trans h2)
theorem ra_c {U : State} {cA cB : ClassId} (h1 : va_RA U cA .char) (h2 : va_RA U cB .char) : cA = cB := by
  unfold va_RA at h1 h2
  exact Option.some.inj (h1.symm.trans h2)
theorem ra_g {U : State} {cA cB : ClassId} (h1 : va_RA U cA (.array .int)) (h2 : va_RA U cB (.array .int)) : cA = cB := by
  unfold va_RA at h1 h2
  exact Option.some.inj (h1.symm.trans h2)
theorem ra_int {U : State} {cA : ClassId} (h1 : va_RA U cA .int) : U.vm.findClass ("[" ++ (FieldType.int).toString) = some cA := by
  unfold va_RA at h1
  exact h1
theorem ra_int2 {U : State} {cA : ClassId} (h1 : va_RA U cA .int) : U.vm.findClass (FieldType.array .int).toString = some cA := by
  unfold va_RA at h1
  exact h1
section CALLS4
variable {p : Program} {l : Launch} {e : Env} {R : Room} {s : State} {m : MethodId} {args : Array Value} {below : List Frame} {meth : Method} {c : Code} {H : Heap} {locs : List Loc} {cells slots mc ms : Nat} {Q : State → Prop}
variable {cc : ByteArray} {nL pc index n maxL : Nat} {ls : Array Slot} {rest st As : List Value} {D : va_G} {A : Nat → Prop} {b : Nat} {tys : List (ClassId × FieldType)} {ws wc : va_W} {H0 : Heap} {Ts wd : List Cond} {own : String} {y : MethodName} {rm : Room} {bytes : ByteArray}
/-- a constructor's call -/
theorem cl_I {S : Type} {post : S → Prop} {W' wsN : S → va_W} (F : CallFix p m c cc nL s args Ts own) (hK : KK D tys s) (hN : KN s) (hA : ∀ q : Nat, H0.size ≤ q → A q) (hP : va_P D vwCl ws H) (hD : va_D A ws) (hS : va_S A H0 H locs)
    (hM : CtN l y wd rm D tys (.ref b :: As) wc W' post mc ms) (cw : CallB R s args own index y bytes maxL none wd rm mc ms n ∧ y.name = "<init>" ∧ (Cond.instanceMethod y).before args s = true) (isC isR isO : List Nat) (wr : va_W) (hC : isC.map (fun i => ws[i]?) = wc.map some) (hR : isR.map (fun i => ws[i]?) = wr.map some) (hO : ∀ u, isO.map (fun i => (wr ++ W' u)[i]?) = (wsN u).map some) (hnd : (va_nd isC && va_nd isR && va_nd isO) = true) (hdis : ∀ i ∈ isR, i ∉ isC)
    (hn : As.length = n) (hsz : ls.size = nL) (hst : st = As.reverse ++ .ref b :: rest) (hW : (rest.map fun v => v.category).sum ≤ 8) (hf : cells + mc ≤ R.cells ∧ slots + ms ≤ R.slots) (hdg : decode cc pc = .ok (.invokespecial index, 3))
    (kk : ∀ (u : S) (H1 : Heap) (locs1 : List Loc), post u → va_P D vwCl (wsN u) H1 → va_D A (wsN u) → va_S A H0 H1 locs1 → W p l e R s m args below meth c H1 locs1 (cells + mc) (slots + ms) Q (F0 m (pc + 3) ls rest)) : W p l e R s m args below meth c H locs cells slots Q (F0 m pc ls st) := by
  simp only [Bool.and_eq_true] at hnd
  have hPc := cl_sub hP isC hC
  have hDc := hD.sub isC hnd.1.1 hC
  have hFc := va_free hD hS hA isC hC
  refine va_callv (va_runI (As := As) (rest := rest) F (hM H.size) cw ⟨MPn_blind, fun U hU hW => ⟨rfl, by rw [hU], by rw [hU]; exact hPc, ⟨KK.warm hW hK, hN.alike hW.alike⟩, hDc.weaken (fun _ _ _ _ => trivial)⟩⟩ rfl hn hsz hst (lv_room hW) hdg hf) hS (fun q _ h => hFc q h) hFc (fun u t H1 locs1 ht hvm hw hB hz1 hk1 hS1 => ?_)
  obtain ⟨hP1, hD1⟩ := hB
  rw [ht] at hP1
  obtain ⟨a1, a2⟩ := cl_end hP hD isC isR isO hC hR hnd.1.2 hdis (hO u) hnd.2 hk1 hFc hP1 hD1
  exact kk u H1 locs1 hw a1 a2 hS1
/-- a new array of ints; its class is the world's -/
theorem n_newI {cG cC cR cI : ClassId} (hexec : p.tables.exec = Jvm.exec) (hb : c.code = cc) (harr : (Cond.arrayClass .int).before args s = true) (hK : KK D (TY cI cG cC cR) s) (hP : va_P D vwCl ws H) (hD : va_D A ws) (hS : va_S A H0 H locs) (hA : ∀ q, H0.size ≤ q → A q) {N' : Nat} (hN : N' < 100000) (hcells : cells + 1 ≤ R.cells) (hslots : slots + N' ≤ R.slots) (hdg : decode cc pc = .ok (.newarray .int, 2))
    (kk : ∀ (q : Nat) (H1 : Heap), va_P D vwCl (ws ++ [(q, .inl (cI, N', .inl (fun _ => nI 0)))]) H1 → va_D A (ws ++ [(q, .inl (cI, N', .inl (fun _ => nI 0)))]) → va_S A H0 H1 locs → W p l e R s m args below meth c H1 locs (cells + 1) (slots + N') Q (F0 m (pc + 2) ls (.ref q :: rest))) : W p l e R s m args below meth c H locs cells slots Q (F0 m pc ls (.int (nI N') :: rest)) := by
  refine va_newa (atype := .int) (ty := .int) (a0 := (N', .inl (fun _ => nI 0))) hexec hb harr rfl hK.1 hP hD hS hA (fun _ => rfl) (nI_pos (by omega)) (nI_clamp (by omega)) (by show N' * 4 ≤ 536870912; omega) hcells hslots hdg (fun q cA H1 k1 h1 h2 h3 => ?_)
  obtain rfl : cA = cI := ra_i (k1.2 4 (cA, _) rfl).2 (hK.1.2 0 (cI, _) rfl).2
  exact kk q H1 h1 h2 h3
theorem n_newC {cG cC cR cI : ClassId} (hexec : p.tables.exec = Jvm.exec) (hb : c.code = cc) (harr : (Cond.arrayClass .char).before args s = true) (hK : KK D (TY cI cG cC cR) s) (hP : va_P D vwCl ws H) (hD : va_D A ws) (hS : va_S A H0 H locs) (hA : ∀ q, H0.size ≤ q → A q) {N' : Nat} (hN : N' < 100000) (hcells : cells + 1 ≤ R.cells) (hslots : slots + N' ≤ R.slots) (hdg : decode cc pc = .ok (.newarray .char, 2))
    (kk : ∀ (q : Nat) (H1 : Heap), va_P D vwCl (ws ++ [(q, .inl (cC, N', .inl (fun _ => nI 0)))]) H1 → va_D A (ws ++ [(q, .inl (cC, N', .inl (fun _ => nI 0)))]) → va_S A H0 H1 locs → W p l e R s m args below meth c H1 locs (cells + 1) (slots + N') Q (F0 m (pc + 2) ls (.ref q :: rest))) : W p l e R s m args below meth c H locs cells slots Q (F0 m pc ls (.int (nI N') :: rest)) := by
  refine va_newa (atype := .char) (ty := .char) (a0 := (N', .inl (fun _ => nI 0))) hexec hb harr rfl hK.1 hP hD hS hA (fun _ => rfl) (nI_pos (by omega)) (nI_clamp (by omega)) (by show N' * 2 ≤ 536870912; omega) hcells hslots hdg (fun q cA H1 k1 h1 h2 h3 => ?_)
  obtain rfl : cA = cC := ra_c (k1.2 4 (cA, _) rfl).2 (hK.1.2 2 (cC, _) rfl).2
  exact kk q H1 h1 h2 h3
/-- a new array of Slots -/
theorem n_newR {cG cC cR cI : ClassId} (hexec : p.tables.exec = Jvm.exec) (hb : c.code = cc) (hown : s.vm.findClass own = some m.cls) (hclink : (Cond.classLink own index "SlotMaps$Slots").before args s = true) (hN0 : KN s) (hK : KK D (TY cI cG cC cR) s) (hP : va_P D vwCl ws H) (hD : va_D A ws) (hS : va_S A H0 H locs) (hA : ∀ q, H0.size ≤ q → A q) {N' : Nat} (hN : N' < 100000) (hcells : cells + 1 ≤ R.cells) (hslots : slots + N' ≤ R.slots) (hdg : decode cc pc = .ok (.anewarray index, 3))
    (kk : ∀ (q : Nat) (H1 : Heap), va_P D vwCl (ws ++ [(q, .inl (cR, N', .inr (.inr (.inr (.inr (fun _ => none))))))]) H1 → va_D A (ws ++ [(q, .inl (cR, N', .inr (.inr (.inr (.inr (fun _ => none))))))]) → va_S A H0 H1 locs → W p l e R s m args below meth c H1 locs (cells + 1) (slots + N') Q (F0 m (pc + 3) ls (.ref q :: rest))) : W p l e R s m args below meth c H locs cells slots Q (F0 m pc ls (.int (nI N') :: rest)) := by
  refine va_newq hexec hb hown hclink hN0.2 hK.1 hP hD hS hA (nI_pos (by omega)) (nI_clamp (by omega)) (by omega) hcells hslots hdg (fun q cA H1 k1 h1 h2 h3 => ?_)
  obtain ⟨kA, comp, -, -, -, r1⟩ := (k1.2 4 _ rfl).2
  obtain ⟨kA2, comp2, -, -, -, r2⟩ := (hK.1.2 3 _ rfl).2
  obtain rfl : cA = cR := Option.some.inj (r1.symm.trans r2)
  exact kk q H1 h1 h2 h3
theorem mna_rows {r : Nat → Nat} {f : Nat → va_E} {v : va_E} : va_pl ([] ++ (List.range 4).map r) (vr_up f ((List.range 4).map r) v) = [(r 0, v), (r 1, v), (r 2, v), (r 3, v)] := by
  have h : ∀ a ∈ (List.range 4).map r, vr_up f ((List.range 4).map r) v a = v := fun a ha => vr_up_in ha
  unfold va_pl
  rw [List.nil_append, List.map_congr_left (g := fun a => (a, v)) (fun a ha => by rw [h a ha])]
  rfl
/-- a new array of 4 rows of 10 ints -/
theorem n_new2 {cG cC cR cI : ClassId} (hexec : p.tables.exec = Jvm.exec) (hb : c.code = cc) (hown : s.vm.findClass own = some m.cls) (hclink : (Cond.classLink own index "[[I").before args s = true) (harr : (Cond.arrayClass .int).before args s = true) (hN0 : KN s) (hK : KK D (TY cI cG cC cR) s) (hP : va_P D vwCl ws H) (hD : va_D A ws) (hS : va_S A H0 H locs) (hA : ∀ q, H0.size ≤ q → A q) (hcells : cells + 5 ≤ R.cells) (hslots : slots + 44 ≤ R.slots) (hdg : decode cc pc = .ok (.multianewarray index 2, 4))
    (kk : ∀ (q : Nat) (r : Nat → Nat) (H1 : Heap), va_P D vwCl ((ws ++ [(q, .inl (cG, 4, .inr (.inr (.inr (.inr (fun i => if i < 4 then some (r i) else none))))))]) ++ [(r 0, .inl (cI, 10, .inl (fun _ => nI 0))), (r 1, .inl (cI, 10, .inl (fun _ => nI 0))), (r 2, .inl (cI, 10, .inl (fun _ => nI 0))), (r 3, .inl (cI, 10, .inl (fun _ => nI 0)))]) H1 → va_D A ((ws ++ [(q, .inl (cG, 4, .inr (.inr (.inr (.inr (fun i => if i < 4 then some (r i) else none))))))]) ++ [(r 0, .inl (cI, 10, .inl (fun _ => nI 0))), (r 1, .inl (cI, 10, .inl (fun _ => nI 0))), (r 2, .inl (cI, 10, .inl (fun _ => nI 0))), (r 3, .inl (cI, 10, .inl (fun _ => nI 0)))]) → va_S A H0 H1 locs → W p l e R s m args below meth c H1 locs (cells + 5) (slots + 44) Q (F0 m (pc + 4) ls (.ref q :: rest))) : W p l e R s m args below meth c H locs cells slots Q (F0 m pc ls (.int (nI 10) :: .int (nI 4) :: rest)) := by
  refine va_mna (X := ws) (L := []) (f := fun _ => .inr (0, [])) (z := (10, .inl (fun _ => nI 0))) (ty := .int) (cy := cI) hexec hb hown hclink hN0.1 harr (ra_int2 (hK.1.2 0 (cI, _) rfl).2) hK.1 (by rw [show va_pl [] _ = [] from rfl, List.append_nil]; exact hP) (by rw [show va_pl [] _ = [] from rfl, List.append_nil]; exact hD) hS hA (nI_pos (by decide)) (nI_pos (by decide)) (nI_clamp (by decide)) (nI_clamp (by decide)) (by decide) (by decide) (by decide) (by decide) (by decide) (by omega) (by omega) (fun c => ?_) hdg (fun q r cA H1 _ _ k1 h1 h2 h3 => ?_)
  · show (_ : Cell) = arrV c 10 (fun _ => .int (nI 0))
    unfold Jvm.Free.Multi.innerC
    rw [arrV_new]
    rfl
  · rw [mna_rows] at h1 h2
    obtain rfl : cA = cG := ra_g (k1.2 4 (cA, _) rfl).2 (hK.1.2 1 (cG, _) rfl).2
    exact kk q r H1 h1 h2 h3
end CALLS4
def ad8 (b q x y : Nat) (r : Nat → Nat) : Nat → Nat
  | 0 => b
  | 1 => q
  | 2 => x
  | 3 => y
  | n + 4 => r n
theorem gr_ad8 {b q x y : Nat} {r : Nat → Nat} : gr (ad8 b q x y r) = fun i => if i < 4 then some (r i) else none := by
  funext i
  unfold gr
  rw [Nat.add_comm 4 i]
  rfl
theorem b_n1 {i : Nat} (h : i < 32) : bt (-1) i = true := by
  unfold bt
  rw [show (-1 : Int32).toBitVec = BitVec.allOnes 32 by decide, BitVec.getLsbD_allOnes]
  exact decide_eq_true h
theorem rep_init {V : Nat → Nat → Int32} (h0 : ∀ j, j < 10 → V 0 j = -1) (hn : ∀ k, k ≠ 0 → V k = fun _ => nI 0) : RepS (fun _ => nI 0) V := by
  refine ⟨fun k w i hk hw hi => ?_, ⟨fun w hw => ?_, fun i hi => ?_⟩, ?_, fun b hb => ⟨?_, ⟨0, by decide, ?_⟩, fun q => ?_⟩⟩
  · by_cases c : k = 0
    · rw [c, h0 w hw, b_n1 hi]; rfl
    · rw [hn k c]
      show bt (nI 0) i = _
      rw [show bt (nI 0) i = false from b_0 i]
      exact (decide_eq_false (fun q => c ((nI_eq (by omega) (by omega)).mp q).symm)).symm
  · rw [hn 6 (by decide)]
    exact b_0 w
  · rw [hn 6 (by decide)]
    exact b_0 i
  · rw [hn 6 (by decide)]
  · rw [hn 5 (by decide)]
  · rw [hn 4 (by decide)]
  · rw [hn 4 (by decide)]
theorem rep_row {V U : Nat → Nat → Int32} {w : Nat} (h0 : ∀ j, j < w → V 0 j = -1) (hU : U = vset V 0 (upd (V 0) w (-1))) : ∀ j, j < w + 1 → U 0 j = -1 := by
  intro j hj
  rw [hU, vset_s]
  by_cases q : j = w
  · rw [q, upd_s]
  · rw [upd_n _ _ q]
    exact h0 j (by omega)
set_option maxHeartbeats 4000000 in
set_option maxRecDepth 100000 in
theorem c_X1_init {l : Launch} {D : va_G} {cI cG cC cR : ClassId} {ob : Nat} : CtN l yX1_init wsX1_init { frames := 1, cells := 0, slots := 0, locals := 12 } D (TY cI cG cC cR) [.ref ob] ([(ob, .inr (1, [.int (nI 0), .int (nI 0), .int (nI 0), .int (nI 0), .int (nI 0), .int (nI 0)]))]) (fun (_ : Unit) => [PO ob 0 0 0 0 0 0]) (fun (_ : Unit) => True) 0 0 := by
  refine CtN.of (cc := cX1_init) (maxL := 1) (by decide) rfl (Nat.le_of_ble_eq_true rfl) rfl ?_
  intro P0 e0 s0 m0 a0 b0 t0 c0 A0 Q0 ls F hK hN hin hP hD hA RETN hl
  obtain ⟨hx, hb, hml, hown, hts⟩ := id F
  have hS : va_S A0 s0.heap s0.heap [] := va_S.rf
  have hl : lv_has ls 1 [(0, .ref ob)] := hl
  have lk11 := hts (.fieldLink RX1 11 "SlotMaps$Program" "letter" "C") (by decide +kernel)
  have hI1 : ∀ w ∈ u_ws RX1 TX1 6, w ∈ wsX1_init := by decide +kernel
  refine lv_aload_n hx hb dX1_init_0 rfl (lv_at hl 0 rfl) ?_
  refine W.objInit hx hb hown (hts (.methodLink RX1 3 objectInit) (by decide +kernel)) (hts (.instanceMethod objectInit) (by decide +kernel)) (hts _ (List.mem_of_getElem? (i := 3) rfl)) rfl (by rw [hml]; exact hl.1) rfl dX1_init_1 (Nat.le_of_ble_eq_true rfl) (Nat.le_of_ble_eq_true rfl) ?_
  refine W.eq (g2 := F0 m0 4 ls []) rfl ?_
  refine lv_aload_n hx hb dX1_init_4 rfl (lv_at hl 0 rfl) ?_
  refine lv_iconst (v := (nI 0)) hx hb dX1_init_5 (by decide) ?_
  refine va_put (D := D) (ci := 1) (v := .int (nI 0)) (ty := .char) (C := RX1) (T := TX1) (N := 6) hx hb hts hI1 tyX1 tyX1_ok nmX1 hown hK.1 hP hD hS 0 rfl rfl 0 (by decide) lk11 (fun _ h9 => h9) rfl (by decide +kernel) rfl rfl (Nat.le_of_ble_eq_true rfl) dX1_init_6 (fun H locs hP hD hS => ?_)
  have hP : va_P D vwCl ([(ob, .inr (1, [.int (nI 0), .int (nI 0), .int (nI 0), .int (nI 0), .int (nI 0), .int (nI 0)]))]) H := hP
  have hD : va_D A0 ([(ob, .inr (1, [.int (nI 0), .int (nI 0), .int (nI 0), .int (nI 0), .int (nI 0), .int (nI 0)]))]) := hD
  exact RETN _ _ () _ _ dX1_init_9 (trivial) hP hD hS
set_option maxHeartbeats 4000000 in
set_option maxRecDepth 100000 in
theorem c_X4_init {l : Launch} {D : va_G} {cI cG cC cR : ClassId} {ob : Nat} : CtN l yX4_init wsX4_init { frames := 1, cells := 5, slots := 5416, locals := 12 } D (TY cI cG cC cR) [.ref ob] ([(ob, .inr (4, [.null, .null, .int (nI 0), .null, .null, .null, .int (nI 0), .int (nI 0)]))]) (fun (u : Nat → Nat) => MW u cI (fun _ => nI 0) (fun _ => nI 0) (nI 0) (fun _ => nI 0) (fun _ => nI 0) (fun _ => nI 0) (nI 0) (nI 0)) (fun (u : Nat → Nat) => u 0 = ob) 5 5416 := by
  refine CtN.of (cc := cX4_init) (maxL := 1) (by decide) rfl (Nat.le_of_ble_eq_true rfl) rfl ?_
  intro P0 e0 s0 m0 a0 b0 t0 c0 A0 Q0 ls F hK hN hin hP hD hA RETN hl
  obtain ⟨hx, hb, hml, hown, hts⟩ := id F
  have hS : va_S A0 s0.heap s0.heap [] := va_S.rf
  have hl : lv_has ls 1 [(0, .ref ob)] := hl
  have lk13 := hts (.fieldLink RX4 13 "SlotMapsModel" "past" "[I") (by decide +kernel)
  have lk16 := hts (.fieldLink RX4 16 "SlotMapsModel" "before" "[I") (by decide +kernel)
  have lk19 := hts (.fieldLink RX4 19 "SlotMapsModel" "trial" "[I") (by decide +kernel)
  have lk22 := hts (.fieldLink RX4 22 "SlotMapsModel" "text" "[I") (by decide +kernel)
  have lk7 := hts (.fieldLink RX4 7 "SlotMapsModel" "now" "[I") (by decide +kernel)
  have hI4 : ∀ w ∈ u_ws RX4 TX4 8, w ∈ wsX4_init := by decide +kernel
  refine lv_aload_n hx hb dX4_init_0 rfl (lv_at hl 0 rfl) ?_
  refine W.objInit hx hb hown (hts (.methodLink RX4 1 objectInit) (by decide +kernel)) (hts (.instanceMethod objectInit) (by decide +kernel)) (hts _ (List.mem_of_getElem? (i := 3) rfl)) rfl (by rw [hml]; exact hl.1) rfl dX4_init_1 (Nat.le_of_ble_eq_true rfl) (Nat.le_of_ble_eq_true rfl) ?_
  refine W.eq (g2 := F0 m0 4 ls []) rfl ?_
  refine lv_aload_n hx hb dX4_init_4 rfl (lv_at hl 0 rfl) ?_
  refine lv_sipush (v := (nI 667)) hx hb dX4_init_5 (by decide) ?_
  refine n_newI hx hb (hts (.arrayClass .int) (by decide +kernel)) hK hP hD hS hA (by decide) (Nat.le_of_ble_eq_true rfl) (Nat.le_of_ble_eq_true rfl) dX4_init_8 (fun q8 H hP hD hS => ?_)
  have hP : va_P D vwCl ([(ob, .inr (4, [.null, .null, .int (nI 0), .null, .null, .null, .int (nI 0), .int (nI 0)])), (q8, .inl (cI, 667, .inl (fun _ => nI 0)))]) H := hP
  have hD : va_D A0 ([(ob, .inr (4, [.null, .null, .int (nI 0), .null, .null, .null, .int (nI 0), .int (nI 0)])), (q8, .inl (cI, 667, .inl (fun _ => nI 0)))]) := hD
  refine va_putF (D := D) (ci := 4) (v := .ref q8) (ty := (.array .int)) (C := RX4) (T := TX4) (N := 8) hx hb hts hI4 tyX4 tyX4_ok nmX4 hown hK.1 hP hD hS 0 rfl rfl 0 (by decide) lk7 (fun _ h9 => h9) rfl hin rfl (by decide +kernel) rfl rfl (Nat.le_of_ble_eq_true rfl) dX4_init_10 (fun H locs hP hD hS => ?_)
  have hP : va_P D vwCl ([(ob, .inr (4, [.ref q8, .null, .int (nI 0), .null, .null, .null, .int (nI 0), .int (nI 0)])), (q8, .inl (cI, 667, .inl (fun _ => nI 0)))]) H := hP
  have hD : va_D A0 ([(ob, .inr (4, [.ref q8, .null, .int (nI 0), .null, .null, .null, .int (nI 0), .int (nI 0)])), (q8, .inl (cI, 667, .inl (fun _ => nI 0)))]) := hD
  refine lv_aload_n hx hb dX4_init_13 rfl (lv_at hl 0 rfl) ?_
  refine lv_sipush (v := (nI 3335)) hx hb dX4_init_14 (by decide) ?_
  refine n_newI hx hb (hts (.arrayClass .int) (by decide +kernel)) hK hP hD hS hA (by decide) (Nat.le_of_ble_eq_true rfl) (Nat.le_of_ble_eq_true rfl) dX4_init_17 (fun q17 H hP hD hS => ?_)
  have hP : va_P D vwCl ([(ob, .inr (4, [.ref q8, .null, .int (nI 0), .null, .null, .null, .int (nI 0), .int (nI 0)])), (q8, .inl (cI, 667, .inl (fun _ => nI 0))), (q17, .inl (cI, 3335, .inl (fun _ => nI 0)))]) H := hP
  have hD : va_D A0 ([(ob, .inr (4, [.ref q8, .null, .int (nI 0), .null, .null, .null, .int (nI 0), .int (nI 0)])), (q8, .inl (cI, 667, .inl (fun _ => nI 0))), (q17, .inl (cI, 3335, .inl (fun _ => nI 0)))]) := hD
  refine va_putF (D := D) (ci := 4) (v := .ref q17) (ty := (.array .int)) (C := RX4) (T := TX4) (N := 8) hx hb hts hI4 tyX4 tyX4_ok nmX4 hown hK.1 hP hD hS 0 rfl rfl 1 (by decide) lk13 (fun _ h9 => h9) rfl hin rfl (by decide +kernel) rfl rfl (Nat.le_of_ble_eq_true rfl) dX4_init_19 (fun H locs hP hD hS => ?_)
  have hP : va_P D vwCl ([(ob, .inr (4, [.ref q8, .ref q17, .int (nI 0), .null, .null, .null, .int (nI 0), .int (nI 0)])), (q8, .inl (cI, 667, .inl (fun _ => nI 0))), (q17, .inl (cI, 3335, .inl (fun _ => nI 0)))]) H := hP
  have hD : va_D A0 ([(ob, .inr (4, [.ref q8, .ref q17, .int (nI 0), .null, .null, .null, .int (nI 0), .int (nI 0)])), (q8, .inl (cI, 667, .inl (fun _ => nI 0))), (q17, .inl (cI, 3335, .inl (fun _ => nI 0)))]) := hD
  refine lv_aload_n hx hb dX4_init_22 rfl (lv_at hl 0 rfl) ?_
  refine lv_sipush (v := (nI 667)) hx hb dX4_init_23 (by decide) ?_
  refine n_newI hx hb (hts (.arrayClass .int) (by decide +kernel)) hK hP hD hS hA (by decide) (Nat.le_of_ble_eq_true rfl) (Nat.le_of_ble_eq_true rfl) dX4_init_26 (fun q26 H hP hD hS => ?_)
  have hP : va_P D vwCl ([(ob, .inr (4, [.ref q8, .ref q17, .int (nI 0), .null, .null, .null, .int (nI 0), .int (nI 0)])), (q8, .inl (cI, 667, .inl (fun _ => nI 0))), (q17, .inl (cI, 3335, .inl (fun _ => nI 0))), (q26, .inl (cI, 667, .inl (fun _ => nI 0)))]) H := hP
  have hD : va_D A0 ([(ob, .inr (4, [.ref q8, .ref q17, .int (nI 0), .null, .null, .null, .int (nI 0), .int (nI 0)])), (q8, .inl (cI, 667, .inl (fun _ => nI 0))), (q17, .inl (cI, 3335, .inl (fun _ => nI 0))), (q26, .inl (cI, 667, .inl (fun _ => nI 0)))]) := hD
  refine va_putF (D := D) (ci := 4) (v := .ref q26) (ty := (.array .int)) (C := RX4) (T := TX4) (N := 8) hx hb hts hI4 tyX4 tyX4_ok nmX4 hown hK.1 hP hD hS 0 rfl rfl 3 (by decide) lk16 (fun _ h9 => h9) rfl hin rfl (by decide +kernel) rfl rfl (Nat.le_of_ble_eq_true rfl) dX4_init_28 (fun H locs hP hD hS => ?_)
  have hP : va_P D vwCl ([(ob, .inr (4, [.ref q8, .ref q17, .int (nI 0), .ref q26, .null, .null, .int (nI 0), .int (nI 0)])), (q8, .inl (cI, 667, .inl (fun _ => nI 0))), (q17, .inl (cI, 3335, .inl (fun _ => nI 0))), (q26, .inl (cI, 667, .inl (fun _ => nI 0)))]) H := hP
  have hD : va_D A0 ([(ob, .inr (4, [.ref q8, .ref q17, .int (nI 0), .ref q26, .null, .null, .int (nI 0), .int (nI 0)])), (q8, .inl (cI, 667, .inl (fun _ => nI 0))), (q17, .inl (cI, 3335, .inl (fun _ => nI 0))), (q26, .inl (cI, 667, .inl (fun _ => nI 0)))]) := hD
  refine lv_aload_n hx hb dX4_init_31 rfl (lv_at hl 0 rfl) ?_
  refine lv_sipush (v := (nI 667)) hx hb dX4_init_32 (by decide) ?_
  refine n_newI hx hb (hts (.arrayClass .int) (by decide +kernel)) hK hP hD hS hA (by decide) (Nat.le_of_ble_eq_true rfl) (Nat.le_of_ble_eq_true rfl) dX4_init_35 (fun q35 H hP hD hS => ?_)
  have hP : va_P D vwCl ([(ob, .inr (4, [.ref q8, .ref q17, .int (nI 0), .ref q26, .null, .null, .int (nI 0), .int (nI 0)])), (q8, .inl (cI, 667, .inl (fun _ => nI 0))), (q17, .inl (cI, 3335, .inl (fun _ => nI 0))), (q26, .inl (cI, 667, .inl (fun _ => nI 0))), (q35, .inl (cI, 667, .inl (fun _ => nI 0)))]) H := hP
  have hD : va_D A0 ([(ob, .inr (4, [.ref q8, .ref q17, .int (nI 0), .ref q26, .null, .null, .int (nI 0), .int (nI 0)])), (q8, .inl (cI, 667, .inl (fun _ => nI 0))), (q17, .inl (cI, 3335, .inl (fun _ => nI 0))), (q26, .inl (cI, 667, .inl (fun _ => nI 0))), (q35, .inl (cI, 667, .inl (fun _ => nI 0)))]) := hD
  refine va_putF (D := D) (ci := 4) (v := .ref q35) (ty := (.array .int)) (C := RX4) (T := TX4) (N := 8) hx hb hts hI4 tyX4 tyX4_ok nmX4 hown hK.1 hP hD hS 0 rfl rfl 4 (by decide) lk19 (fun _ h9 => h9) rfl hin rfl (by decide +kernel) rfl rfl (Nat.le_of_ble_eq_true rfl) dX4_init_37 (fun H locs hP hD hS => ?_)
  have hP : va_P D vwCl ([(ob, .inr (4, [.ref q8, .ref q17, .int (nI 0), .ref q26, .ref q35, .null, .int (nI 0), .int (nI 0)])), (q8, .inl (cI, 667, .inl (fun _ => nI 0))), (q17, .inl (cI, 3335, .inl (fun _ => nI 0))), (q26, .inl (cI, 667, .inl (fun _ => nI 0))), (q35, .inl (cI, 667, .inl (fun _ => nI 0)))]) H := hP
  have hD : va_D A0 ([(ob, .inr (4, [.ref q8, .ref q17, .int (nI 0), .ref q26, .ref q35, .null, .int (nI 0), .int (nI 0)])), (q8, .inl (cI, 667, .inl (fun _ => nI 0))), (q17, .inl (cI, 3335, .inl (fun _ => nI 0))), (q26, .inl (cI, 667, .inl (fun _ => nI 0))), (q35, .inl (cI, 667, .inl (fun _ => nI 0)))]) := hD
  refine lv_aload_n hx hb dX4_init_40 rfl (lv_at hl 0 rfl) ?_
  refine lv_bipush (v := (nI 80)) hx hb dX4_init_41 (by decide) ?_
  refine n_newI hx hb (hts (.arrayClass .int) (by decide +kernel)) hK hP hD hS hA (by decide) (Nat.le_of_ble_eq_true rfl) (Nat.le_of_ble_eq_true rfl) dX4_init_43 (fun q43 H hP hD hS => ?_)
  have hP : va_P D vwCl ([(ob, .inr (4, [.ref q8, .ref q17, .int (nI 0), .ref q26, .ref q35, .null, .int (nI 0), .int (nI 0)])), (q8, .inl (cI, 667, .inl (fun _ => nI 0))), (q17, .inl (cI, 3335, .inl (fun _ => nI 0))), (q26, .inl (cI, 667, .inl (fun _ => nI 0))), (q35, .inl (cI, 667, .inl (fun _ => nI 0))), (q43, .inl (cI, 80, .inl (fun _ => nI 0)))]) H := hP
  have hD : va_D A0 ([(ob, .inr (4, [.ref q8, .ref q17, .int (nI 0), .ref q26, .ref q35, .null, .int (nI 0), .int (nI 0)])), (q8, .inl (cI, 667, .inl (fun _ => nI 0))), (q17, .inl (cI, 3335, .inl (fun _ => nI 0))), (q26, .inl (cI, 667, .inl (fun _ => nI 0))), (q35, .inl (cI, 667, .inl (fun _ => nI 0))), (q43, .inl (cI, 80, .inl (fun _ => nI 0)))]) := hD
  refine va_putF (D := D) (ci := 4) (v := .ref q43) (ty := (.array .int)) (C := RX4) (T := TX4) (N := 8) hx hb hts hI4 tyX4 tyX4_ok nmX4 hown hK.1 hP hD hS 0 rfl rfl 5 (by decide) lk22 (fun _ h9 => h9) rfl hin rfl (by decide +kernel) rfl rfl (Nat.le_of_ble_eq_true rfl) dX4_init_45 (fun H locs hP hD hS => ?_)
  have hP : va_P D vwCl ([(ob, .inr (4, [.ref q8, .ref q17, .int (nI 0), .ref q26, .ref q35, .ref q43, .int (nI 0), .int (nI 0)])), (q8, .inl (cI, 667, .inl (fun _ => nI 0))), (q17, .inl (cI, 3335, .inl (fun _ => nI 0))), (q26, .inl (cI, 667, .inl (fun _ => nI 0))), (q35, .inl (cI, 667, .inl (fun _ => nI 0))), (q43, .inl (cI, 80, .inl (fun _ => nI 0)))]) H := hP
  have hD : va_D A0 ([(ob, .inr (4, [.ref q8, .ref q17, .int (nI 0), .ref q26, .ref q35, .ref q43, .int (nI 0), .int (nI 0)])), (q8, .inl (cI, 667, .inl (fun _ => nI 0))), (q17, .inl (cI, 3335, .inl (fun _ => nI 0))), (q26, .inl (cI, 667, .inl (fun _ => nI 0))), (q35, .inl (cI, 667, .inl (fun _ => nI 0))), (q43, .inl (cI, 80, .inl (fun _ => nI 0)))]) := hD
  exact RETN _ _ (st6 ob q8 q17 q26 q35 q43) _ _ dX4_init_48 (rfl) hP hD hS
set_option maxHeartbeats 4000000 in
set_option maxRecDepth 100000 in
theorem c_X2_init {l : Launch} {D : va_G} {cI cG cC cR : ClassId} {ob : Nat} : CtN l yX2_init wsX2_init { frames := 1, cells := 7, slots := 60, locals := 12 } D (TY cI cG cC cR) [.ref ob] ([(ob, .inr (2, [.null, .null, .null, .int (nI 0), .int (nI 0)]))]) (fun (u : (Nat → Nat) × (Nat → Nat → Int32)) => SW u.1 cI cG u.2) (fun (u : (Nat → Nat) × (Nat → Nat → Int32)) => u.1 0 = ob ∧ RepS (fun _ => nI 0) u.2) 7 60 := by
  refine CtN.of (cc := cX2_init) (maxL := 2) (by decide) rfl (Nat.le_of_ble_eq_true rfl) rfl ?_
  intro P0 e0 s0 m0 a0 b0 t0 c0 A0 Q0 ls F hK hN hin hP hD hA RETN hl
  obtain ⟨hx, hb, hml, hown, hts⟩ := id F
  have hS : va_S A0 s0.heap s0.heap [] := va_S.rf
  have hl : lv_has ls 2 [(0, .ref ob)] := hl
  have lk11 := hts (.fieldLink RX2 11 "SlotMaps$Slots" "bits" "[[I") (by decide +kernel)
  have lk16 := hts (.fieldLink RX2 16 "SlotMaps$Slots" "blockFirst" "[I") (by decide +kernel)
  have lk20 := hts (.fieldLink RX2 20 "SlotMaps$Slots" "blockSize" "[I") (by decide +kernel)
  have lk23 := hts (.fieldLink RX2 23 "SlotMaps$Slots" "summary" "I") (by decide +kernel)
  have lk27 := hts (.fieldLink RX2 27 "SlotMaps$Slots" "looks" "I") (by decide +kernel)
  have hI2 : ∀ w ∈ u_ws RX2 TX2 5, w ∈ wsX2_init := by decide +kernel
  refine lv_aload_n hx hb dX2_init_0 rfl (lv_at hl 0 rfl) ?_
  refine W.objInit hx hb hown (hts (.methodLink RX2 3 objectInit) (by decide +kernel)) (hts (.instanceMethod objectInit) (by decide +kernel)) (hts _ (List.mem_of_getElem? (i := 3) rfl)) rfl (by rw [hml]; exact hl.1) rfl dX2_init_1 (Nat.le_of_ble_eq_true rfl) (Nat.le_of_ble_eq_true rfl) ?_
  refine W.eq (g2 := F0 m0 4 ls []) rfl ?_
  refine lv_aload_n hx hb dX2_init_4 rfl (lv_at hl 0 rfl) ?_
  refine lv_iconst (v := (nI 4)) hx hb dX2_init_5 (by decide) ?_
  refine lv_bipush (v := (nI 10)) hx hb dX2_init_6 (by decide) ?_
  refine n_new2 hx hb hown (hts (.classLink RX2 9 "[[I") (by decide +kernel)) (hts (.arrayClass .int) (by decide +kernel)) hN hK hP hD hS hA (Nat.le_of_ble_eq_true rfl) (Nat.le_of_ble_eq_true rfl) dX2_init_8 (fun q8 r H hP hD hS => ?_)
  have hP : va_P D vwCl ([(ob, .inr (2, [.null, .null, .null, .int (nI 0), .int (nI 0)])), (q8, .inl (cG, 4, .inr (.inr (.inr (.inr (fun i => if i < 4 then some (r i) else none)))))), (r 0, .inl (cI, 10, .inl (fun _ => nI 0))), (r 1, .inl (cI, 10, .inl (fun _ => nI 0))), (r 2, .inl (cI, 10, .inl (fun _ => nI 0))), (r 3, .inl (cI, 10, .inl (fun _ => nI 0)))]) H := hP
  have hD : va_D A0 ([(ob, .inr (2, [.null, .null, .null, .int (nI 0), .int (nI 0)])), (q8, .inl (cG, 4, .inr (.inr (.inr (.inr (fun i => if i < 4 then some (r i) else none)))))), (r 0, .inl (cI, 10, .inl (fun _ => nI 0))), (r 1, .inl (cI, 10, .inl (fun _ => nI 0))), (r 2, .inl (cI, 10, .inl (fun _ => nI 0))), (r 3, .inl (cI, 10, .inl (fun _ => nI 0)))]) := hD
  refine va_putF (D := D) (ci := 2) (v := .ref q8) (ty := (.array (.array .int))) (C := RX2) (T := TX2) (N := 5) hx hb hts hI2 tyX2 tyX2_ok nmX2 hown hK.1 hP hD hS 0 rfl rfl 0 (by decide) lk11 (fun _ h9 => h9) rfl hin rfl (by decide +kernel) rfl rfl (Nat.le_of_ble_eq_true rfl) dX2_init_12 (fun H locs hP hD hS => ?_)
  have hP : va_P D vwCl ([(ob, .inr (2, [.ref q8, .null, .null, .int (nI 0), .int (nI 0)])), (q8, .inl (cG, 4, .inr (.inr (.inr (.inr (fun i => if i < 4 then some (r i) else none)))))), (r 0, .inl (cI, 10, .inl (fun _ => nI 0))), (r 1, .inl (cI, 10, .inl (fun _ => nI 0))), (r 2, .inl (cI, 10, .inl (fun _ => nI 0))), (r 3, .inl (cI, 10, .inl (fun _ => nI 0)))]) H := hP
  have hD : va_D A0 ([(ob, .inr (2, [.ref q8, .null, .null, .int (nI 0), .int (nI 0)])), (q8, .inl (cG, 4, .inr (.inr (.inr (.inr (fun i => if i < 4 then some (r i) else none)))))), (r 0, .inl (cI, 10, .inl (fun _ => nI 0))), (r 1, .inl (cI, 10, .inl (fun _ => nI 0))), (r 2, .inl (cI, 10, .inl (fun _ => nI 0))), (r 3, .inl (cI, 10, .inl (fun _ => nI 0)))]) := hD
  refine lv_aload_n hx hb dX2_init_15 rfl (lv_at hl 0 rfl) ?_
  refine lv_bipush (v := (nI 8)) hx hb dX2_init_16 (by decide) ?_
  refine n_newI hx hb (hts (.arrayClass .int) (by decide +kernel)) hK hP hD hS hA (by decide) (Nat.le_of_ble_eq_true rfl) (Nat.le_of_ble_eq_true rfl) dX2_init_18 (fun q18 H hP hD hS => ?_)
  have hP : va_P D vwCl ([(ob, .inr (2, [.ref q8, .null, .null, .int (nI 0), .int (nI 0)])), (q8, .inl (cG, 4, .inr (.inr (.inr (.inr (fun i => if i < 4 then some (r i) else none)))))), (r 0, .inl (cI, 10, .inl (fun _ => nI 0))), (r 1, .inl (cI, 10, .inl (fun _ => nI 0))), (r 2, .inl (cI, 10, .inl (fun _ => nI 0))), (r 3, .inl (cI, 10, .inl (fun _ => nI 0))), (q18, .inl (cI, 8, .inl (fun _ => nI 0)))]) H := hP
  have hD : va_D A0 ([(ob, .inr (2, [.ref q8, .null, .null, .int (nI 0), .int (nI 0)])), (q8, .inl (cG, 4, .inr (.inr (.inr (.inr (fun i => if i < 4 then some (r i) else none)))))), (r 0, .inl (cI, 10, .inl (fun _ => nI 0))), (r 1, .inl (cI, 10, .inl (fun _ => nI 0))), (r 2, .inl (cI, 10, .inl (fun _ => nI 0))), (r 3, .inl (cI, 10, .inl (fun _ => nI 0))), (q18, .inl (cI, 8, .inl (fun _ => nI 0)))]) := hD
  refine va_putF (D := D) (ci := 2) (v := .ref q18) (ty := (.array .int)) (C := RX2) (T := TX2) (N := 5) hx hb hts hI2 tyX2 tyX2_ok nmX2 hown hK.1 hP hD hS 0 rfl rfl 1 (by decide) lk16 (fun _ h9 => h9) rfl hin rfl (by decide +kernel) rfl rfl (Nat.le_of_ble_eq_true rfl) dX2_init_20 (fun H locs hP hD hS => ?_)
  have hP : va_P D vwCl ([(ob, .inr (2, [.ref q8, .ref q18, .null, .int (nI 0), .int (nI 0)])), (q8, .inl (cG, 4, .inr (.inr (.inr (.inr (fun i => if i < 4 then some (r i) else none)))))), (r 0, .inl (cI, 10, .inl (fun _ => nI 0))), (r 1, .inl (cI, 10, .inl (fun _ => nI 0))), (r 2, .inl (cI, 10, .inl (fun _ => nI 0))), (r 3, .inl (cI, 10, .inl (fun _ => nI 0))), (q18, .inl (cI, 8, .inl (fun _ => nI 0)))]) H := hP
  have hD : va_D A0 ([(ob, .inr (2, [.ref q8, .ref q18, .null, .int (nI 0), .int (nI 0)])), (q8, .inl (cG, 4, .inr (.inr (.inr (.inr (fun i => if i < 4 then some (r i) else none)))))), (r 0, .inl (cI, 10, .inl (fun _ => nI 0))), (r 1, .inl (cI, 10, .inl (fun _ => nI 0))), (r 2, .inl (cI, 10, .inl (fun _ => nI 0))), (r 3, .inl (cI, 10, .inl (fun _ => nI 0))), (q18, .inl (cI, 8, .inl (fun _ => nI 0)))]) := hD
  refine lv_aload_n hx hb dX2_init_23 rfl (lv_at hl 0 rfl) ?_
  refine lv_bipush (v := (nI 8)) hx hb dX2_init_24 (by decide) ?_
  refine n_newI hx hb (hts (.arrayClass .int) (by decide +kernel)) hK hP hD hS hA (by decide) (Nat.le_of_ble_eq_true rfl) (Nat.le_of_ble_eq_true rfl) dX2_init_26 (fun q26 H hP hD hS => ?_)
  have hP : va_P D vwCl ([(ob, .inr (2, [.ref q8, .ref q18, .null, .int (nI 0), .int (nI 0)])), (q8, .inl (cG, 4, .inr (.inr (.inr (.inr (fun i => if i < 4 then some (r i) else none)))))), (r 0, .inl (cI, 10, .inl (fun _ => nI 0))), (r 1, .inl (cI, 10, .inl (fun _ => nI 0))), (r 2, .inl (cI, 10, .inl (fun _ => nI 0))), (r 3, .inl (cI, 10, .inl (fun _ => nI 0))), (q18, .inl (cI, 8, .inl (fun _ => nI 0))), (q26, .inl (cI, 8, .inl (fun _ => nI 0)))]) H := hP
  have hD : va_D A0 ([(ob, .inr (2, [.ref q8, .ref q18, .null, .int (nI 0), .int (nI 0)])), (q8, .inl (cG, 4, .inr (.inr (.inr (.inr (fun i => if i < 4 then some (r i) else none)))))), (r 0, .inl (cI, 10, .inl (fun _ => nI 0))), (r 1, .inl (cI, 10, .inl (fun _ => nI 0))), (r 2, .inl (cI, 10, .inl (fun _ => nI 0))), (r 3, .inl (cI, 10, .inl (fun _ => nI 0))), (q18, .inl (cI, 8, .inl (fun _ => nI 0))), (q26, .inl (cI, 8, .inl (fun _ => nI 0)))]) := hD
  refine va_putF (D := D) (ci := 2) (v := .ref q26) (ty := (.array .int)) (C := RX2) (T := TX2) (N := 5) hx hb hts hI2 tyX2 tyX2_ok nmX2 hown hK.1 hP hD hS 0 rfl rfl 2 (by decide) lk20 (fun _ h9 => h9) rfl hin rfl (by decide +kernel) rfl rfl (Nat.le_of_ble_eq_true rfl) dX2_init_28 (fun H locs hP hD hS => ?_)
  have hP : va_P D vwCl ([(ob, .inr (2, [.ref q8, .ref q18, .ref q26, .int (nI 0), .int (nI 0)])), (q8, .inl (cG, 4, .inr (.inr (.inr (.inr (fun i => if i < 4 then some (r i) else none)))))), (r 0, .inl (cI, 10, .inl (fun _ => nI 0))), (r 1, .inl (cI, 10, .inl (fun _ => nI 0))), (r 2, .inl (cI, 10, .inl (fun _ => nI 0))), (r 3, .inl (cI, 10, .inl (fun _ => nI 0))), (q18, .inl (cI, 8, .inl (fun _ => nI 0))), (q26, .inl (cI, 8, .inl (fun _ => nI 0)))]) H := hP
  have hD : va_D A0 ([(ob, .inr (2, [.ref q8, .ref q18, .ref q26, .int (nI 0), .int (nI 0)])), (q8, .inl (cG, 4, .inr (.inr (.inr (.inr (fun i => if i < 4 then some (r i) else none)))))), (r 0, .inl (cI, 10, .inl (fun _ => nI 0))), (r 1, .inl (cI, 10, .inl (fun _ => nI 0))), (r 2, .inl (cI, 10, .inl (fun _ => nI 0))), (r 3, .inl (cI, 10, .inl (fun _ => nI 0))), (q18, .inl (cI, 8, .inl (fun _ => nI 0))), (q26, .inl (cI, 8, .inl (fun _ => nI 0)))]) := hD
  refine lv_aload_n hx hb dX2_init_31 rfl (lv_at hl 0 rfl) ?_
  refine lv_iconst (v := (nI 0)) hx hb dX2_init_32 (by decide) ?_
  refine va_put (D := D) (ci := 2) (v := .int (nI 0)) (ty := .int) (C := RX2) (T := TX2) (N := 5) hx hb hts hI2 tyX2 tyX2_ok nmX2 hown hK.1 hP hD hS 0 rfl rfl 3 (by decide) lk23 (fun _ h9 => h9) rfl (by decide +kernel) rfl rfl (Nat.le_of_ble_eq_true rfl) dX2_init_33 (fun H locs hP hD hS => ?_)
  have hP : va_P D vwCl ([(ob, .inr (2, [.ref q8, .ref q18, .ref q26, .int (nI 0), .int (nI 0)])), (q8, .inl (cG, 4, .inr (.inr (.inr (.inr (fun i => if i < 4 then some (r i) else none)))))), (r 0, .inl (cI, 10, .inl (fun _ => nI 0))), (r 1, .inl (cI, 10, .inl (fun _ => nI 0))), (r 2, .inl (cI, 10, .inl (fun _ => nI 0))), (r 3, .inl (cI, 10, .inl (fun _ => nI 0))), (q18, .inl (cI, 8, .inl (fun _ => nI 0))), (q26, .inl (cI, 8, .inl (fun _ => nI 0)))]) H := hP
  have hD : va_D A0 ([(ob, .inr (2, [.ref q8, .ref q18, .ref q26, .int (nI 0), .int (nI 0)])), (q8, .inl (cG, 4, .inr (.inr (.inr (.inr (fun i => if i < 4 then some (r i) else none)))))), (r 0, .inl (cI, 10, .inl (fun _ => nI 0))), (r 1, .inl (cI, 10, .inl (fun _ => nI 0))), (r 2, .inl (cI, 10, .inl (fun _ => nI 0))), (r 3, .inl (cI, 10, .inl (fun _ => nI 0))), (q18, .inl (cI, 8, .inl (fun _ => nI 0))), (q26, .inl (cI, 8, .inl (fun _ => nI 0)))]) := hD
  refine lv_aload_n hx hb dX2_init_36 rfl (lv_at hl 0 rfl) ?_
  refine lv_iconst (v := (nI 0)) hx hb dX2_init_37 (by decide) ?_
  refine va_put (D := D) (ci := 2) (v := .int (nI 0)) (ty := .int) (C := RX2) (T := TX2) (N := 5) hx hb hts hI2 tyX2 tyX2_ok nmX2 hown hK.1 hP hD hS 0 rfl rfl 4 (by decide) lk27 (fun _ h9 => h9) rfl (by decide +kernel) rfl rfl (Nat.le_of_ble_eq_true rfl) dX2_init_38 (fun H locs hP hD hS => ?_)
  have hP : va_P D vwCl ([(ob, .inr (2, [.ref q8, .ref q18, .ref q26, .int (nI 0), .int (nI 0)])), (q8, .inl (cG, 4, .inr (.inr (.inr (.inr (fun i => if i < 4 then some (r i) else none)))))), (r 0, .inl (cI, 10, .inl (fun _ => nI 0))), (r 1, .inl (cI, 10, .inl (fun _ => nI 0))), (r 2, .inl (cI, 10, .inl (fun _ => nI 0))), (r 3, .inl (cI, 10, .inl (fun _ => nI 0))), (q18, .inl (cI, 8, .inl (fun _ => nI 0))), (q26, .inl (cI, 8, .inl (fun _ => nI 0)))]) H := hP
  have hD : va_D A0 ([(ob, .inr (2, [.ref q8, .ref q18, .ref q26, .int (nI 0), .int (nI 0)])), (q8, .inl (cG, 4, .inr (.inr (.inr (.inr (fun i => if i < 4 then some (r i) else none)))))), (r 0, .inl (cI, 10, .inl (fun _ => nI 0))), (r 1, .inl (cI, 10, .inl (fun _ => nI 0))), (r 2, .inl (cI, 10, .inl (fun _ => nI 0))), (r 3, .inl (cI, 10, .inl (fun _ => nI 0))), (q18, .inl (cI, 8, .inl (fun _ => nI 0))), (q26, .inl (cI, 8, .inl (fun _ => nI 0)))]) := hD
  have hP9 := hP.sub (ws' := [(ob, .inr (2, [.ref q8, .ref q18, .ref q26, .int (nI 0), .int (nI 0)])), (q8, .inl (cG, 4, .inr (.inr (.inr (.inr (fun i => if i < 4 then some (r i) else none)))))), (q18, .inl (cI, 8, .inl (fun _ => nI 0))), (q26, .inl (cI, 8, .inl (fun _ => nI 0))), (r 0, .inl (cI, 10, .inl (fun _ => nI 0))), (r 1, .inl (cI, 10, .inl (fun _ => nI 0))), (r 2, .inl (cI, 10, .inl (fun _ => nI 0))), (r 3, .inl (cI, 10, .inl (fun _ => nI 0)))]) [0, 1, 6, 7, 2, 3, 4, 5] rfl
  have hD9 := hD.sub (ws' := [(ob, .inr (2, [.ref q8, .ref q18, .ref q26, .int (nI 0), .int (nI 0)])), (q8, .inl (cG, 4, .inr (.inr (.inr (.inr (fun i => if i < 4 then some (r i) else none)))))), (q18, .inl (cI, 8, .inl (fun _ => nI 0))), (q26, .inl (cI, 8, .inl (fun _ => nI 0))), (r 0, .inl (cI, 10, .inl (fun _ => nI 0))), (r 1, .inl (cI, 10, .inl (fun _ => nI 0))), (r 2, .inl (cI, 10, .inl (fun _ => nI 0))), (r 3, .inl (cI, 10, .inl (fun _ => nI 0)))]) [0, 1, 6, 7, 2, 3, 4, 5] (by decide) rfl
  rw [← gr_ad8 (b := ob) (q := q8) (x := q18) (y := q26)] at hP9 hD9
  obtain ⟨a, ha0, hPn, hDn⟩ : ∃ a9 : Nat → Nat, ob = a9 0 ∧ va_P D vwCl (SW a9 cI cG (fun _ _ => nI 0)) H ∧ va_D A0 (SW a9 cI cG (fun _ _ => nI 0)) := ⟨ad8 ob q8 q18 q26 r, rfl, hP9, hD9⟩
  subst ha0
  have hP := hPn
  have hD := hDn
  refine lv_iconst (v := (nI 0)) hx hb dX2_init_41 (by decide) ?_
  refine lv_istore_n (lv' := [(1, .int (nI 0)), (0, .ref (a 0))]) hx hb dX2_init_42 rfl hl (by decide) rfl (fun ls hl => ?_)
  have LP43 : ∀ (nn : Nat) (w : Nat) (VV : Nat → Nat → Int32) (H : Heap) (locs : List Loc) (ls : Array Slot), (w ≤ 10) → (∀ j, j < w → VV 0 j = -1) → (∀ k, k ≠ 0 → VV k = fun _ => nI 0) → 10 - w < nn → va_P D vwCl (SW a cI cG VV) H → va_D A0 (SW a cI cG VV) → va_S A0 s0.heap H locs → lv_has ls 2 [(1, .int (nI w)), (0, .ref (a 0))] → W P0 l e0 { frames := 1, cells := 7, slots := 60, locals := 12 } s0 m0 a0 b0 t0 c0 H locs 7 60 Q0 (F0 m0 43 ls []) := by
    intro nn
    induction nn with
    | zero => intro w VV H locs ls hw hv0 hvn hmu; exact absurd hmu (Nat.not_lt_zero _)
    | succ nn ih43 =>
      intro w VV H locs ls hw hv0 hvn hmu43 hP hD hS hl
      refine lv_iload_n hx hb dX2_init_43 rfl (lv_at hl 0 rfl) ?_
      refine lv_bipush (v := (nI 10)) hx hb dX2_init_44 (by decide) ?_
      refine lv_icmp_ge (tgt := 64) hx hb dX2_init_46 (by decide) (fun c46 => ?_) (fun c46 => ?_)
      · skip
        replace c46 : 10 ≤ w := by rw [nI_leI (by omega) (by omega)] at c46; exact c46
        exact RETN _ _ (a, VV) _ _ dX2_init_64 (⟨rfl, rep_init (fun j hj => hv0 j (by omega)) hvn⟩) hP hD hS
      · skip
        replace c46 : ¬ (10 ≤ w) := by rw [nI_leI (by omega) (by omega)] at c46; exact c46
        refine lv_aload_n hx hb dX2_init_49 rfl (lv_at hl 1 rfl) ?_
        refine va_get (D := D) (ci := 2) (v := .ref (a 1)) (C := RX2) (T := TX2) (N := 5) hx hb hts hI2 hown hK.1 hP 0 rfl rfl 0 (by decide) lk11 (fun _ h9 => h9) rfl dX2_init_50 ?_
        refine lv_iconst (v := (nI 0)) hx hb dX2_init_53 (by decide) ?_
        refine n_aald (b := a 4) hx hb hK hP 1 1 rfl rfl (by decide) (by decide) rfl dX2_init_54 ?_
        refine lv_iload_n hx hb dX2_init_55 rfl (lv_at hl 0 rfl) ?_
        refine lv_iconst (v := (-1)) hx hb dX2_init_56 (by decide) ?_
        refine n_iast hx hb hK hP hD hS 4 0 rfl rfl (by decide) (by omega) dX2_init_57 (wsN := SW a cI cG (vset VV 0 (upd (VV 0) w (-1)))) rfl (fun H locs hP hD hS => ?_)
        obtain ⟨V_1, hV_1⟩ : ∃ z9, z9 = (vset VV 0 (upd (VV 0) w (-1))) := ⟨_, rfl⟩
        rw [← hV_1] at hP hD
        refine lv_iinc (v := (nI (w + 1))) (lv' := [(1, .int (nI (w + 1))), (0, .ref (a 0))]) hx hb dX2_init_58 hl (k := 0) rfl (n_inc1 _) (by decide) rfl (fun ls hl => ?_)
        refine lv_goto (tgt := 43) hx hb dX2_init_61 (by decide) ?_
        exact ih43 (w + 1) V_1 _ _ _ (by omega) (fun j hj => rep_row hv0 hV_1 j hj) (fun k hk => by rw [hV_1, vset_n _ _ hk]; exact hvn k hk) (by omega) hP hD hS (lv_sub hl [0, 1] rfl)
  exact LP43 _ 0 (fun _ _ => nI 0) _ _ _ (by omega) (fun j hj => absurd hj (Nat.not_lt_zero j)) (fun _ _ => rfl) (Nat.lt_succ_self _) hP hD hS (lv_sub hl [0, 1] rfl)
