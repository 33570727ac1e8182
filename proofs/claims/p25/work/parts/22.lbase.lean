/-! the law's methods: their contracts' frame; a call hands its whole world on -/
/-- a method that answers a long -/
def CtL {S : Type} (l : Launch) (y : MethodName) (wd : List Cond) (rm : Room) (D : va_G) (tys : List (ClassId × FieldType)) (av : List Value) (ws : va_W) (W' : S → va_W) (post : Int64 → S → Prop) : Prop :=
  ∀ sz : Nat, Met l y wd rm (MPc D tys av ws sz) (va_Ql post (fun u => MB D ws sz (W' u)) (va_A ws sz)) 0 0 (va_A ws sz)
theorem CtL.of {S : Type} {l : Launch} {y : MethodName} {wd wd' : List Cond} {rm : Room} {D : va_G} {tys : List (ClassId × FieldType)} {av : List Value} {ws : va_W} {W' : S → va_W} {post : Int64 → S → Prop} {cc : ByteArray} {maxL : Nat}
    (hy : plainName y.cls = true) (hw : wd = Cond.code y cc maxL (some .long) :: wd') (hlen : (lg_sl av).length ≤ maxL)
    (body : ∀ (p : Program) (e : Env) (s : State) (m : MethodId) (args : Array Value) (below : List Frame) (meth : Method) (c : Code) (A : Nat → Prop) (Q : State → Prop) (ls : Array Slot),
      CallFix p m c cc maxL s args wd y.cls → KK D tys s → va_P D vwCl ws s.heap → va_D A ws → (∀ q : Nat, s.heap.size ≤ q → A q) →
      (∀ (H : Heap) (locs : List Loc) (r : Int64) (u : S) (ls : Array Slot) (pc : Nat), decode cc pc = .ok (.lreturn, 1) → post r u → va_P D vwCl (W' u) H → va_D A (W' u) → va_S A s.heap H locs → W p l e rm s m args below meth c H locs 0 0 Q (F0 m pc ls [.long r])) →
      lv_has ls maxL (lv_args 0 av) → W p l e rm s m args below meth c s.heap [] 0 0 Q (F0 m 0 ls [])) : CtL l y wd rm D tys av ws W' post := by
  intro sz
  refine Met.ofW hy hw ?_
  intro p e s m args below meth c s₁ B hml hv
  obtain ⟨rfl, hsz, hP, hK, hD0⟩ := hv
  subst hsz
  have hl := lv_entry av (n := maxL) hlen
  rw [lg_entry_eq]
  refine body p e s m av.toArray below meth c (va_A ws s.heap.size) _ _ ⟨B.exec, B.bytes, hml, findClass_of_methodNamed B.named, atoms_spec (ws := wd) B.pre⟩ hK hP hD0.self (fun q h => Or.inr h) ?_ hl
  intro H locs r u ls pc hdg hp hP' hD' hS
  exact W.lret B.exec B.bytes B.returns (fun t ht hW => ⟨⟨r, u, rfl, hp, by rw [ht]; exact hP', hD'⟩, hS.F ht⟩) hS.2.2 hdg B.notSynchronized
/-- the script, as a method of the law is given it -/
abbrev MPx (b L : Nat) (xs : Nat → Int32) (av : List Value) (sz : Nat) : Array Value → State → Prop := va_Pc av (fun U => U.heap.size = sz ∧ b < sz ∧ va_X b L xs U U.heap)
theorem MPx_blind {b L : Nat} {xs : Nat → Int32} {av : List Value} {sz : Nat} : FrameBlind (MPx b L xs av sz) := fun a U g mk q => by
  obtain ⟨q0, q1, q2, qX⟩ := q
  exact ⟨q0, q1, q2, va_X.moved (u := U) (U := U.calling g mk a) (Vm.Alike.refl U.vm) qX⟩
/-- a method that reads the script and answers some number -/
def CtX (l : Launch) (y : MethodName) (wd : List Cond) (rm : Room) (b L : Nat) (xs : Nat → Int32) (av : List Value) : Prop :=
  ∀ sz : Nat, Met l y wd rm (MPx b L xs av sz) (va_Qi (fun (_ : Int32) (_ : Unit) => True) (fun _ _ => True) (fun q => sz ≤ q)) 0 0 (fun q => sz ≤ q)
theorem CtX.of {l : Launch} {y : MethodName} {wd wd' : List Cond} {rm : Room} {b L : Nat} {xs : Nat → Int32} {av : List Value} {cc : ByteArray} {maxL : Nat}
    (hy : plainName y.cls = true) (hw : wd = Cond.code y cc maxL (some .int) :: wd') (hlen : (lg_sl av).length ≤ maxL)
    (body : ∀ (p : Program) (e : Env) (s : State) (m : MethodId) (args : Array Value) (below : List Frame) (meth : Method) (c : Code) (Q : State → Prop) (ls : Array Slot),
      CallFix p m c cc maxL s args wd y.cls → va_X b L xs s s.heap → b < s.heap.size →
      (∀ (r : Int32) (ls : Array Slot) (pc : Nat), decode cc pc = .ok (.ireturn, 1) → W p l e rm s m args below meth c s.heap [] 0 0 Q (F0 m pc ls [.int r])) →
      lv_has ls maxL (lv_args 0 av) → W p l e rm s m args below meth c s.heap [] 0 0 Q (F0 m 0 ls [])) : CtX l y wd rm b L xs av := by
  intro sz
  refine Met.ofW hy hw ?_
  intro p e s m args below meth c s₁ B hml hv
  obtain ⟨rfl, hsz, hb, hX⟩ := hv
  subst hsz
  have hl := lv_entry av (n := maxL) hlen
  rw [lg_entry_eq]
  refine body p e s m av.toArray below meth c _ _ ⟨B.exec, B.bytes, hml, findClass_of_methodNamed B.named, atoms_spec (ws := wd) B.pre⟩ hX hb ?_ hl
  intro r ls pc hdg
  exact W.zret B.exec B.bytes B.returns rfl (fun t ht hW => ⟨⟨r, (), rfl, trivial, trivial⟩, ⟨by rw [ht]; exact Nat.le_refl _, fun q _ _ => by rw [ht]⟩⟩) (fun q h => by cases h) hdg B.notSynchronized
section CALLS9
variable {p : Program} {l : Launch} {e : Env} {R : Room} {s : State} {m : MethodId} {args : Array Value} {below : List Frame} {meth : Method} {c : Code} {H : Heap} {locs : List Loc} {cells slots : Nat} {Q : State → Prop}
variable {cc : ByteArray} {nL pc index n maxL : Nat} {ls : Array Slot} {rest st As : List Value} {D : va_G} {A : Nat → Prop} {b ci : Nat} {fs : List Value} {tys : List (ClassId × FieldType)} {ws : va_W} {H0 : Heap} {Ts wd : List Cond} {own C : String} {y : MethodName} {rm : Room} {bytes : ByteArray} {ret : Option FieldType} {T : u_T} {N : Nat}
theorem cl_free (hA : ∀ q : Nat, H0.size ≤ q → A q) (hD : va_D A ws) (hS : va_S A H0 H locs) : ∀ q, va_A ws H.size q → A q := by
  intro q h
  rcases h with ⟨k, e, h⟩ | h
  · exact hD.2 k (q, e) h
  · exact hA q (Nat.le_trans hS.1 h)
/-- a virtual call that answers a number, over the whole world -/
theorem cl_VA {S : Type} {post : Int32 → S → Prop} {W' : S → va_W} (F : CallFix p m c cc nL s args Ts own) (hK : KK D tys s) (hA : ∀ q : Nat, H0.size ≤ q → A q) (hP : va_P D vwCl ws H) (hD : va_D A ws) (hS : va_S A H0 H locs)
    (hM : CtI l y wd rm D tys (.ref b :: As) ws W' post) (cw : CallW R s args own C index y bytes maxL ret wd rm 0 0 n)
    (hrc : ws[0]? = some (b, .inr (ci, fs))) (hci : vwCl[ci]? = some (C, T, N)) (hn : As.length = n) (hsz : ls.size = nL) (hst : st = As.reverse ++ .ref b :: rest) (hW : (rest.map fun v => v.category).sum ≤ 8) (hf : cells ≤ R.cells ∧ slots ≤ R.slots) (hdg : decode cc pc = .ok (.invokevirtual index, 3))
    (kk : ∀ (r : Int32) (u : S) (H1 : Heap) (locs1 : List Loc), post r u → va_P D vwCl (W' u) H1 → va_D A (W' u) → va_S A H0 H1 locs1 → W p l e R s m args below meth c H1 locs1 cells slots Q (F0 m (pc + 3) ls (.int r :: rest))) : W p l e R s m args below meth c H locs cells slots Q (F0 m pc ls st) := by
  have hFc := cl_free hA hD hS
  refine va_calli (va_runV (As := As) (rest := rest) F (hM H.size) cw ⟨MPc_blind, va_recv hK.1 hP hci hrc, fun U hU hW => ⟨rfl, by rw [hU], by rw [hU]; exact hP, KK.warm hW hK, hD.weaken (fun _ _ _ _ => trivial)⟩⟩ rfl hn hsz hst (lv_room hW) hdg hf) hS (fun q _ h => hFc q h) hFc (fun r u t H1 locs1 ht hvm hw hB hz1 hk1 hS1 => ?_)
  obtain ⟨hP1, hD1⟩ := hB
  rw [ht] at hP1
  exact kk r u H1 locs1 hw hP1 (hD1.weaken (fun k q _ h => hFc q.1 h)) hS1
/-- a static call that answers a number, over the whole world -/
theorem cl_SA {S : Type} {post : Int32 → S → Prop} {W' : S → va_W} (F : CallFix p m c cc nL s args Ts own) (hK : KK D tys s) (hA : ∀ q : Nat, H0.size ≤ q → A q) (hP : va_P D vwCl ws H) (hD : va_D A ws) (hS : va_S A H0 H locs)
    (hM : CtI l y wd rm D tys As ws W' post) (cw : CallB R s args own index y bytes maxL ret wd rm 0 0 n ∧ (Cond.static y).before args s = true)
    (hn : As.length = n) (hsz : ls.size = nL) (hst : st = As.reverse ++ rest) (hW : (rest.map fun v => v.category).sum ≤ 8) (hf : cells ≤ R.cells ∧ slots ≤ R.slots) (hdg : decode cc pc = .ok (.invokestatic index, 3))
    (kk : ∀ (r : Int32) (u : S) (H1 : Heap) (locs1 : List Loc), post r u → va_P D vwCl (W' u) H1 → va_D A (W' u) → va_S A H0 H1 locs1 → W p l e R s m args below meth c H1 locs1 cells slots Q (F0 m (pc + 3) ls (.int r :: rest))) : W p l e R s m args below meth c H locs cells slots Q (F0 m pc ls st) := by
  have hFc := cl_free hA hD hS
  refine va_calli (va_runS (As := As) (rest := rest) F (hM H.size) cw ⟨MPc_blind, fun U hU hW => ⟨rfl, by rw [hU], by rw [hU]; exact hP, KK.warm hW hK, hD.weaken (fun _ _ _ _ => trivial)⟩⟩ rfl hn hsz hst (lv_room hW) hdg hf) hS (fun q _ h => hFc q h) hFc (fun r u t H1 locs1 ht hvm hw hB hz1 hk1 hS1 => ?_)
  obtain ⟨hP1, hD1⟩ := hB
  rw [ht] at hP1
  exact kk r u H1 locs1 hw hP1 (hD1.weaken (fun k q _ h => hFc q.1 h)) hS1
/-- the same of a long -/
theorem cl_SL {S : Type} {post : Int64 → S → Prop} {W' : S → va_W} (F : CallFix p m c cc nL s args Ts own) (hK : KK D tys s) (hA : ∀ q : Nat, H0.size ≤ q → A q) (hP : va_P D vwCl ws H) (hD : va_D A ws) (hS : va_S A H0 H locs)
    (hM : CtL l y wd rm D tys As ws W' post) (cw : CallB R s args own index y bytes maxL ret wd rm 0 0 n ∧ (Cond.static y).before args s = true)
    (hn : As.length = n) (hsz : ls.size = nL) (hst : st = As.reverse ++ rest) (hW : (rest.map fun v => v.category).sum ≤ 8) (hf : cells ≤ R.cells ∧ slots ≤ R.slots) (hdg : decode cc pc = .ok (.invokestatic index, 3))
    (kk : ∀ (r : Int64) (u : S) (H1 : Heap) (locs1 : List Loc), post r u → va_P D vwCl (W' u) H1 → va_D A (W' u) → va_S A H0 H1 locs1 → W p l e R s m args below meth c H1 locs1 cells slots Q (F0 m (pc + 3) ls (.long r :: rest))) : W p l e R s m args below meth c H locs cells slots Q (F0 m pc ls st) := by
  have hFc := cl_free hA hD hS
  refine va_calll (va_runS (As := As) (rest := rest) F (hM H.size) cw ⟨MPc_blind, fun U hU hW => ⟨rfl, by rw [hU], by rw [hU]; exact hP, KK.warm hW hK, hD.weaken (fun _ _ _ _ => trivial)⟩⟩ rfl hn hsz hst (lv_room hW) hdg hf) hS (fun q _ h => hFc q h) hFc (fun r u t H1 locs1 ht hvm hw hB hz1 hk1 hS1 => ?_)
  obtain ⟨hP1, hD1⟩ := hB
  rw [ht] at hP1
  exact kk r u H1 locs1 hw hP1 (hD1.weaken (fun k q _ h => hFc q.1 h)) hS1
/-- a static call that reads the script -/
theorem cl_SX {b L : Nat} {xs : Nat → Int32} (F : CallFix p m c cc nL s args Ts own) (hA : ∀ q : Nat, H0.size ≤ q → A q) (hP : va_P D vwCl ws H) (hX : va_X b L xs s H0) (hbl : b < H0.size) (hbA : ¬ A b) (hS : va_S A H0 H locs)
    (hM : CtX l y wd rm b L xs As) (cw : CallB R s args own index y bytes maxL ret wd rm 0 0 n ∧ (Cond.static y).before args s = true)
    (hn : As.length = n) (hsz : ls.size = nL) (hst : st = As.reverse ++ rest) (hW : (rest.map fun v => v.category).sum ≤ 8) (hf : cells ≤ R.cells ∧ slots ≤ R.slots) (hdg : decode cc pc = .ok (.invokestatic index, 3))
    (kk : ∀ (r : Int32) (H1 : Heap) (locs1 : List Loc), va_P D vwCl ws H1 → va_S A H0 H1 locs1 → W p l e R s m args below meth c H1 locs1 cells slots Q (F0 m (pc + 3) ls (.int r :: rest))) : W p l e R s m args below meth c H locs cells slots Q (F0 m pc ls st) := by
  refine va_calli (va_runS (As := As) (rest := rest) F (hM H.size) cw ⟨MPx_blind, fun U hU hW => ⟨rfl, by rw [hU], Nat.lt_of_lt_of_le hbl hS.1, va_X.moved hW.alike (by rw [hU]; exact hX.kept (hS.2.1 b hbl hbA))⟩⟩ rfl hn hsz hst (lv_room hW) hdg hf) hS (fun q h1 h2 => absurd h1 (Nat.not_lt.mpr h2)) (fun q h => hA q (Nat.le_trans hS.1 h)) (fun r u t H1 locs1 ht hvm hw hB hz1 hk1 hS1 => ?_)
  exact kk r H1 locs1 (hP.kept (fun k q hq => hk1 q.1 ((hP k q hq).lt) (fun h => absurd ((hP k q hq).lt) (Nat.not_lt.mpr h)))) hS1
theorem n_lcmp0 {x : Int64} (k : W p l e R s m args below meth c H locs cells slots Q (F0 m pc ls (.int (nI 0) :: rest))) : W p l e R s m args below meth c H locs cells slots Q (F0 m pc ls (.int (lg_cmp x x) :: rest)) := by
  rw [show lg_cmp x x = nI 0 by simp [lg_cmp, nI]]
  exact k
end CALLS9
/-- the lowest bits of x, as a number below m -/
theorem up_ok (x : Int32) {m : Nat} (h : 0 < m) (h2 : m < 1000) : ∃ j, j < m ∧ (x &&& 2147483647) - (x &&& 2147483647) / nI m * nI m = nI j := by
  have hx : ¬ (x &&& 2147483647) < 0 := by
    rw [Int32.lt_iff_toInt_lt, Int32.toInt_zero]
    have : 0 ≤ (x &&& 2147483647).toBitVec.toInt := by
      rw [BitVec.toInt_eq_toNat_of_msb]
      · exact Int.natCast_nonneg _
      · rw [Int32.toBitVec_and, BitVec.msb_and]
        have : (2147483647 : Int32).toBitVec.msb = false := by decide
        rw [this, Bool.and_false]
    exact Int.not_lt.mpr this
  obtain ⟨n, hn, e⟩ := nI_of hx
  refine ⟨n % m, Nat.mod_lt _ h, ?_⟩
  rw [e]
  exact pk_rem (by omega) (by omega) (by omega)
/-- the map that is now may be told by any function that is the same below 667 -/
theorem XI_cong {now g past : Nat → Int32} {k on : Nat} {VV : Nat → Nat → Nat → Int32} (h : ∀ j, j < 667 → g j = now j) (hX : XI now past k on VV) : XI g past k on VV := by
  obtain ⟨h1, h2, h3, h4, h5⟩ := hX
  exact ⟨h1, h2, RepS_cong h h3, Inv_cong h h4, h5⟩
