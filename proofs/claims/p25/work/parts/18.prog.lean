/-! the class's reader of programs -/
section CALD
variable {p : Program} {l : Launch} {e : Env} {R : Room} {s : State} {m : MethodId} {args : Array Value} {below : List Frame} {meth : Method} {c : Code} {H : Heap} {locs : List Loc} {cells slots : Nat} {Q : State → Prop}
variable {cc : ByteArray} {pc : Nat} {ls : Array Slot} {rest : List Value} {D : va_G} {tys : List (ClassId × FieldType)} {ws : va_W}
theorem n_cald (hexec : p.tables.exec = Jvm.exec) (hb : c.code = cc) (hK : KK D tys s) (hP : va_P D vwCl ws H) (q0 t0 : Nat) {a : Nat} {cA : ClassId} {n : Nat} {f : Nat → Int32} (ha : ws[q0]? = some (a, .inl (cA, n, .inl f))) (ht : tys[t0]? = some (cA, .char)) (hn : n < 2 ^ 31) {i : Nat} (hin : i < n) (hdg : decode cc pc = .ok (.caload, 1))
    (kk : W p l e R s m args below meth c H locs cells slots Q (F0 m (pc + 1) ls (.int (f i) :: rest))) : W p l e R s m args below meth c H locs cells slots Q (F0 m pc ls (.int (nI i) :: .ref a :: rest)) := by
  refine va_cald hexec hb hK.1 hP q0 t0 ha ht (vp_in_nI hin hn) hdg ?_
  rw [nI_clamp (Nat.lt_trans hin hn)]
  exact kk
end CALD
/-- a reader: its letter, the letter's place, has it a from, the from, the number, its digits -/
abbrev PO (pp k lp hf fr nb dg : Nat) : Nat × va_E := (pp, .inr (1, [.int (nI k), .int (nI lp), .int (nI hf), .int (nI fr), .int (nI nb), .int (nI dg)]))
def st6 (a b c d e f : Nat) : Nat → Nat
  | 0 => a
  | 1 => b
  | 2 => c
  | 3 => d
  | 4 => e
  | _ => f
def ltN (k : Nat) : Bool := decide (k = 116 ∨ k = 102 ∨ k = 99 ∨ k = 114 ∨ k = 98 ∨ k = 100 ∨ k = 97)
theorem ltN_t {k : Nat} (h : ltN k = true) : k = 116 ∨ k = 102 ∨ k = 99 ∨ k = 114 ∨ k = 98 ∨ k = 100 ∨ k = 97 := of_decide_eq_true h
theorem ltB_N {k : Nat} (h : k < 1000) : ltB (nI k) = ltN k := by
  unfold ltB ltN
  have e : ∀ q, q < 1000 → decide (nI k = nI q) = decide (k = q) := fun q hq => by
    by_cases c : k = q
    · rw [c, decide_eq_true rfl, decide_eq_true rfl]
    · rw [decide_eq_false c, decide_eq_false (fun t => c ((nI_eq (by omega) (by omega)).mp t))]
  rw [e 116 (by decide), e 102 (by decide), e 99 (by decide), e 114 (by decide), e 98 (by decide), e 100 (by decide), e 97 (by decide)]
  rw [Bool.eq_iff_iff]
  simp only [Bool.or_eq_true, decide_eq_true_eq]
  omega
/-- may the sign c follow -/
def rcOk (k hf nb dg c : Nat) : Bool :=
  if k = 0 then ltN c else if 48 ≤ c ∧ c ≤ 57 then decide (k ≠ 97 ∧ dg ≠ 3 ∧ ¬ (dg = 1 ∧ nb = 0)) else if c = 45 then decide (k = 102 ∧ hf = 0 ∧ dg ≠ 0) else decide (c = 59 ∧ (0 < dg ∨ k = 116 ∨ k = 97))
/-- the reader behind it -/
def rcS (k lp hf fr nb dg c pl : Nat) : Nat → Nat :=
  if k = 0 then st6 c pl 0 fr 0 0 else if 48 ≤ c ∧ c ≤ 57 then st6 k lp hf fr (nb * 10 + (c - 48)) (dg + 1) else if c = 45 then st6 k lp 1 nb 0 0 else st6 k lp hf fr nb dg
/-- the reference's reading from a half-read command -/
def roC (g t : Nat → Int32) (tl lp k hf fr nb dg pl : Nat) : Bool × Nat × (Nat → Int32) :=
  if dg = 0 then (if hf = 1 then (if dgB t tl pl = true then roE g t tl lp k fr (nm t tl pl).1 (nm t tl pl).2 else (false, pl, g)) else roL g t tl lp k)
  else if hf = 1 then roE g t tl lp k fr (nmG t tl (3 - dg) nb pl).1 (nmG t tl (3 - dg) nb pl).2 else roF g t tl lp k (nmG t tl (3 - dg) nb pl).1 (nmG t tl (3 - dg) nb pl).2
theorem dgB_N {t : Nat → Int32} {tl a c : Nat} (h : sg t tl a = nI c) (hc : c < 1000) : dgB t tl a = decide (48 ≤ c ∧ c ≤ 57) := by
  by_cases q : 48 ≤ c ∧ c ≤ 57
  · rw [decide_eq_true q]
    unfold dgB
    rw [h]
    exact inB_of (by omega) q.1 q.2
  · rw [decide_eq_false q]
    cases e : dgB t tl a with
    | false => rfl
    | true =>
      obtain ⟨h1, h2, h3⟩ := dg_of e
      rw [h, nI_eq (by omega) (by omega)] at h1
      omega
theorem dg_N {t : Nat → Int32} {tl a c : Nat} (h : sg t tl a = nI c) (hc : c < 1000) : dg t tl a = c - 48 := by
  unfold dg
  rw [h, nI_clamp (by omega)]
/-- what holds of a half-read command -/
def RdI (k lp hf fr nb dg pl : Nat) : Prop := ltN k = true ∧ lp < pl ∧ hf ≤ 1 ∧ (hf = 1 → k = 102) ∧ dg ≤ 3 ∧ (k = 97 → dg = 0) ∧ (dg = 0 → nb = 0) ∧ (dg ≤ 1 → nb < 10) ∧ (dg ≤ 2 → nb < 100) ∧ nb < 1000 ∧ (hf = 1 → fr < 1000) ∧ (dg = 0 → hf = 0 → pl = lp + 1) ∧ (2 ≤ dg → 0 < nb)
theorem roC_no {g t : Nat → Int32} {tl lp k hf fr nb dg pl c : Nat} (hi : RdI k lp hf fr nb dg pl) (hs9 : sg t tl pl = nI c) (hc : c < 1000) (h : rcOk k hf nb dg c = false) : roC g t tl lp k hf fr nb dg pl = (false, pl, g) := by
  obtain ⟨i1, i2, i3, i4, i5, i6, i7, i8, i9, i10, i11, i12, i13⟩ := hi
  have hk := ltN_t i1
  have hdB := dgB_N hs9 hc
  have n59 : ¬ c = 59 → ¬ sg t tl pl = nI 59 := fun q e => q ((nI_eq (by omega) (by omega)).mp (hs9.symm.trans e))
  have n45 : ¬ c = 45 → ¬ sg t tl pl = nI 45 := fun q e => q ((nI_eq (by omega) (by omega)).mp (hs9.symm.trans e))
  unfold rcOk at h
  rw [if_neg (by omega)] at h
  unfold roC
  by_cases hD : 48 ≤ c ∧ c ≤ 57
  · rw [if_pos hD, decide_eq_false_iff_not] at h
    rw [decide_eq_true hD] at hdB
    by_cases h0 : dg = 0
    · have hk97 : k = 97 := by omega
      rw [if_pos h0, if_neg (by omega), roL_1 (Or.inl hk97), ← i12 h0 (by omega), roF_1 (Or.inl (by omega)), roE_1 (n59 (by omega))]
    · have hq : nmG t tl (3 - dg) nb pl = (nb, pl) := by
        by_cases h3 : dg = 3
        · rw [h3]; rfl
        · exact nmG_no (Or.inl (by omega))
      rw [if_neg h0, hq]
      by_cases hh : hf = 1
      · rw [if_pos hh, roE_1 (n59 (by omega))]
      · rw [if_neg hh, roF_1 (Or.inr (n45 (by omega))), roE_1 (n59 (by omega))]
  · rw [if_neg hD] at h
    rw [decide_eq_false hD] at hdB
    have hq : nmG t tl (3 - dg) nb pl = (nb, pl) := nmG_no (Or.inr hdB)
    have hnd : ¬ dgB t tl pl = true := by rw [hdB]; decide
    by_cases h45 : c = 45
    · rw [if_pos h45, decide_eq_false_iff_not] at h
      by_cases h0 : dg = 0
      · rw [if_pos h0]
        by_cases hh : hf = 1
        · rw [if_pos hh, if_neg hnd]
        · have e1 := i12 h0 (by omega)
          rw [if_neg hh]
          by_cases h97 : k = 97 ∨ k = 116
          · rw [roL_1 (h97.imp id (fun q => ⟨q, by rw [← e1]; exact hdB⟩)), ← e1, roF_1 (Or.inl (by omega)), roE_1 (n59 (by omega))]
          · rw [roL_3 (by omega) (by omega) (by rw [← e1]; exact hdB), ← e1]
      · rw [if_neg h0, hq]
        by_cases hh : hf = 1
        · rw [if_pos hh, roE_1 (n59 (by omega))]
        · rw [if_neg hh, roF_1 (Or.inl (by omega)), roE_1 (n59 (by omega))]
    · rw [if_neg h45, decide_eq_false_iff_not] at h
      by_cases h0 : dg = 0
      · rw [if_pos h0]
        by_cases hh : hf = 1
        · rw [if_pos hh, if_neg hnd]
        · have e1 := i12 h0 (by omega)
          rw [if_neg hh]
          by_cases h97 : k = 97 ∨ k = 116
          · rw [roL_1 (h97.imp id (fun q => ⟨q, by rw [← e1]; exact hdB⟩)), ← e1, roF_1 (Or.inl (by omega)), roE_1 (n59 (by omega))]
          · rw [roL_3 (by omega) (by omega) (by rw [← e1]; exact hdB), ← e1]
      · rw [if_neg h0, hq]
        by_cases hh : hf = 1
        · rw [if_pos hh, roE_1 (n59 (by omega))]
        · rw [if_neg hh, roF_1 (Or.inr (n45 h45)), roE_1 (n59 (by omega))]
theorem roC_dg {g t : Nat → Int32} {tl lp k hf fr nb dg pl c : Nat} (hi : RdI k lp hf fr nb dg pl) (hs9 : sg t tl pl = nI c) (hD : 48 ≤ c ∧ c ≤ 57) (h : rcOk k hf nb dg c = true) : RdI k lp hf fr (nb * 10 + (c - 48)) (dg + 1) (pl + 1) ∧ roC g t tl lp k hf fr nb dg pl = roC g t tl lp k hf fr (nb * 10 + (c - 48)) (dg + 1) (pl + 1) := by
  obtain ⟨i1, i2, i3, i4, i5, i6, i7, i8, i9, i10, i11, i12, i13⟩ := hi
  have hk := ltN_t i1
  have hdB := dgB_N hs9 (by omega)
  have hdg := dg_N hs9 (by omega)
  rw [decide_eq_true hD] at hdB
  unfold rcOk at h
  rw [if_neg (by omega), if_pos hD, decide_eq_true_iff] at h
  refine ⟨⟨i1, by omega, i3, i4, by omega, by omega, by omega, by omega, by omega, by omega, i11, by omega, by omega⟩, ?_⟩
  unfold roC
  rw [if_neg (show ¬ dg + 1 = 0 by omega)]
  by_cases h0 : dg = 0
  · have e0 : nmG t tl (3 - (dg + 1)) (nb * 10 + (c - 48)) (pl + 1) = nm t tl pl := by
      unfold nm
      rw [hdg, h0, i7 h0, show 0 * 10 + (c - 48) = c - 48 by omega]
    rw [if_pos h0, e0]
    by_cases hh : hf = 1
    · rw [if_pos hh, if_pos hdB, if_pos hh]
    · have e1 := i12 h0 (by omega)
      rw [if_neg hh, if_neg hh, roL_2 h.1 (by rw [← e1]; exact hdB), ← e1]
  · have e0 : nmG t tl (3 - dg) nb pl = nmG t tl (3 - (dg + 1)) (nb * 10 + (c - 48)) (pl + 1) := by
      rw [show 3 - dg = (3 - (dg + 1)) + 1 by omega, nmG, if_pos ⟨by omega, hdB⟩, hdg, Nat.mul_comm 10 nb]
    rw [if_neg h0, e0]
theorem roC_ds {g t : Nat → Int32} {tl lp k hf fr nb dg pl : Nat} (hi : RdI k lp hf fr nb dg pl) (hs9 : sg t tl pl = nI 45) (h : rcOk k hf nb dg 45 = true) : RdI k lp 1 nb 0 0 (pl + 1) ∧ roC g t tl lp k hf fr nb dg pl = roC g t tl lp k 1 nb 0 0 (pl + 1) := by
  obtain ⟨i1, i2, i3, i4, i5, i6, i7, i8, i9, i10, i11, i12, i13⟩ := hi
  have hk := ltN_t i1
  have hdB := dgB_N hs9 (by omega)
  rw [decide_eq_false (by omega)] at hdB
  have hq : nmG t tl (3 - dg) nb pl = (nb, pl) := nmG_no (Or.inr hdB)
  unfold rcOk at h
  rw [if_neg (by omega), if_neg (by omega), if_pos rfl, decide_eq_true_iff] at h
  refine ⟨⟨i1, by omega, by omega, by omega, by omega, by omega, by omega, by omega, by omega, by omega, by omega, by omega, by omega⟩, ?_⟩
  unfold roC
  rw [if_neg h.2.2, if_neg (by omega), if_pos rfl, if_pos rfl, hq]
  show roF g t tl lp k nb pl = _
  cases h2 : dgB t tl (pl + 1) with
  | true => rw [roF_2 h.1 hs9 h2]; rfl
  | false => rw [roF_3 h.1 hs9 h2]; rfl
/-- what a command is done with -/
def oneN (k hf fr nb dg : Nat) : Nat := if k = 116 then (if dg = 0 then 1 else nb) else if k = 102 ∧ hf = 1 then fr else nb
theorem roC_end {g t : Nat → Int32} {tl lp k hf fr nb dg pl : Nat} (hi : RdI k lp hf fr nb dg pl) (hs9 : sg t tl pl = nI 59) (h : rcOk k hf nb dg 59 = true) : roC g t tl lp k hf fr nb dg pl = if (doA g k (nI (oneN k hf fr nb dg)) (nI nb)).1 < 0 then (false, lp, (doA g k (nI (oneN k hf fr nb dg)) (nI nb)).2) else (true, pl + 1, (doA g k (nI (oneN k hf fr nb dg)) (nI nb)).2) := by
  obtain ⟨i1, i2, i3, i4, i5, i6, i7, i8, i9, i10, i11, i12, i13⟩ := hi
  have hk := ltN_t i1
  have hdB := dgB_N hs9 (by omega)
  rw [decide_eq_false (by omega)] at hdB
  have hq : nmG t tl (3 - dg) nb pl = (nb, pl) := nmG_no (Or.inr hdB)
  have n45 : ¬ sg t tl pl = nI 45 := fun e => absurd (hs9.symm.trans e) (by decide)
  unfold rcOk at h
  rw [if_neg (by omega), if_neg (by omega), if_neg (by omega), decide_eq_true_iff] at h
  have hE : ∀ one other, roE g t tl lp k one other pl = if (doA g k (nI one) (nI other)).1 < 0 then (false, lp, (doA g k (nI one) (nI other)).2) else (true, pl + 1, (doA g k (nI one) (nI other)).2) := fun one other => if_pos hs9
  unfold roC
  by_cases h0 : dg = 0
  · have e1 := i12 h0 (by omega)
    have hdo : doA g k (nI 1) (nI 1) = doA g k (nI (oneN k hf fr nb dg)) (nI nb) := by
      unfold oneN
      rcases (show k = 116 ∨ k = 97 by omega) with q | q
      · unfold doA
        rw [if_pos q, if_pos q, if_pos q, if_pos h0]
      · unfold doA
        rw [if_neg (by omega), if_neg (by omega), if_neg (by omega), if_neg (by omega), if_neg (by omega), if_neg (by omega), if_neg (by omega), if_neg (by omega), if_neg (by omega), if_neg (by omega), if_neg (by omega), if_neg (by omega)]
    rw [if_pos h0, if_neg (by omega), roL_1 (by rcases (show k = 97 ∨ k = 116 by omega) with q | q; exact Or.inl q; exact Or.inr ⟨q, by rw [← e1]; exact hdB⟩), ← e1, roF_1 (Or.inr n45), hE, hdo]
  · rw [if_neg h0, hq]
    by_cases hh : hf = 1
    · have e1 : oneN k hf fr nb dg = fr := by unfold oneN; rw [if_neg (by omega), if_pos (by omega)]
      rw [if_pos hh, hE, e1]
    · have e1 : oneN k hf fr nb dg = nb := by
        unfold oneN
        by_cases q : k = 116
        · rw [if_pos q, if_neg h0]
        · rw [if_neg q, if_neg (by omega)]
      rw [if_neg hh, roF_1 (Or.inr n45), hE, e1]
/-- how far the class is, and what the reference's run is worth from there -/
def Cf (f t : Nat → Int32) (tl : Nat) (k lp hf fr nb dg pl n : Nat) (g : Nat → Int32) : Prop :=
  (k = 0 ∧ n ≤ pl ∧ ∃ j, tl - pl ≤ j ∧ rnA f t tl = rnG t tl j pl n g) ∨ (RdI k lp hf fr nb dg pl ∧ n ≤ lp ∧ lp < tl ∧ ∃ j, tl - lp ≤ j ∧ rnA f t tl = rnG t tl j lp n g ∧ ro g t tl lp = roC g t tl lp k hf fr nb dg pl)
theorem Cf_k {f t g : Nat → Int32} {tl k lp hf fr nb dg pl n : Nat} (h : Cf f t tl k lp hf fr nb dg pl n g) : k < 1000 ∧ n ≤ pl ∧ (¬ k = 0 → hf ≤ 1 ∧ nb < 1000 ∧ dg < 1000 ∧ lp < pl) := by
  rcases h with ⟨h, h2, -⟩ | ⟨⟨i1, i2, i3, i4, i5, i6, i7, i8, i9, i10, i11, i12, i13⟩, h2, -⟩
  · exact ⟨by omega, h2, fun q => absurd h q⟩
  · have := ltN_t i1
    exact ⟨by omega, by omega, fun _ => ⟨i3, i10, by omega, i2⟩⟩
theorem Cf_0 {f t : Nat → Int32} {tl lp hf fr nb dg : Nat} (h : tl ≤ 80) : Cf f t tl 0 lp hf fr nb dg 0 0 f := Or.inl ⟨rfl, Nat.le_refl _, 81, by omega, rfl⟩
theorem Cf_no {f t g : Nat → Int32} {tl k lp hf fr nb dg pl n c : Nat} (h : Cf f t tl k lp hf fr nb dg pl n g) (hp9 : pl < tl) (hs9 : sg t tl pl = nI c) (hc : c < 1000) (ho : rcOk k hf nb dg c = false) : rnA f t tl = ((-1000) - nI pl, g) := by
  rcases h with ⟨h, h2, j, h3, h4⟩ | ⟨hi, h2, h0, j, h3, h4, h5⟩
  · have e : ro g t tl pl = (false, pl, g) := ro_n (by rw [hs9, ltB_N hc]; unfold rcOk at ho; rw [if_pos h] at ho; exact ho)
    rw [h4, rnG_no hp9 h3 (by rw [e]), e]
  · have e := h5.trans (roC_no hi hs9 hc ho)
    rw [h4, rnG_no h0 h3 (by rw [e]), e]
theorem Cf_done {f t g : Nat → Int32} {tl k lp hf fr nb dg pl n : Nat} (h : Cf f t tl k lp hf fr nb dg pl n g) (hp9 : pl = tl) : rnA f t tl = if k = 0 then (nI n, g) else ((-1000) - nI tl, g) := by
  rcases h with ⟨h, h2, j, h3, h4⟩ | ⟨hi, h2, h0, j, h3, h4, h5⟩
  · rw [if_pos h, h4, rnG_end (by omega)]
  · have hk := ltN_t hi.1
    have e := h5.trans (roC_no (g := g) (t := t) (tl := tl) hi (c := 0) (by unfold sg; rw [if_neg (by omega)]) (by decide) (by unfold rcOk; rw [if_neg (by omega), if_neg (by omega), if_neg (by omega)]; exact decide_eq_false (by omega)))
    rw [if_neg (by omega), h4, rnG_no h0 h3 (by rw [e]), e, hp9]
theorem Cf_step {f t g : Nat → Int32} {tl k lp hf fr nb dg pl n c : Nat} (h : Cf f t tl k lp hf fr nb dg pl n g) (hp9 : pl < tl) (hs9 : sg t tl pl = nI c) (hc : c < 1000) (ho : rcOk k hf nb dg c = true) (hn9 : ¬ c = 59) {u : Nat → Nat} (hu : u = rcS k lp hf fr nb dg c pl) : Cf f t tl (u 0) (u 1) (u 2) (u 3) (u 4) (u 5) (pl + 1) n g := by
  unfold rcS at hu
  rcases h with ⟨h, h2, j, h3, h4⟩ | ⟨hi, h2, h0, j, h3, h4, h5⟩
  · rw [if_pos h] at hu
    subst hu
    have hl : ltN c = true := by unfold rcOk at ho; rw [if_pos h] at ho; exact ho
    have hk := ltN_t hl
    refine Or.inr ⟨⟨hl, Nat.lt_succ_self _, Nat.zero_le _, fun q => absurd (show (0 : Nat) = 1 from q) (by decide), Nat.zero_le _, fun _ => rfl, fun _ => rfl, fun _ => (by decide : 0 < 10), fun _ => (by decide : 0 < 100), (by decide : 0 < 1000), fun q => absurd (show (0 : Nat) = 1 from q) (by decide), fun _ _ => rfl, fun q => absurd (show 2 ≤ 0 from q) (by decide)⟩, h2, hp9, j, h3, h4, ?_⟩
    show ro g t tl pl = roL g t tl pl c
    exact ro_k (by rw [hs9, ltB_N hc]; exact hl) hs9 (by omega)
  · have hk := ltN_t hi.1
    rw [if_neg (by omega)] at hu
    by_cases hD : 48 ≤ c ∧ c ≤ 57
    · rw [if_pos hD] at hu
      subst hu
      obtain ⟨g1, g2⟩ := roC_dg (g := g) (t := t) (tl := tl) hi hs9 hD ho
      exact Or.inr ⟨g1, h2, h0, j, h3, h4, h5.trans g2⟩
    · rw [if_neg hD] at hu
      by_cases hM : c = 45
      · rw [if_pos hM] at hu
        subst hM
        subst hu
        obtain ⟨g1, g2⟩ := roC_ds (g := g) (t := t) (tl := tl) hi hs9 ho
        exact Or.inr ⟨g1, h2, h0, j, h3, h4, h5.trans g2⟩
      · unfold rcOk at ho
        rw [if_neg (by omega), if_neg hD, if_neg hM, decide_eq_true_iff] at ho
        omega
theorem Cf_end {f t g : Nat → Int32} {tl k lp hf fr nb dg pl n : Nat} (h : Cf f t tl k lp hf fr nb dg pl n g) (hp9 : pl < tl) (hs9 : sg t tl pl = nI 59) (ho : rcOk k hf nb dg 59 = true) : ltN k = true ∧ rcS k lp hf fr nb dg 59 pl = st6 k lp hf fr nb dg ∧ hf ≤ 1 ∧ dg < 1000 ∧ lp < 1000 + pl ∧ ((doA g k (nI (oneN k hf fr nb dg)) (nI nb)).1 < 0 → rnA f t tl = ((-1000) - nI lp, (doA g k (nI (oneN k hf fr nb dg)) (nI nb)).2)) ∧ (¬ (doA g k (nI (oneN k hf fr nb dg)) (nI nb)).1 < 0 → Cf f t tl 0 lp hf fr nb dg (pl + 1) (n + 1) (doA g k (nI (oneN k hf fr nb dg)) (nI nb)).2) := by
  rcases h with ⟨h, h2, j, h3, h4⟩ | ⟨hi, h2, h0, j, h3, h4, h5⟩
  · unfold rcOk at ho
    rw [if_pos h] at ho
    exact absurd ho (by decide)
  · have e := h5.trans (roC_end hi hs9 ho)
    obtain ⟨i1, i2, i3, i4, i5, i6, i7, i8, i9, i10, i11, i12, i13⟩ := hi
    have hk := ltN_t i1
    refine ⟨i1, ?_, i3, by omega, by omega, fun q => ?_, fun q => ?_⟩
    · unfold rcS
      rw [if_neg (by omega), if_neg (by omega), if_neg (by omega)]
    · rw [if_pos q] at e
      rw [h4, rnG_no h0 h3 (by rw [e]), e]
    · rw [if_neg q] at e
      refine Or.inl ⟨rfl, by omega, j - 1, by omega, ?_⟩
      rw [h4, rnG_go h0 h3 (by rw [e]), e]
theorem nI_sgN {c : Nat} (h : c < 1000) {v : Int32} : v = nI c → ¬ v < 0 := fun q => by rw [q]; exact fun t => absurd (nI_pos' (show c < 2 ^ 31 by omega)) (Int32.not_le.mpr t)
theorem doA_t {f : Nat → Int32} {x y : Int32} : doA f 116 x y = tmA f x := by unfold doA; rw [if_pos rfl]
theorem doA_f {f : Nat → Int32} {x y : Int32} : doA f 102 x y = gbA f x y := by unfold doA; rw [if_neg (by decide), if_pos rfl]
theorem doA_c {f : Nat → Int32} {x y : Int32} : doA f 99 x y = clA f x := by unfold doA; rw [if_neg (by decide), if_neg (by decide), if_pos rfl]
theorem doA_r {f : Nat → Int32} {x y : Int32} : doA f 114 x y = rsA f x := by unfold doA; rw [if_neg (by decide), if_neg (by decide), if_neg (by decide), if_pos rfl]
theorem doA_b {f : Nat → Int32} {x y : Int32} : doA f 98 x y = tiA f x := by unfold doA; rw [if_neg (by decide), if_neg (by decide), if_neg (by decide), if_neg (by decide), if_pos rfl]
theorem doA_d {f : Nat → Int32} {x y : Int32} : doA f 100 x y = dmA f x := by unfold doA; rw [if_neg (by decide), if_neg (by decide), if_neg (by decide), if_neg (by decide), if_neg (by decide), if_pos rfl]
theorem doA_a {f : Nat → Int32} {x y : Int32} : doA f 97 x y = rpA f := by unfold doA; rw [if_neg (by decide), if_neg (by decide), if_neg (by decide), if_neg (by decide), if_neg (by decide), if_neg (by decide)]
theorem oneN_t {hf fr nb dg : Nat} : oneN 116 hf fr nb dg = if dg = 0 then 1 else nb := if_pos rfl
theorem oneN_f {hf fr nb dg : Nat} : oneN 102 hf fr nb dg = if hf = 1 then fr else nb := by
  unfold oneN
  rw [if_neg (by decide)]
  by_cases q : hf = 1
  · rw [if_pos ⟨rfl, q⟩, if_pos q]
  · rw [if_neg (fun t => q t.2), if_neg q]
theorem oneN_o {k hf fr nb dg : Nat} (h : ¬ k = 116) (h2 : ¬ k = 102) : oneN k hf fr nb dg = nb := by
  unfold oneN
  rw [if_neg h, if_neg (fun q => h2 q.1)]
abbrev TXT (tt : Nat) (cC : ClassId) (tex : Nat → Int32) : Nat × va_E := (tt, .inl (cC, 80, .inl tex))
set_option maxHeartbeats 4000000 in
set_option maxRecDepth 100000 in
theorem c_X1_readLetter {l : Launch} {D : va_G} {cI cG cC cR : ClassId} {pp k lp hf fr nb dg : Nat} {ch pl : Nat} (hc : ch < 1000) : CtI l yX1_readLetter wsX1_readLetter { frames := 0, cells := 0, slots := 0, locals := 0 } D (TY cI cG cC cR) [.ref pp, .int (nI ch), .int (nI pl)] ([PO pp k lp hf fr nb dg]) (fun (u : Nat → Nat) => [PO pp (u 0) (u 1) (u 2) (u 3) (u 4) (u 5)]) (fun (r : Int32) (u : Nat → Nat) => r = bI (ltN ch) ∧ (ltN ch = true → u = st6 ch pl 0 fr 0 0)) := by
  refine CtI.of (cc := cX1_readLetter) (maxL := 3) (ty := .boolean) (by decide) rfl (Nat.le_of_ble_eq_true rfl) ?_
  intro P0 e0 s0 m0 a0 b0 t0 c0 A0 Q0 ls F hK hP hD hA RETN hl
  obtain ⟨hx, hb, hml, hown, hts⟩ := id F
  have hS : va_S A0 s0.heap s0.heap [] := va_S.rf
  have hl : lv_has ls 3 [(0, .ref pp), (1, .int (nI ch)), (2, .int (nI pl))] := hl
  have lk11 := hts (.fieldLink RX1 11 "SlotMaps$Program" "letter" "C") (by decide +kernel)
  have lk23 := hts (.fieldLink RX1 23 "SlotMaps$Program" "letterPlace" "I") (by decide +kernel)
  have lk41 := hts (.fieldLink RX1 41 "SlotMaps$Program" "hasFrom" "Z") (by decide +kernel)
  have lk45 := hts (.fieldLink RX1 45 "SlotMaps$Program" "number" "I") (by decide +kernel)
  have lk48 := hts (.fieldLink RX1 48 "SlotMaps$Program" "digits" "I") (by decide +kernel)
  have hI1 : ∀ w ∈ u_ws RX1 TX1 6, w ∈ wsX1_readLetter := by decide +kernel
  refine lv_iload_n hx hb dX1_readLetter_0 rfl (lv_at hl 1 rfl) ?_
  rcases (show (ch < 97 ∨ 116 < ch) ∨ (97 ≤ ch ∧ ch ≤ 116) by omega) with hsw | hsw
  · skip
    refine lv_tableOut (tgt := 123) hx hb dX1_readLetter_1 (by rw [nI_toInt (by omega)]; omega) (by decide) ?_
    refine lv_iconst (v := (nI 0)) hx hb dX1_readLetter_123 (by decide) ?_
    exact RETN _ _ (nI 0) (st6 k lp hf fr nb dg) _ _ dX1_readLetter_124 (rfl) (by first | exact ⟨rfl, fun h => absurd h (by decide)⟩ | (have e : ltN ch = false := decide_eq_false (by omega); rw [e]; exact ⟨rfl, fun h => absurd h (by decide)⟩)) hP hD hS
  · skip
    rcases (show ch = 97 ∨ ch = 98 ∨ ch = 99 ∨ ch = 100 ∨ ch = 101 ∨ ch = 102 ∨ ch = 103 ∨ ch = 104 ∨ ch = 105 ∨ ch = 106 ∨ ch = 107 ∨ ch = 108 ∨ ch = 109 ∨ ch = 110 ∨ ch = 111 ∨ ch = 112 ∨ ch = 113 ∨ ch = 114 ∨ ch = 115 ∨ ch = 116 by omega) with rfl | rfl | rfl | rfl | rfl | rfl | rfl | rfl | rfl | rfl | rfl | rfl | rfl | rfl | rfl | rfl | rfl | rfl | rfl | rfl
    · skip
      refine lv_tableIn (off := 95) (tgt := 96) hx hb dX1_readLetter_1 (by decide) (by decide) rfl (by decide) ?_
      refine lv_aload_n hx hb dX1_readLetter_96 rfl (lv_at hl 0 rfl) ?_
      refine lv_iload_n hx hb dX1_readLetter_97 rfl (lv_at hl 1 rfl) ?_
      refine va_put (D := D) (ci := 1) (v := .int (nI 97)) (ty := .char) (C := RX1) (T := TX1) (N := 6) hx hb hts hI1 tyX1 tyX1_ok nmX1 hown hK.1 hP hD hS 0 rfl rfl 0 (by decide) lk11 (fun _ h9 => h9) rfl (by decide +kernel) rfl rfl (Nat.le_of_ble_eq_true rfl) dX1_readLetter_98 (fun H locs hP hD hS => ?_)
      have hP : va_P D vwCl ([PO pp 97 lp hf fr nb dg]) H := hP
      have hD : va_D A0 ([PO pp 97 lp hf fr nb dg]) := hD
      refine lv_aload_n hx hb dX1_readLetter_101 rfl (lv_at hl 0 rfl) ?_
      refine lv_iload_n hx hb dX1_readLetter_102 rfl (lv_at hl 2 rfl) ?_
      refine va_put (D := D) (ci := 1) (v := .int (nI pl)) (ty := .int) (C := RX1) (T := TX1) (N := 6) hx hb hts hI1 tyX1 tyX1_ok nmX1 hown hK.1 hP hD hS 0 rfl rfl 1 (by decide) lk23 (fun _ h9 => h9) rfl (by decide +kernel) rfl rfl (Nat.le_of_ble_eq_true rfl) dX1_readLetter_103 (fun H locs hP hD hS => ?_)
      have hP : va_P D vwCl ([PO pp 97 pl hf fr nb dg]) H := hP
      have hD : va_D A0 ([PO pp 97 pl hf fr nb dg]) := hD
      refine lv_aload_n hx hb dX1_readLetter_106 rfl (lv_at hl 0 rfl) ?_
      refine lv_iconst (v := (nI 0)) hx hb dX1_readLetter_107 (by decide) ?_
      refine va_put (D := D) (ci := 1) (v := .int (nI 0)) (ty := .boolean) (C := RX1) (T := TX1) (N := 6) hx hb hts hI1 tyX1 tyX1_ok nmX1 hown hK.1 hP hD hS 0 rfl rfl 2 (by decide) lk41 (fun _ h9 => h9) rfl (by decide +kernel) rfl rfl (Nat.le_of_ble_eq_true rfl) dX1_readLetter_108 (fun H locs hP hD hS => ?_)
      have hP : va_P D vwCl ([PO pp 97 pl 0 fr nb dg]) H := hP
      have hD : va_D A0 ([PO pp 97 pl 0 fr nb dg]) := hD
      refine lv_aload_n hx hb dX1_readLetter_111 rfl (lv_at hl 0 rfl) ?_
      refine lv_iconst (v := (nI 0)) hx hb dX1_readLetter_112 (by decide) ?_
      refine va_put (D := D) (ci := 1) (v := .int (nI 0)) (ty := .int) (C := RX1) (T := TX1) (N := 6) hx hb hts hI1 tyX1 tyX1_ok nmX1 hown hK.1 hP hD hS 0 rfl rfl 4 (by decide) lk45 (fun _ h9 => h9) rfl (by decide +kernel) rfl rfl (Nat.le_of_ble_eq_true rfl) dX1_readLetter_113 (fun H locs hP hD hS => ?_)
      have hP : va_P D vwCl ([PO pp 97 pl 0 fr 0 dg]) H := hP
      have hD : va_D A0 ([PO pp 97 pl 0 fr 0 dg]) := hD
      refine lv_aload_n hx hb dX1_readLetter_116 rfl (lv_at hl 0 rfl) ?_
      refine lv_iconst (v := (nI 0)) hx hb dX1_readLetter_117 (by decide) ?_
      refine va_put (D := D) (ci := 1) (v := .int (nI 0)) (ty := .int) (C := RX1) (T := TX1) (N := 6) hx hb hts hI1 tyX1 tyX1_ok nmX1 hown hK.1 hP hD hS 0 rfl rfl 5 (by decide) lk48 (fun _ h9 => h9) rfl (by decide +kernel) rfl rfl (Nat.le_of_ble_eq_true rfl) dX1_readLetter_118 (fun H locs hP hD hS => ?_)
      have hP : va_P D vwCl ([PO pp 97 pl 0 fr 0 0]) H := hP
      have hD : va_D A0 ([PO pp 97 pl 0 fr 0 0]) := hD
      refine lv_iconst (v := (nI 1)) hx hb dX1_readLetter_121 (by decide) ?_
      exact RETN _ _ (nI 1) (st6 97 pl 0 fr 0 0) _ _ dX1_readLetter_122 (rfl) (⟨rfl, fun _ => rfl⟩) hP hD hS
    · skip
      refine lv_tableIn (off := 95) (tgt := 96) hx hb dX1_readLetter_1 (by decide) (by decide) rfl (by decide) ?_
      refine lv_aload_n hx hb dX1_readLetter_96 rfl (lv_at hl 0 rfl) ?_
      refine lv_iload_n hx hb dX1_readLetter_97 rfl (lv_at hl 1 rfl) ?_
      refine va_put (D := D) (ci := 1) (v := .int (nI 98)) (ty := .char) (C := RX1) (T := TX1) (N := 6) hx hb hts hI1 tyX1 tyX1_ok nmX1 hown hK.1 hP hD hS 0 rfl rfl 0 (by decide) lk11 (fun _ h9 => h9) rfl (by decide +kernel) rfl rfl (Nat.le_of_ble_eq_true rfl) dX1_readLetter_98 (fun H locs hP hD hS => ?_)
      have hP : va_P D vwCl ([PO pp 98 lp hf fr nb dg]) H := hP
      have hD : va_D A0 ([PO pp 98 lp hf fr nb dg]) := hD
      refine lv_aload_n hx hb dX1_readLetter_101 rfl (lv_at hl 0 rfl) ?_
      refine lv_iload_n hx hb dX1_readLetter_102 rfl (lv_at hl 2 rfl) ?_
      refine va_put (D := D) (ci := 1) (v := .int (nI pl)) (ty := .int) (C := RX1) (T := TX1) (N := 6) hx hb hts hI1 tyX1 tyX1_ok nmX1 hown hK.1 hP hD hS 0 rfl rfl 1 (by decide) lk23 (fun _ h9 => h9) rfl (by decide +kernel) rfl rfl (Nat.le_of_ble_eq_true rfl) dX1_readLetter_103 (fun H locs hP hD hS => ?_)
      have hP : va_P D vwCl ([PO pp 98 pl hf fr nb dg]) H := hP
      have hD : va_D A0 ([PO pp 98 pl hf fr nb dg]) := hD
      refine lv_aload_n hx hb dX1_readLetter_106 rfl (lv_at hl 0 rfl) ?_
      refine lv_iconst (v := (nI 0)) hx hb dX1_readLetter_107 (by decide) ?_
      refine va_put (D := D) (ci := 1) (v := .int (nI 0)) (ty := .boolean) (C := RX1) (T := TX1) (N := 6) hx hb hts hI1 tyX1 tyX1_ok nmX1 hown hK.1 hP hD hS 0 rfl rfl 2 (by decide) lk41 (fun _ h9 => h9) rfl (by decide +kernel) rfl rfl (Nat.le_of_ble_eq_true rfl) dX1_readLetter_108 (fun H locs hP hD hS => ?_)
      have hP : va_P D vwCl ([PO pp 98 pl 0 fr nb dg]) H := hP
      have hD : va_D A0 ([PO pp 98 pl 0 fr nb dg]) := hD
      refine lv_aload_n hx hb dX1_readLetter_111 rfl (lv_at hl 0 rfl) ?_
      refine lv_iconst (v := (nI 0)) hx hb dX1_readLetter_112 (by decide) ?_
      refine va_put (D := D) (ci := 1) (v := .int (nI 0)) (ty := .int) (C := RX1) (T := TX1) (N := 6) hx hb hts hI1 tyX1 tyX1_ok nmX1 hown hK.1 hP hD hS 0 rfl rfl 4 (by decide) lk45 (fun _ h9 => h9) rfl (by decide +kernel) rfl rfl (Nat.le_of_ble_eq_true rfl) dX1_readLetter_113 (fun H locs hP hD hS => ?_)
      have hP : va_P D vwCl ([PO pp 98 pl 0 fr 0 dg]) H := hP
      have hD : va_D A0 ([PO pp 98 pl 0 fr 0 dg]) := hD
      refine lv_aload_n hx hb dX1_readLetter_116 rfl (lv_at hl 0 rfl) ?_
      refine lv_iconst (v := (nI 0)) hx hb dX1_readLetter_117 (by decide) ?_
      refine va_put (D := D) (ci := 1) (v := .int (nI 0)) (ty := .int) (C := RX1) (T := TX1) (N := 6) hx hb hts hI1 tyX1 tyX1_ok nmX1 hown hK.1 hP hD hS 0 rfl rfl 5 (by decide) lk48 (fun _ h9 => h9) rfl (by decide +kernel) rfl rfl (Nat.le_of_ble_eq_true rfl) dX1_readLetter_118 (fun H locs hP hD hS => ?_)
      have hP : va_P D vwCl ([PO pp 98 pl 0 fr 0 0]) H := hP
      have hD : va_D A0 ([PO pp 98 pl 0 fr 0 0]) := hD
      refine lv_iconst (v := (nI 1)) hx hb dX1_readLetter_121 (by decide) ?_
      exact RETN _ _ (nI 1) (st6 98 pl 0 fr 0 0) _ _ dX1_readLetter_122 (rfl) (⟨rfl, fun _ => rfl⟩) hP hD hS
    · skip
      refine lv_tableIn (off := 95) (tgt := 96) hx hb dX1_readLetter_1 (by decide) (by decide) rfl (by decide) ?_
      refine lv_aload_n hx hb dX1_readLetter_96 rfl (lv_at hl 0 rfl) ?_
      refine lv_iload_n hx hb dX1_readLetter_97 rfl (lv_at hl 1 rfl) ?_
      refine va_put (D := D) (ci := 1) (v := .int (nI 99)) (ty := .char) (C := RX1) (T := TX1) (N := 6) hx hb hts hI1 tyX1 tyX1_ok nmX1 hown hK.1 hP hD hS 0 rfl rfl 0 (by decide) lk11 (fun _ h9 => h9) rfl (by decide +kernel) rfl rfl (Nat.le_of_ble_eq_true rfl) dX1_readLetter_98 (fun H locs hP hD hS => ?_)
      have hP : va_P D vwCl ([PO pp 99 lp hf fr nb dg]) H := hP
      have hD : va_D A0 ([PO pp 99 lp hf fr nb dg]) := hD
      refine lv_aload_n hx hb dX1_readLetter_101 rfl (lv_at hl 0 rfl) ?_
      refine lv_iload_n hx hb dX1_readLetter_102 rfl (lv_at hl 2 rfl) ?_
      refine va_put (D := D) (ci := 1) (v := .int (nI pl)) (ty := .int) (C := RX1) (T := TX1) (N := 6) hx hb hts hI1 tyX1 tyX1_ok nmX1 hown hK.1 hP hD hS 0 rfl rfl 1 (by decide) lk23 (fun _ h9 => h9) rfl (by decide +kernel) rfl rfl (Nat.le_of_ble_eq_true rfl) dX1_readLetter_103 (fun H locs hP hD hS => ?_)
      have hP : va_P D vwCl ([PO pp 99 pl hf fr nb dg]) H := hP
      have hD : va_D A0 ([PO pp 99 pl hf fr nb dg]) := hD
      refine lv_aload_n hx hb dX1_readLetter_106 rfl (lv_at hl 0 rfl) ?_
      refine lv_iconst (v := (nI 0)) hx hb dX1_readLetter_107 (by decide) ?_
      refine va_put (D := D) (ci := 1) (v := .int (nI 0)) (ty := .boolean) (C := RX1) (T := TX1) (N := 6) hx hb hts hI1 tyX1 tyX1_ok nmX1 hown hK.1 hP hD hS 0 rfl rfl 2 (by decide) lk41 (fun _ h9 => h9) rfl (by decide +kernel) rfl rfl (Nat.le_of_ble_eq_true rfl) dX1_readLetter_108 (fun H locs hP hD hS => ?_)
      have hP : va_P D vwCl ([PO pp 99 pl 0 fr nb dg]) H := hP
      have hD : va_D A0 ([PO pp 99 pl 0 fr nb dg]) := hD
      refine lv_aload_n hx hb dX1_readLetter_111 rfl (lv_at hl 0 rfl) ?_
      refine lv_iconst (v := (nI 0)) hx hb dX1_readLetter_112 (by decide) ?_
      refine va_put (D := D) (ci := 1) (v := .int (nI 0)) (ty := .int) (C := RX1) (T := TX1) (N := 6) hx hb hts hI1 tyX1 tyX1_ok nmX1 hown hK.1 hP hD hS 0 rfl rfl 4 (by decide) lk45 (fun _ h9 => h9) rfl (by decide +kernel) rfl rfl (Nat.le_of_ble_eq_true rfl) dX1_readLetter_113 (fun H locs hP hD hS => ?_)
      have hP : va_P D vwCl ([PO pp 99 pl 0 fr 0 dg]) H := hP
      have hD : va_D A0 ([PO pp 99 pl 0 fr 0 dg]) := hD
      refine lv_aload_n hx hb dX1_readLetter_116 rfl (lv_at hl 0 rfl) ?_
      refine lv_iconst (v := (nI 0)) hx hb dX1_readLetter_117 (by decide) ?_
      refine va_put (D := D) (ci := 1) (v := .int (nI 0)) (ty := .int) (C := RX1) (T := TX1) (N := 6) hx hb hts hI1 tyX1 tyX1_ok nmX1 hown hK.1 hP hD hS 0 rfl rfl 5 (by decide) lk48 (fun _ h9 => h9) rfl (by decide +kernel) rfl rfl (Nat.le_of_ble_eq_true rfl) dX1_readLetter_118 (fun H locs hP hD hS => ?_)
      have hP : va_P D vwCl ([PO pp 99 pl 0 fr 0 0]) H := hP
      have hD : va_D A0 ([PO pp 99 pl 0 fr 0 0]) := hD
      refine lv_iconst (v := (nI 1)) hx hb dX1_readLetter_121 (by decide) ?_
      exact RETN _ _ (nI 1) (st6 99 pl 0 fr 0 0) _ _ dX1_readLetter_122 (rfl) (⟨rfl, fun _ => rfl⟩) hP hD hS
    · skip
      refine lv_tableIn (off := 95) (tgt := 96) hx hb dX1_readLetter_1 (by decide) (by decide) rfl (by decide) ?_
      refine lv_aload_n hx hb dX1_readLetter_96 rfl (lv_at hl 0 rfl) ?_
      refine lv_iload_n hx hb dX1_readLetter_97 rfl (lv_at hl 1 rfl) ?_
      refine va_put (D := D) (ci := 1) (v := .int (nI 100)) (ty := .char) (C := RX1) (T := TX1) (N := 6) hx hb hts hI1 tyX1 tyX1_ok nmX1 hown hK.1 hP hD hS 0 rfl rfl 0 (by decide) lk11 (fun _ h9 => h9) rfl (by decide +kernel) rfl rfl (Nat.le_of_ble_eq_true rfl) dX1_readLetter_98 (fun H locs hP hD hS => ?_)
      have hP : va_P D vwCl ([PO pp 100 lp hf fr nb dg]) H := hP
      have hD : va_D A0 ([PO pp 100 lp hf fr nb dg]) := hD
      refine lv_aload_n hx hb dX1_readLetter_101 rfl (lv_at hl 0 rfl) ?_
      refine lv_iload_n hx hb dX1_readLetter_102 rfl (lv_at hl 2 rfl) ?_
      refine va_put (D := D) (ci := 1) (v := .int (nI pl)) (ty := .int) (C := RX1) (T := TX1) (N := 6) hx hb hts hI1 tyX1 tyX1_ok nmX1 hown hK.1 hP hD hS 0 rfl rfl 1 (by decide) lk23 (fun _ h9 => h9) rfl (by decide +kernel) rfl rfl (Nat.le_of_ble_eq_true rfl) dX1_readLetter_103 (fun H locs hP hD hS => ?_)
      have hP : va_P D vwCl ([PO pp 100 pl hf fr nb dg]) H := hP
      have hD : va_D A0 ([PO pp 100 pl hf fr nb dg]) := hD
      refine lv_aload_n hx hb dX1_readLetter_106 rfl (lv_at hl 0 rfl) ?_
      refine lv_iconst (v := (nI 0)) hx hb dX1_readLetter_107 (by decide) ?_
      refine va_put (D := D) (ci := 1) (v := .int (nI 0)) (ty := .boolean) (C := RX1) (T := TX1) (N := 6) hx hb hts hI1 tyX1 tyX1_ok nmX1 hown hK.1 hP hD hS 0 rfl rfl 2 (by decide) lk41 (fun _ h9 => h9) rfl (by decide +kernel) rfl rfl (Nat.le_of_ble_eq_true rfl) dX1_readLetter_108 (fun H locs hP hD hS => ?_)
      have hP : va_P D vwCl ([PO pp 100 pl 0 fr nb dg]) H := hP
      have hD : va_D A0 ([PO pp 100 pl 0 fr nb dg]) := hD
      refine lv_aload_n hx hb dX1_readLetter_111 rfl (lv_at hl 0 rfl) ?_
      refine lv_iconst (v := (nI 0)) hx hb dX1_readLetter_112 (by decide) ?_
      refine va_put (D := D) (ci := 1) (v := .int (nI 0)) (ty := .int) (C := RX1) (T := TX1) (N := 6) hx hb hts hI1 tyX1 tyX1_ok nmX1 hown hK.1 hP hD hS 0 rfl rfl 4 (by decide) lk45 (fun _ h9 => h9) rfl (by decide +kernel) rfl rfl (Nat.le_of_ble_eq_true rfl) dX1_readLetter_113 (fun H locs hP hD hS => ?_)
      have hP : va_P D vwCl ([PO pp 100 pl 0 fr 0 dg]) H := hP
      have hD : va_D A0 ([PO pp 100 pl 0 fr 0 dg]) := hD
      refine lv_aload_n hx hb dX1_readLetter_116 rfl (lv_at hl 0 rfl) ?_
      refine lv_iconst (v := (nI 0)) hx hb dX1_readLetter_117 (by decide) ?_
      refine va_put (D := D) (ci := 1) (v := .int (nI 0)) (ty := .int) (C := RX1) (T := TX1) (N := 6) hx hb hts hI1 tyX1 tyX1_ok nmX1 hown hK.1 hP hD hS 0 rfl rfl 5 (by decide) lk48 (fun _ h9 => h9) rfl (by decide +kernel) rfl rfl (Nat.le_of_ble_eq_true rfl) dX1_readLetter_118 (fun H locs hP hD hS => ?_)
      have hP : va_P D vwCl ([PO pp 100 pl 0 fr 0 0]) H := hP
      have hD : va_D A0 ([PO pp 100 pl 0 fr 0 0]) := hD
      refine lv_iconst (v := (nI 1)) hx hb dX1_readLetter_121 (by decide) ?_
      exact RETN _ _ (nI 1) (st6 100 pl 0 fr 0 0) _ _ dX1_readLetter_122 (rfl) (⟨rfl, fun _ => rfl⟩) hP hD hS
    · skip
      refine lv_tableIn (off := 122) (tgt := 123) hx hb dX1_readLetter_1 (by decide) (by decide) rfl (by decide) ?_
      refine lv_iconst (v := (nI 0)) hx hb dX1_readLetter_123 (by decide) ?_
      exact RETN _ _ (nI 0) (st6 k lp hf fr nb dg) _ _ dX1_readLetter_124 (rfl) (by first | exact ⟨rfl, fun h => absurd h (by decide)⟩ | (have e : ltN ch = false := decide_eq_false (by omega); rw [e]; exact ⟨rfl, fun h => absurd h (by decide)⟩)) hP hD hS
    · skip
      refine lv_tableIn (off := 95) (tgt := 96) hx hb dX1_readLetter_1 (by decide) (by decide) rfl (by decide) ?_
      refine lv_aload_n hx hb dX1_readLetter_96 rfl (lv_at hl 0 rfl) ?_
      refine lv_iload_n hx hb dX1_readLetter_97 rfl (lv_at hl 1 rfl) ?_
      refine va_put (D := D) (ci := 1) (v := .int (nI 102)) (ty := .char) (C := RX1) (T := TX1) (N := 6) hx hb hts hI1 tyX1 tyX1_ok nmX1 hown hK.1 hP hD hS 0 rfl rfl 0 (by decide) lk11 (fun _ h9 => h9) rfl (by decide +kernel) rfl rfl (Nat.le_of_ble_eq_true rfl) dX1_readLetter_98 (fun H locs hP hD hS => ?_)
      have hP : va_P D vwCl ([PO pp 102 lp hf fr nb dg]) H := hP
      have hD : va_D A0 ([PO pp 102 lp hf fr nb dg]) := hD
      refine lv_aload_n hx hb dX1_readLetter_101 rfl (lv_at hl 0 rfl) ?_
      refine lv_iload_n hx hb dX1_readLetter_102 rfl (lv_at hl 2 rfl) ?_
      refine va_put (D := D) (ci := 1) (v := .int (nI pl)) (ty := .int) (C := RX1) (T := TX1) (N := 6) hx hb hts hI1 tyX1 tyX1_ok nmX1 hown hK.1 hP hD hS 0 rfl rfl 1 (by decide) lk23 (fun _ h9 => h9) rfl (by decide +kernel) rfl rfl (Nat.le_of_ble_eq_true rfl) dX1_readLetter_103 (fun H locs hP hD hS => ?_)
      have hP : va_P D vwCl ([PO pp 102 pl hf fr nb dg]) H := hP
      have hD : va_D A0 ([PO pp 102 pl hf fr nb dg]) := hD
      refine lv_aload_n hx hb dX1_readLetter_106 rfl (lv_at hl 0 rfl) ?_
      refine lv_iconst (v := (nI 0)) hx hb dX1_readLetter_107 (by decide) ?_
      refine va_put (D := D) (ci := 1) (v := .int (nI 0)) (ty := .boolean) (C := RX1) (T := TX1) (N := 6) hx hb hts hI1 tyX1 tyX1_ok nmX1 hown hK.1 hP hD hS 0 rfl rfl 2 (by decide) lk41 (fun _ h9 => h9) rfl (by decide +kernel) rfl rfl (Nat.le_of_ble_eq_true rfl) dX1_readLetter_108 (fun H locs hP hD hS => ?_)
      have hP : va_P D vwCl ([PO pp 102 pl 0 fr nb dg]) H := hP
      have hD : va_D A0 ([PO pp 102 pl 0 fr nb dg]) := hD
      refine lv_aload_n hx hb dX1_readLetter_111 rfl (lv_at hl 0 rfl) ?_
      refine lv_iconst (v := (nI 0)) hx hb dX1_readLetter_112 (by decide) ?_
      refine va_put (D := D) (ci := 1) (v := .int (nI 0)) (ty := .int) (C := RX1) (T := TX1) (N := 6) hx hb hts hI1 tyX1 tyX1_ok nmX1 hown hK.1 hP hD hS 0 rfl rfl 4 (by decide) lk45 (fun _ h9 => h9) rfl (by decide +kernel) rfl rfl (Nat.le_of_ble_eq_true rfl) dX1_readLetter_113 (fun H locs hP hD hS => ?_)
      have hP : va_P D vwCl ([PO pp 102 pl 0 fr 0 dg]) H := hP
      have hD : va_D A0 ([PO pp 102 pl 0 fr 0 dg]) := hD
      refine lv_aload_n hx hb dX1_readLetter_116 rfl (lv_at hl 0 rfl) ?_
      refine lv_iconst (v := (nI 0)) hx hb dX1_readLetter_117 (by decide) ?_
      refine va_put (D := D) (ci := 1) (v := .int (nI 0)) (ty := .int) (C := RX1) (T := TX1) (N := 6) hx hb hts hI1 tyX1 tyX1_ok nmX1 hown hK.1 hP hD hS 0 rfl rfl 5 (by decide) lk48 (fun _ h9 => h9) rfl (by decide +kernel) rfl rfl (Nat.le_of_ble_eq_true rfl) dX1_readLetter_118 (fun H locs hP hD hS => ?_)
      have hP : va_P D vwCl ([PO pp 102 pl 0 fr 0 0]) H := hP
      have hD : va_D A0 ([PO pp 102 pl 0 fr 0 0]) := hD
      refine lv_iconst (v := (nI 1)) hx hb dX1_readLetter_121 (by decide) ?_
      exact RETN _ _ (nI 1) (st6 102 pl 0 fr 0 0) _ _ dX1_readLetter_122 (rfl) (⟨rfl, fun _ => rfl⟩) hP hD hS
    · skip
      refine lv_tableIn (off := 122) (tgt := 123) hx hb dX1_readLetter_1 (by decide) (by decide) rfl (by decide) ?_
      refine lv_iconst (v := (nI 0)) hx hb dX1_readLetter_123 (by decide) ?_
      exact RETN _ _ (nI 0) (st6 k lp hf fr nb dg) _ _ dX1_readLetter_124 (rfl) (by first | exact ⟨rfl, fun h => absurd h (by decide)⟩ | (have e : ltN ch = false := decide_eq_false (by omega); rw [e]; exact ⟨rfl, fun h => absurd h (by decide)⟩)) hP hD hS
    · skip
      refine lv_tableIn (off := 122) (tgt := 123) hx hb dX1_readLetter_1 (by decide) (by decide) rfl (by decide) ?_
      refine lv_iconst (v := (nI 0)) hx hb dX1_readLetter_123 (by decide) ?_
      exact RETN _ _ (nI 0) (st6 k lp hf fr nb dg) _ _ dX1_readLetter_124 (rfl) (by first | exact ⟨rfl, fun h => absurd h (by decide)⟩ | (have e : ltN ch = false := decide_eq_false (by omega); rw [e]; exact ⟨rfl, fun h => absurd h (by decide)⟩)) hP hD hS
    · skip
      refine lv_tableIn (off := 122) (tgt := 123) hx hb dX1_readLetter_1 (by decide) (by decide) rfl (by decide) ?_
      refine lv_iconst (v := (nI 0)) hx hb dX1_readLetter_123 (by decide) ?_
      exact RETN _ _ (nI 0) (st6 k lp hf fr nb dg) _ _ dX1_readLetter_124 (rfl) (by first | exact ⟨rfl, fun h => absurd h (by decide)⟩ | (have e : ltN ch = false := decide_eq_false (by omega); rw [e]; exact ⟨rfl, fun h => absurd h (by decide)⟩)) hP hD hS
    · skip
      refine lv_tableIn (off := 122) (tgt := 123) hx hb dX1_readLetter_1 (by decide) (by decide) rfl (by decide) ?_
      refine lv_iconst (v := (nI 0)) hx hb dX1_readLetter_123 (by decide) ?_
      exact RETN _ _ (nI 0) (st6 k lp hf fr nb dg) _ _ dX1_readLetter_124 (rfl) (by first | exact ⟨rfl, fun h => absurd h (by decide)⟩ | (have e : ltN ch = false := decide_eq_false (by omega); rw [e]; exact ⟨rfl, fun h => absurd h (by decide)⟩)) hP hD hS
    · skip
      refine lv_tableIn (off := 122) (tgt := 123) hx hb dX1_readLetter_1 (by decide) (by decide) rfl (by decide) ?_
      refine lv_iconst (v := (nI 0)) hx hb dX1_readLetter_123 (by decide) ?_
      exact RETN _ _ (nI 0) (st6 k lp hf fr nb dg) _ _ dX1_readLetter_124 (rfl) (by first | exact ⟨rfl, fun h => absurd h (by decide)⟩ | (have e : ltN ch = false := decide_eq_false (by omega); rw [e]; exact ⟨rfl, fun h => absurd h (by decide)⟩)) hP hD hS
    · skip
      refine lv_tableIn (off := 122) (tgt := 123) hx hb dX1_readLetter_1 (by decide) (by decide) rfl (by decide) ?_
      refine lv_iconst (v := (nI 0)) hx hb dX1_readLetter_123 (by decide) ?_
      exact RETN _ _ (nI 0) (st6 k lp hf fr nb dg) _ _ dX1_readLetter_124 (rfl) (by first | exact ⟨rfl, fun h => absurd h (by decide)⟩ | (have e : ltN ch = false := decide_eq_false (by omega); rw [e]; exact ⟨rfl, fun h => absurd h (by decide)⟩)) hP hD hS
    · skip
      refine lv_tableIn (off := 122) (tgt := 123) hx hb dX1_readLetter_1 (by decide) (by decide) rfl (by decide) ?_
      refine lv_iconst (v := (nI 0)) hx hb dX1_readLetter_123 (by decide) ?_
      exact RETN _ _ (nI 0) (st6 k lp hf fr nb dg) _ _ dX1_readLetter_124 (rfl) (by first | exact ⟨rfl, fun h => absurd h (by decide)⟩ | (have e : ltN ch = false := decide_eq_false (by omega); rw [e]; exact ⟨rfl, fun h => absurd h (by decide)⟩)) hP hD hS
    · skip
      refine lv_tableIn (off := 122) (tgt := 123) hx hb dX1_readLetter_1 (by decide) (by decide) rfl (by decide) ?_
      refine lv_iconst (v := (nI 0)) hx hb dX1_readLetter_123 (by decide) ?_
      exact RETN _ _ (nI 0) (st6 k lp hf fr nb dg) _ _ dX1_readLetter_124 (rfl) (by first | exact ⟨rfl, fun h => absurd h (by decide)⟩ | (have e : ltN ch = false := decide_eq_false (by omega); rw [e]; exact ⟨rfl, fun h => absurd h (by decide)⟩)) hP hD hS
    · skip
      refine lv_tableIn (off := 122) (tgt := 123) hx hb dX1_readLetter_1 (by decide) (by decide) rfl (by decide) ?_
      refine lv_iconst (v := (nI 0)) hx hb dX1_readLetter_123 (by decide) ?_
      exact RETN _ _ (nI 0) (st6 k lp hf fr nb dg) _ _ dX1_readLetter_124 (rfl) (by first | exact ⟨rfl, fun h => absurd h (by decide)⟩ | (have e : ltN ch = false := decide_eq_false (by omega); rw [e]; exact ⟨rfl, fun h => absurd h (by decide)⟩)) hP hD hS
    · skip
      refine lv_tableIn (off := 122) (tgt := 123) hx hb dX1_readLetter_1 (by decide) (by decide) rfl (by decide) ?_
      refine lv_iconst (v := (nI 0)) hx hb dX1_readLetter_123 (by decide) ?_
      exact RETN _ _ (nI 0) (st6 k lp hf fr nb dg) _ _ dX1_readLetter_124 (rfl) (by first | exact ⟨rfl, fun h => absurd h (by decide)⟩ | (have e : ltN ch = false := decide_eq_false (by omega); rw [e]; exact ⟨rfl, fun h => absurd h (by decide)⟩)) hP hD hS
    · skip
      refine lv_tableIn (off := 122) (tgt := 123) hx hb dX1_readLetter_1 (by decide) (by decide) rfl (by decide) ?_
      refine lv_iconst (v := (nI 0)) hx hb dX1_readLetter_123 (by decide) ?_
      exact RETN _ _ (nI 0) (st6 k lp hf fr nb dg) _ _ dX1_readLetter_124 (rfl) (by first | exact ⟨rfl, fun h => absurd h (by decide)⟩ | (have e : ltN ch = false := decide_eq_false (by omega); rw [e]; exact ⟨rfl, fun h => absurd h (by decide)⟩)) hP hD hS
    · skip
      refine lv_tableIn (off := 95) (tgt := 96) hx hb dX1_readLetter_1 (by decide) (by decide) rfl (by decide) ?_
      refine lv_aload_n hx hb dX1_readLetter_96 rfl (lv_at hl 0 rfl) ?_
      refine lv_iload_n hx hb dX1_readLetter_97 rfl (lv_at hl 1 rfl) ?_
      refine va_put (D := D) (ci := 1) (v := .int (nI 114)) (ty := .char) (C := RX1) (T := TX1) (N := 6) hx hb hts hI1 tyX1 tyX1_ok nmX1 hown hK.1 hP hD hS 0 rfl rfl 0 (by decide) lk11 (fun _ h9 => h9) rfl (by decide +kernel) rfl rfl (Nat.le_of_ble_eq_true rfl) dX1_readLetter_98 (fun H locs hP hD hS => ?_)
      have hP : va_P D vwCl ([PO pp 114 lp hf fr nb dg]) H := hP
      have hD : va_D A0 ([PO pp 114 lp hf fr nb dg]) := hD
      refine lv_aload_n hx hb dX1_readLetter_101 rfl (lv_at hl 0 rfl) ?_
      refine lv_iload_n hx hb dX1_readLetter_102 rfl (lv_at hl 2 rfl) ?_
      refine va_put (D := D) (ci := 1) (v := .int (nI pl)) (ty := .int) (C := RX1) (T := TX1) (N := 6) hx hb hts hI1 tyX1 tyX1_ok nmX1 hown hK.1 hP hD hS 0 rfl rfl 1 (by decide) lk23 (fun _ h9 => h9) rfl (by decide +kernel) rfl rfl (Nat.le_of_ble_eq_true rfl) dX1_readLetter_103 (fun H locs hP hD hS => ?_)
      have hP : va_P D vwCl ([PO pp 114 pl hf fr nb dg]) H := hP
      have hD : va_D A0 ([PO pp 114 pl hf fr nb dg]) := hD
      refine lv_aload_n hx hb dX1_readLetter_106 rfl (lv_at hl 0 rfl) ?_
      refine lv_iconst (v := (nI 0)) hx hb dX1_readLetter_107 (by decide) ?_
      refine va_put (D := D) (ci := 1) (v := .int (nI 0)) (ty := .boolean) (C := RX1) (T := TX1) (N := 6) hx hb hts hI1 tyX1 tyX1_ok nmX1 hown hK.1 hP hD hS 0 rfl rfl 2 (by decide) lk41 (fun _ h9 => h9) rfl (by decide +kernel) rfl rfl (Nat.le_of_ble_eq_true rfl) dX1_readLetter_108 (fun H locs hP hD hS => ?_)
      have hP : va_P D vwCl ([PO pp 114 pl 0 fr nb dg]) H := hP
      have hD : va_D A0 ([PO pp 114 pl 0 fr nb dg]) := hD
      refine lv_aload_n hx hb dX1_readLetter_111 rfl (lv_at hl 0 rfl) ?_
      refine lv_iconst (v := (nI 0)) hx hb dX1_readLetter_112 (by decide) ?_
      refine va_put (D := D) (ci := 1) (v := .int (nI 0)) (ty := .int) (C := RX1) (T := TX1) (N := 6) hx hb hts hI1 tyX1 tyX1_ok nmX1 hown hK.1 hP hD hS 0 rfl rfl 4 (by decide) lk45 (fun _ h9 => h9) rfl (by decide +kernel) rfl rfl (Nat.le_of_ble_eq_true rfl) dX1_readLetter_113 (fun H locs hP hD hS => ?_)
      have hP : va_P D vwCl ([PO pp 114 pl 0 fr 0 dg]) H := hP
      have hD : va_D A0 ([PO pp 114 pl 0 fr 0 dg]) := hD
      refine lv_aload_n hx hb dX1_readLetter_116 rfl (lv_at hl 0 rfl) ?_
      refine lv_iconst (v := (nI 0)) hx hb dX1_readLetter_117 (by decide) ?_
      refine va_put (D := D) (ci := 1) (v := .int (nI 0)) (ty := .int) (C := RX1) (T := TX1) (N := 6) hx hb hts hI1 tyX1 tyX1_ok nmX1 hown hK.1 hP hD hS 0 rfl rfl 5 (by decide) lk48 (fun _ h9 => h9) rfl (by decide +kernel) rfl rfl (Nat.le_of_ble_eq_true rfl) dX1_readLetter_118 (fun H locs hP hD hS => ?_)
      have hP : va_P D vwCl ([PO pp 114 pl 0 fr 0 0]) H := hP
      have hD : va_D A0 ([PO pp 114 pl 0 fr 0 0]) := hD
      refine lv_iconst (v := (nI 1)) hx hb dX1_readLetter_121 (by decide) ?_
      exact RETN _ _ (nI 1) (st6 114 pl 0 fr 0 0) _ _ dX1_readLetter_122 (rfl) (⟨rfl, fun _ => rfl⟩) hP hD hS
    · skip
      refine lv_tableIn (off := 122) (tgt := 123) hx hb dX1_readLetter_1 (by decide) (by decide) rfl (by decide) ?_
      refine lv_iconst (v := (nI 0)) hx hb dX1_readLetter_123 (by decide) ?_
      exact RETN _ _ (nI 0) (st6 k lp hf fr nb dg) _ _ dX1_readLetter_124 (rfl) (by first | exact ⟨rfl, fun h => absurd h (by decide)⟩ | (have e : ltN ch = false := decide_eq_false (by omega); rw [e]; exact ⟨rfl, fun h => absurd h (by decide)⟩)) hP hD hS
    · skip
      refine lv_tableIn (off := 95) (tgt := 96) hx hb dX1_readLetter_1 (by decide) (by decide) rfl (by decide) ?_
      refine lv_aload_n hx hb dX1_readLetter_96 rfl (lv_at hl 0 rfl) ?_
      refine lv_iload_n hx hb dX1_readLetter_97 rfl (lv_at hl 1 rfl) ?_
      refine va_put (D := D) (ci := 1) (v := .int (nI 116)) (ty := .char) (C := RX1) (T := TX1) (N := 6) hx hb hts hI1 tyX1 tyX1_ok nmX1 hown hK.1 hP hD hS 0 rfl rfl 0 (by decide) lk11 (fun _ h9 => h9) rfl (by decide +kernel) rfl rfl (Nat.le_of_ble_eq_true rfl) dX1_readLetter_98 (fun H locs hP hD hS => ?_)
      have hP : va_P D vwCl ([PO pp 116 lp hf fr nb dg]) H := hP
      have hD : va_D A0 ([PO pp 116 lp hf fr nb dg]) := hD
      refine lv_aload_n hx hb dX1_readLetter_101 rfl (lv_at hl 0 rfl) ?_
      refine lv_iload_n hx hb dX1_readLetter_102 rfl (lv_at hl 2 rfl) ?_
      refine va_put (D := D) (ci := 1) (v := .int (nI pl)) (ty := .int) (C := RX1) (T := TX1) (N := 6) hx hb hts hI1 tyX1 tyX1_ok nmX1 hown hK.1 hP hD hS 0 rfl rfl 1 (by decide) lk23 (fun _ h9 => h9) rfl (by decide +kernel) rfl rfl (Nat.le_of_ble_eq_true rfl) dX1_readLetter_103 (fun H locs hP hD hS => ?_)
      have hP : va_P D vwCl ([PO pp 116 pl hf fr nb dg]) H := hP
      have hD : va_D A0 ([PO pp 116 pl hf fr nb dg]) := hD
      refine lv_aload_n hx hb dX1_readLetter_106 rfl (lv_at hl 0 rfl) ?_
      refine lv_iconst (v := (nI 0)) hx hb dX1_readLetter_107 (by decide) ?_
      refine va_put (D := D) (ci := 1) (v := .int (nI 0)) (ty := .boolean) (C := RX1) (T := TX1) (N := 6) hx hb hts hI1 tyX1 tyX1_ok nmX1 hown hK.1 hP hD hS 0 rfl rfl 2 (by decide) lk41 (fun _ h9 => h9) rfl (by decide +kernel) rfl rfl (Nat.le_of_ble_eq_true rfl) dX1_readLetter_108 (fun H locs hP hD hS => ?_)
      have hP : va_P D vwCl ([PO pp 116 pl 0 fr nb dg]) H := hP
      have hD : va_D A0 ([PO pp 116 pl 0 fr nb dg]) := hD
      refine lv_aload_n hx hb dX1_readLetter_111 rfl (lv_at hl 0 rfl) ?_
      refine lv_iconst (v := (nI 0)) hx hb dX1_readLetter_112 (by decide) ?_
      refine va_put (D := D) (ci := 1) (v := .int (nI 0)) (ty := .int) (C := RX1) (T := TX1) (N := 6) hx hb hts hI1 tyX1 tyX1_ok nmX1 hown hK.1 hP hD hS 0 rfl rfl 4 (by decide) lk45 (fun _ h9 => h9) rfl (by decide +kernel) rfl rfl (Nat.le_of_ble_eq_true rfl) dX1_readLetter_113 (fun H locs hP hD hS => ?_)
      have hP : va_P D vwCl ([PO pp 116 pl 0 fr 0 dg]) H := hP
      have hD : va_D A0 ([PO pp 116 pl 0 fr 0 dg]) := hD
      refine lv_aload_n hx hb dX1_readLetter_116 rfl (lv_at hl 0 rfl) ?_
      refine lv_iconst (v := (nI 0)) hx hb dX1_readLetter_117 (by decide) ?_
      refine va_put (D := D) (ci := 1) (v := .int (nI 0)) (ty := .int) (C := RX1) (T := TX1) (N := 6) hx hb hts hI1 tyX1 tyX1_ok nmX1 hown hK.1 hP hD hS 0 rfl rfl 5 (by decide) lk48 (fun _ h9 => h9) rfl (by decide +kernel) rfl rfl (Nat.le_of_ble_eq_true rfl) dX1_readLetter_118 (fun H locs hP hD hS => ?_)
      have hP : va_P D vwCl ([PO pp 116 pl 0 fr 0 0]) H := hP
      have hD : va_D A0 ([PO pp 116 pl 0 fr 0 0]) := hD
      refine lv_iconst (v := (nI 1)) hx hb dX1_readLetter_121 (by decide) ?_
      exact RETN _ _ (nI 1) (st6 116 pl 0 fr 0 0) _ _ dX1_readLetter_122 (rfl) (⟨rfl, fun _ => rfl⟩) hP hD hS
set_option maxHeartbeats 4000000 in
set_option maxRecDepth 100000 in
theorem c_X1_readDigit {l : Launch} {D : va_G} {cI cG cC cR : ClassId} {pp k lp hf fr nb dg : Nat} {d : Nat} (hd : d < 10) (hk : k < 1000) (hnb : nb < 1000) (hdg : dg < 1000) : CtI l yX1_readDigit wsX1_readDigit { frames := 0, cells := 0, slots := 0, locals := 0 } D (TY cI cG cC cR) [.ref pp, .int (nI d)] ([PO pp k lp hf fr nb dg]) (fun (u : Nat → Nat) => [PO pp (u 0) (u 1) (u 2) (u 3) (u 4) (u 5)]) (fun (r : Int32) (u : Nat → Nat) => r = bI (decide (k ≠ 97 ∧ dg ≠ 3 ∧ ¬ (dg = 1 ∧ nb = 0))) ∧ (decide (k ≠ 97 ∧ dg ≠ 3 ∧ ¬ (dg = 1 ∧ nb = 0)) = true → u = st6 k lp hf fr (nb * 10 + d) (dg + 1))) := by
  refine CtI.of (cc := cX1_readDigit) (maxL := 3) (ty := .boolean) (by decide) rfl (Nat.le_of_ble_eq_true rfl) ?_
  intro P0 e0 s0 m0 a0 b0 t0 c0 A0 Q0 ls F hK hP hD hA RETN hl
  obtain ⟨hx, hb, hml, hown, hts⟩ := id F
  have hS : va_S A0 s0.heap s0.heap [] := va_S.rf
  have hl : lv_has ls 3 [(0, .ref pp), (1, .int (nI d))] := hl
  have lk11 := hts (.fieldLink RX1 11 "SlotMaps$Program" "letter" "C") (by decide +kernel)
  have lk45 := hts (.fieldLink RX1 45 "SlotMaps$Program" "number" "I") (by decide +kernel)
  have lk48 := hts (.fieldLink RX1 48 "SlotMaps$Program" "digits" "I") (by decide +kernel)
  have hI1 : ∀ w ∈ u_ws RX1 TX1 6, w ∈ wsX1_readDigit := by decide +kernel
  refine lv_aload_n hx hb dX1_readDigit_0 rfl (lv_at hl 0 rfl) ?_
  refine va_get (D := D) (ci := 1) (v := .int (nI dg)) (C := RX1) (T := TX1) (N := 6) hx hb hts hI1 hown hK.1 hP 0 rfl rfl 5 (by decide) lk48 (fun _ h9 => h9) rfl dX1_readDigit_1 ?_
  refine lv_iconst (v := (nI 1)) hx hb dX1_readDigit_4 (by decide) ?_
  refine lv_icmp_ne (tgt := 19) hx hb dX1_readDigit_5 (by decide) (fun c5 => ?_) (fun c5 => ?_)
  · skip
    replace c5 : ¬ dg = 1 := by rw [nI_eq (by omega) (by omega)] at c5; exact c5
    refine lv_iconst (v := (nI 0)) hx hb dX1_readDigit_19 (by decide) ?_
    refine lv_istore_n (lv' := [(2, .int (nI 0)), (0, .ref pp), (1, .int (nI d))]) hx hb dX1_readDigit_20 rfl hl (by decide) rfl (fun ls hl => ?_)
    refine lv_aload_n hx hb dX1_readDigit_21 rfl (lv_at hl 1 rfl) ?_
    refine va_get (D := D) (ci := 1) (v := .int (nI k)) (C := RX1) (T := TX1) (N := 6) hx hb hts hI1 hown hK.1 hP 0 rfl rfl 0 (by decide) lk11 (fun _ h9 => h9) rfl dX1_readDigit_22 ?_
    refine lv_bipush (v := (nI 97)) hx hb dX1_readDigit_25 (by decide) ?_
    refine lv_icmp_eq (tgt := 42) hx hb dX1_readDigit_27 (by decide) (fun c27 => ?_) (fun c27 => ?_)
    · skip
      replace c27 : k = 97 := by rw [nI_eq (by omega) (by omega)] at c27; exact c27
      refine lv_iconst (v := (nI 0)) hx hb dX1_readDigit_42 (by decide) ?_
      exact RETN _ _ (nI 0) (st6 k lp hf fr nb dg) _ _ dX1_readDigit_43 (rfl) (⟨bI_f (decide_eq_false (by omega)), fun q => absurd (of_decide_eq_true q) (by omega)⟩) hP hD hS
    · skip
      replace c27 : ¬ (k = 97) := by rw [nI_eq (by omega) (by omega)] at c27; exact c27
      refine lv_aload_n hx hb dX1_readDigit_30 rfl (lv_at hl 1 rfl) ?_
      refine va_get (D := D) (ci := 1) (v := .int (nI dg)) (C := RX1) (T := TX1) (N := 6) hx hb hts hI1 hown hK.1 hP 0 rfl rfl 5 (by decide) lk48 (fun _ h9 => h9) rfl dX1_readDigit_31 ?_
      refine lv_iconst (v := (nI 3)) hx hb dX1_readDigit_34 (by decide) ?_
      refine lv_icmp_eq (tgt := 42) hx hb dX1_readDigit_35 (by decide) (fun c35 => ?_) (fun c35 => ?_)
      · skip
        replace c35 : dg = 3 := by rw [nI_eq (by omega) (by omega)] at c35; exact c35
        refine lv_iconst (v := (nI 0)) hx hb dX1_readDigit_42 (by decide) ?_
        exact RETN _ _ (nI 0) (st6 k lp hf fr nb dg) _ _ dX1_readDigit_43 (rfl) (⟨bI_f (decide_eq_false (by omega)), fun q => absurd (of_decide_eq_true q) (by omega)⟩) hP hD hS
      · skip
        replace c35 : ¬ (dg = 3) := by rw [nI_eq (by omega) (by omega)] at c35; exact c35
        refine lv_iload_n hx hb dX1_readDigit_38 rfl (lv_at hl 0 rfl) ?_
        refine lv_if_eq (tgt := 44) hx hb dX1_readDigit_39 (by decide) (fun c39 => ?_) (fun c39 => ?_)
        · skip
          refine lv_aload_n hx hb dX1_readDigit_44 rfl (lv_at hl 1 rfl) ?_
          refine lv_aload_n hx hb dX1_readDigit_45 rfl (lv_at hl 1 rfl) ?_
          refine va_get (D := D) (ci := 1) (v := .int (nI nb)) (C := RX1) (T := TX1) (N := 6) hx hb hts hI1 hown hK.1 hP 0 rfl rfl 4 (by decide) lk45 (fun _ h9 => h9) rfl dX1_readDigit_46 ?_
          refine lv_bipush (v := (nI 10)) hx hb dX1_readDigit_49 (by decide) ?_
          refine lv_imul hx hb dX1_readDigit_51 ?_
          refine n_as (x' := nI (nb * 10)) (pk_mul _ _) ?_
          refine lv_iload_n hx hb dX1_readDigit_52 rfl (lv_at hl 2 rfl) ?_
          refine lv_iadd hx hb dX1_readDigit_53 ?_
          refine n_as (x' := nI ((nb * 10) + d)) (nI_add _ _) ?_
          refine va_put (D := D) (ci := 1) (v := .int (nI ((nb * 10) + d))) (ty := .int) (C := RX1) (T := TX1) (N := 6) hx hb hts hI1 tyX1 tyX1_ok nmX1 hown hK.1 hP hD hS 0 rfl rfl 4 (by decide) lk45 (fun _ h9 => h9) rfl (by decide +kernel) rfl rfl (Nat.le_of_ble_eq_true rfl) dX1_readDigit_54 (fun H locs hP hD hS => ?_)
          have hP : va_P D vwCl ([PO pp k lp hf fr ((nb * 10) + d) dg]) H := hP
          have hD : va_D A0 ([PO pp k lp hf fr ((nb * 10) + d) dg]) := hD
          refine lv_aload_n hx hb dX1_readDigit_57 rfl (lv_at hl 1 rfl) ?_
          refine lv_dup hx hb dX1_readDigit_58 rfl ?_
          refine va_get (D := D) (ci := 1) (v := .int (nI dg)) (C := RX1) (T := TX1) (N := 6) hx hb hts hI1 hown hK.1 hP 0 rfl rfl 5 (by decide) lk48 (fun _ h9 => h9) rfl dX1_readDigit_59 ?_
          refine lv_iconst (v := (nI 1)) hx hb dX1_readDigit_62 (by decide) ?_
          refine lv_iadd hx hb dX1_readDigit_63 ?_
          refine n_as (x' := nI (dg + 1)) (nI_add _ _) ?_
          refine va_put (D := D) (ci := 1) (v := .int (nI (dg + 1))) (ty := .int) (C := RX1) (T := TX1) (N := 6) hx hb hts hI1 tyX1 tyX1_ok nmX1 hown hK.1 hP hD hS 0 rfl rfl 5 (by decide) lk48 (fun _ h9 => h9) rfl (by decide +kernel) rfl rfl (Nat.le_of_ble_eq_true rfl) dX1_readDigit_64 (fun H locs hP hD hS => ?_)
          have hP : va_P D vwCl ([PO pp k lp hf fr ((nb * 10) + d) (dg + 1)]) H := hP
          have hD : va_D A0 ([PO pp k lp hf fr ((nb * 10) + d) (dg + 1)]) := hD
          refine lv_iconst (v := (nI 1)) hx hb dX1_readDigit_67 (by decide) ?_
          exact RETN _ _ (nI 1) (st6 k lp hf fr (nb * 10 + d) (dg + 1)) _ _ dX1_readDigit_68 (rfl) (⟨bI_t (decide_eq_true (by omega)), fun _ => rfl⟩) hP hD hS
        · skip
          exfalso
          exact absurd c39 (by decide)
  · skip
    replace c5 : dg = 1 := by rw [nI_eq (by omega) (by omega)] at c5; exact c5
    refine lv_aload_n hx hb dX1_readDigit_8 rfl (lv_at hl 0 rfl) ?_
    refine va_get (D := D) (ci := 1) (v := .int (nI nb)) (C := RX1) (T := TX1) (N := 6) hx hb hts hI1 hown hK.1 hP 0 rfl rfl 4 (by decide) lk45 (fun _ h9 => h9) rfl dX1_readDigit_9 ?_
    refine lv_if_ne (tgt := 19) hx hb dX1_readDigit_12 (by decide) (fun c12 => ?_) (fun c12 => ?_)
    · skip
      replace c12 : ¬ nb = 0 := by rw [show (0 : Int32) = nI 0 from rfl, nI_eq (by omega) (by omega)] at c12; exact c12
      refine lv_iconst (v := (nI 0)) hx hb dX1_readDigit_19 (by decide) ?_
      refine lv_istore_n (lv' := [(2, .int (nI 0)), (0, .ref pp), (1, .int (nI d))]) hx hb dX1_readDigit_20 rfl hl (by decide) rfl (fun ls hl => ?_)
      refine lv_aload_n hx hb dX1_readDigit_21 rfl (lv_at hl 1 rfl) ?_
      refine va_get (D := D) (ci := 1) (v := .int (nI k)) (C := RX1) (T := TX1) (N := 6) hx hb hts hI1 hown hK.1 hP 0 rfl rfl 0 (by decide) lk11 (fun _ h9 => h9) rfl dX1_readDigit_22 ?_
      refine lv_bipush (v := (nI 97)) hx hb dX1_readDigit_25 (by decide) ?_
      refine lv_icmp_eq (tgt := 42) hx hb dX1_readDigit_27 (by decide) (fun c27 => ?_) (fun c27 => ?_)
      · skip
        replace c27 : k = 97 := by rw [nI_eq (by omega) (by omega)] at c27; exact c27
        refine lv_iconst (v := (nI 0)) hx hb dX1_readDigit_42 (by decide) ?_
        exact RETN _ _ (nI 0) (st6 k lp hf fr nb dg) _ _ dX1_readDigit_43 (rfl) (⟨bI_f (decide_eq_false (by omega)), fun q => absurd (of_decide_eq_true q) (by omega)⟩) hP hD hS
      · skip
        replace c27 : ¬ (k = 97) := by rw [nI_eq (by omega) (by omega)] at c27; exact c27
        refine lv_aload_n hx hb dX1_readDigit_30 rfl (lv_at hl 1 rfl) ?_
        refine va_get (D := D) (ci := 1) (v := .int (nI dg)) (C := RX1) (T := TX1) (N := 6) hx hb hts hI1 hown hK.1 hP 0 rfl rfl 5 (by decide) lk48 (fun _ h9 => h9) rfl dX1_readDigit_31 ?_
        refine lv_iconst (v := (nI 3)) hx hb dX1_readDigit_34 (by decide) ?_
        refine lv_icmp_eq (tgt := 42) hx hb dX1_readDigit_35 (by decide) (fun c35 => ?_) (fun c35 => ?_)
        · skip
          replace c35 : dg = 3 := by rw [nI_eq (by omega) (by omega)] at c35; exact c35
          refine lv_iconst (v := (nI 0)) hx hb dX1_readDigit_42 (by decide) ?_
          exact RETN _ _ (nI 0) (st6 k lp hf fr nb dg) _ _ dX1_readDigit_43 (rfl) (⟨bI_f (decide_eq_false (by omega)), fun q => absurd (of_decide_eq_true q) (by omega)⟩) hP hD hS
        · skip
          replace c35 : ¬ (dg = 3) := by rw [nI_eq (by omega) (by omega)] at c35; exact c35
          refine lv_iload_n hx hb dX1_readDigit_38 rfl (lv_at hl 0 rfl) ?_
          refine lv_if_eq (tgt := 44) hx hb dX1_readDigit_39 (by decide) (fun c39 => ?_) (fun c39 => ?_)
          · skip
            refine lv_aload_n hx hb dX1_readDigit_44 rfl (lv_at hl 1 rfl) ?_
            refine lv_aload_n hx hb dX1_readDigit_45 rfl (lv_at hl 1 rfl) ?_
            refine va_get (D := D) (ci := 1) (v := .int (nI nb)) (C := RX1) (T := TX1) (N := 6) hx hb hts hI1 hown hK.1 hP 0 rfl rfl 4 (by decide) lk45 (fun _ h9 => h9) rfl dX1_readDigit_46 ?_
            refine lv_bipush (v := (nI 10)) hx hb dX1_readDigit_49 (by decide) ?_
            refine lv_imul hx hb dX1_readDigit_51 ?_
            refine n_as (x' := nI (nb * 10)) (pk_mul _ _) ?_
            refine lv_iload_n hx hb dX1_readDigit_52 rfl (lv_at hl 2 rfl) ?_
            refine lv_iadd hx hb dX1_readDigit_53 ?_
            refine n_as (x' := nI ((nb * 10) + d)) (nI_add _ _) ?_
            refine va_put (D := D) (ci := 1) (v := .int (nI ((nb * 10) + d))) (ty := .int) (C := RX1) (T := TX1) (N := 6) hx hb hts hI1 tyX1 tyX1_ok nmX1 hown hK.1 hP hD hS 0 rfl rfl 4 (by decide) lk45 (fun _ h9 => h9) rfl (by decide +kernel) rfl rfl (Nat.le_of_ble_eq_true rfl) dX1_readDigit_54 (fun H locs hP hD hS => ?_)
            have hP : va_P D vwCl ([PO pp k lp hf fr ((nb * 10) + d) dg]) H := hP
            have hD : va_D A0 ([PO pp k lp hf fr ((nb * 10) + d) dg]) := hD
            refine lv_aload_n hx hb dX1_readDigit_57 rfl (lv_at hl 1 rfl) ?_
            refine lv_dup hx hb dX1_readDigit_58 rfl ?_
            refine va_get (D := D) (ci := 1) (v := .int (nI dg)) (C := RX1) (T := TX1) (N := 6) hx hb hts hI1 hown hK.1 hP 0 rfl rfl 5 (by decide) lk48 (fun _ h9 => h9) rfl dX1_readDigit_59 ?_
            refine lv_iconst (v := (nI 1)) hx hb dX1_readDigit_62 (by decide) ?_
            refine lv_iadd hx hb dX1_readDigit_63 ?_
            refine n_as (x' := nI (dg + 1)) (nI_add _ _) ?_
            refine va_put (D := D) (ci := 1) (v := .int (nI (dg + 1))) (ty := .int) (C := RX1) (T := TX1) (N := 6) hx hb hts hI1 tyX1 tyX1_ok nmX1 hown hK.1 hP hD hS 0 rfl rfl 5 (by decide) lk48 (fun _ h9 => h9) rfl (by decide +kernel) rfl rfl (Nat.le_of_ble_eq_true rfl) dX1_readDigit_64 (fun H locs hP hD hS => ?_)
            have hP : va_P D vwCl ([PO pp k lp hf fr ((nb * 10) + d) (dg + 1)]) H := hP
            have hD : va_D A0 ([PO pp k lp hf fr ((nb * 10) + d) (dg + 1)]) := hD
            refine lv_iconst (v := (nI 1)) hx hb dX1_readDigit_67 (by decide) ?_
            exact RETN _ _ (nI 1) (st6 k lp hf fr (nb * 10 + d) (dg + 1)) _ _ dX1_readDigit_68 (rfl) (⟨bI_t (decide_eq_true (by omega)), fun _ => rfl⟩) hP hD hS
          · skip
            exfalso
            exact absurd c39 (by decide)
    · skip
      replace c12 : nb = 0 := by rw [show (0 : Int32) = nI 0 from rfl, nI_eq (by omega) (by omega)] at c12; exact c12
      refine lv_iconst (v := (nI 1)) hx hb dX1_readDigit_15 (by decide) ?_
      refine lv_goto (tgt := 20) hx hb dX1_readDigit_16 (by decide) ?_
      refine lv_istore_n (lv' := [(2, .int (nI 1)), (0, .ref pp), (1, .int (nI d))]) hx hb dX1_readDigit_20 rfl hl (by decide) rfl (fun ls hl => ?_)
      refine lv_aload_n hx hb dX1_readDigit_21 rfl (lv_at hl 1 rfl) ?_
      refine va_get (D := D) (ci := 1) (v := .int (nI k)) (C := RX1) (T := TX1) (N := 6) hx hb hts hI1 hown hK.1 hP 0 rfl rfl 0 (by decide) lk11 (fun _ h9 => h9) rfl dX1_readDigit_22 ?_
      refine lv_bipush (v := (nI 97)) hx hb dX1_readDigit_25 (by decide) ?_
      refine lv_icmp_eq (tgt := 42) hx hb dX1_readDigit_27 (by decide) (fun c27 => ?_) (fun c27 => ?_)
      · skip
        replace c27 : k = 97 := by rw [nI_eq (by omega) (by omega)] at c27; exact c27
        refine lv_iconst (v := (nI 0)) hx hb dX1_readDigit_42 (by decide) ?_
        exact RETN _ _ (nI 0) (st6 k lp hf fr nb dg) _ _ dX1_readDigit_43 (rfl) (⟨bI_f (decide_eq_false (by omega)), fun q => absurd (of_decide_eq_true q) (by omega)⟩) hP hD hS
      · skip
        replace c27 : ¬ (k = 97) := by rw [nI_eq (by omega) (by omega)] at c27; exact c27
        refine lv_aload_n hx hb dX1_readDigit_30 rfl (lv_at hl 1 rfl) ?_
        refine va_get (D := D) (ci := 1) (v := .int (nI dg)) (C := RX1) (T := TX1) (N := 6) hx hb hts hI1 hown hK.1 hP 0 rfl rfl 5 (by decide) lk48 (fun _ h9 => h9) rfl dX1_readDigit_31 ?_
        refine lv_iconst (v := (nI 3)) hx hb dX1_readDigit_34 (by decide) ?_
        refine lv_icmp_eq (tgt := 42) hx hb dX1_readDigit_35 (by decide) (fun c35 => ?_) (fun c35 => ?_)
        · skip
          replace c35 : dg = 3 := by rw [nI_eq (by omega) (by omega)] at c35; exact c35
          refine lv_iconst (v := (nI 0)) hx hb dX1_readDigit_42 (by decide) ?_
          exact RETN _ _ (nI 0) (st6 k lp hf fr nb dg) _ _ dX1_readDigit_43 (rfl) (⟨bI_f (decide_eq_false (by omega)), fun q => absurd (of_decide_eq_true q) (by omega)⟩) hP hD hS
        · skip
          replace c35 : ¬ (dg = 3) := by rw [nI_eq (by omega) (by omega)] at c35; exact c35
          refine lv_iload_n hx hb dX1_readDigit_38 rfl (lv_at hl 0 rfl) ?_
          refine lv_if_eq (tgt := 44) hx hb dX1_readDigit_39 (by decide) (fun c39 => ?_) (fun c39 => ?_)
          · skip
            exfalso
            exact absurd c39 (by decide)
          · skip
            refine lv_iconst (v := (nI 0)) hx hb dX1_readDigit_42 (by decide) ?_
            exact RETN _ _ (nI 0) (st6 k lp hf fr nb dg) _ _ dX1_readDigit_43 (rfl) (⟨bI_f (decide_eq_false (by omega)), fun q => absurd (of_decide_eq_true q) (by omega)⟩) hP hD hS
set_option maxHeartbeats 4000000 in
set_option maxRecDepth 100000 in
theorem c_X1_readDash {l : Launch} {D : va_G} {cI cG cC cR : ClassId} {pp k lp hf fr nb dg : Nat} (hk : k < 1000) (hhf : hf ≤ 1) (hdg : dg < 1000) : CtI l yX1_readDash wsX1_readDash { frames := 0, cells := 0, slots := 0, locals := 0 } D (TY cI cG cC cR) [.ref pp] ([PO pp k lp hf fr nb dg]) (fun (u : Nat → Nat) => [PO pp (u 0) (u 1) (u 2) (u 3) (u 4) (u 5)]) (fun (r : Int32) (u : Nat → Nat) => r = bI (decide (k = 102 ∧ hf = 0 ∧ dg ≠ 0)) ∧ (decide (k = 102 ∧ hf = 0 ∧ dg ≠ 0) = true → u = st6 k lp 1 nb 0 0)) := by
  refine CtI.of (cc := cX1_readDash) (maxL := 1) (ty := .boolean) (by decide) rfl (Nat.le_of_ble_eq_true rfl) ?_
  intro P0 e0 s0 m0 a0 b0 t0 c0 A0 Q0 ls F hK hP hD hA RETN hl
  obtain ⟨hx, hb, hml, hown, hts⟩ := id F
  have hS : va_S A0 s0.heap s0.heap [] := va_S.rf
  have hl : lv_has ls 1 [(0, .ref pp)] := hl
  have lk11 := hts (.fieldLink RX1 11 "SlotMaps$Program" "letter" "C") (by decide +kernel)
  have lk41 := hts (.fieldLink RX1 41 "SlotMaps$Program" "hasFrom" "Z") (by decide +kernel)
  have lk45 := hts (.fieldLink RX1 45 "SlotMaps$Program" "number" "I") (by decide +kernel)
  have lk48 := hts (.fieldLink RX1 48 "SlotMaps$Program" "digits" "I") (by decide +kernel)
  have lk51 := hts (.fieldLink RX1 51 "SlotMaps$Program" "from" "I") (by decide +kernel)
  have hI1 : ∀ w ∈ u_ws RX1 TX1 6, w ∈ wsX1_readDash := by decide +kernel
  refine lv_aload_n hx hb dX1_readDash_0 rfl (lv_at hl 0 rfl) ?_
  refine va_get (D := D) (ci := 1) (v := .int (nI k)) (C := RX1) (T := TX1) (N := 6) hx hb hts hI1 hown hK.1 hP 0 rfl rfl 0 (by decide) lk11 (fun _ h9 => h9) rfl dX1_readDash_1 ?_
  refine lv_bipush (v := (nI 102)) hx hb dX1_readDash_4 (by decide) ?_
  refine lv_icmp_ne (tgt := 23) hx hb dX1_readDash_6 (by decide) (fun c6 => ?_) (fun c6 => ?_)
  · skip
    replace c6 : ¬ k = 102 := by rw [nI_eq (by omega) (by omega)] at c6; exact c6
    refine lv_iconst (v := (nI 0)) hx hb dX1_readDash_23 (by decide) ?_
    exact RETN _ _ (nI 0) (st6 k lp hf fr nb dg) _ _ dX1_readDash_24 (rfl) (⟨bI_f (decide_eq_false (by omega)), fun q => absurd (of_decide_eq_true q) (by omega)⟩) hP hD hS
  · skip
    replace c6 : k = 102 := by rw [nI_eq (by omega) (by omega)] at c6; exact c6
    refine lv_aload_n hx hb dX1_readDash_9 rfl (lv_at hl 0 rfl) ?_
    refine va_get (D := D) (ci := 1) (v := .int (nI hf)) (C := RX1) (T := TX1) (N := 6) hx hb hts hI1 hown hK.1 hP 0 rfl rfl 2 (by decide) lk41 (fun _ h9 => h9) rfl dX1_readDash_10 ?_
    refine lv_if_ne (tgt := 23) hx hb dX1_readDash_13 (by decide) (fun c13 => ?_) (fun c13 => ?_)
    · skip
      replace c13 : ¬ hf = 0 := by rw [show (0 : Int32) = nI 0 from rfl, nI_eq (by omega) (by omega)] at c13; exact c13
      refine lv_iconst (v := (nI 0)) hx hb dX1_readDash_23 (by decide) ?_
      exact RETN _ _ (nI 0) (st6 k lp hf fr nb dg) _ _ dX1_readDash_24 (rfl) (⟨bI_f (decide_eq_false (by omega)), fun q => absurd (of_decide_eq_true q) (by omega)⟩) hP hD hS
    · skip
      replace c13 : hf = 0 := by rw [show (0 : Int32) = nI 0 from rfl, nI_eq (by omega) (by omega)] at c13; exact c13
      refine lv_aload_n hx hb dX1_readDash_16 rfl (lv_at hl 0 rfl) ?_
      refine va_get (D := D) (ci := 1) (v := .int (nI dg)) (C := RX1) (T := TX1) (N := 6) hx hb hts hI1 hown hK.1 hP 0 rfl rfl 5 (by decide) lk48 (fun _ h9 => h9) rfl dX1_readDash_17 ?_
      refine lv_if_ne (tgt := 25) hx hb dX1_readDash_20 (by decide) (fun c20 => ?_) (fun c20 => ?_)
      · skip
        replace c20 : ¬ dg = 0 := by rw [show (0 : Int32) = nI 0 from rfl, nI_eq (by omega) (by omega)] at c20; exact c20
        refine lv_aload_n hx hb dX1_readDash_25 rfl (lv_at hl 0 rfl) ?_
        refine lv_iconst (v := (nI 1)) hx hb dX1_readDash_26 (by decide) ?_
        refine va_put (D := D) (ci := 1) (v := .int (nI 1)) (ty := .boolean) (C := RX1) (T := TX1) (N := 6) hx hb hts hI1 tyX1 tyX1_ok nmX1 hown hK.1 hP hD hS 0 rfl rfl 2 (by decide) lk41 (fun _ h9 => h9) rfl (by decide +kernel) rfl rfl (Nat.le_of_ble_eq_true rfl) dX1_readDash_27 (fun H locs hP hD hS => ?_)
        have hP : va_P D vwCl ([PO pp k lp 1 fr nb dg]) H := hP
        have hD : va_D A0 ([PO pp k lp 1 fr nb dg]) := hD
        refine lv_aload_n hx hb dX1_readDash_30 rfl (lv_at hl 0 rfl) ?_
        refine lv_aload_n hx hb dX1_readDash_31 rfl (lv_at hl 0 rfl) ?_
        refine va_get (D := D) (ci := 1) (v := .int (nI nb)) (C := RX1) (T := TX1) (N := 6) hx hb hts hI1 hown hK.1 hP 0 rfl rfl 4 (by decide) lk45 (fun _ h9 => h9) rfl dX1_readDash_32 ?_
        refine va_put (D := D) (ci := 1) (v := .int (nI nb)) (ty := .int) (C := RX1) (T := TX1) (N := 6) hx hb hts hI1 tyX1 tyX1_ok nmX1 hown hK.1 hP hD hS 0 rfl rfl 3 (by decide) lk51 (fun _ h9 => h9) rfl (by decide +kernel) rfl rfl (Nat.le_of_ble_eq_true rfl) dX1_readDash_35 (fun H locs hP hD hS => ?_)
        have hP : va_P D vwCl ([PO pp k lp 1 nb nb dg]) H := hP
        have hD : va_D A0 ([PO pp k lp 1 nb nb dg]) := hD
        refine lv_aload_n hx hb dX1_readDash_38 rfl (lv_at hl 0 rfl) ?_
        refine lv_iconst (v := (nI 0)) hx hb dX1_readDash_39 (by decide) ?_
        refine va_put (D := D) (ci := 1) (v := .int (nI 0)) (ty := .int) (C := RX1) (T := TX1) (N := 6) hx hb hts hI1 tyX1 tyX1_ok nmX1 hown hK.1 hP hD hS 0 rfl rfl 4 (by decide) lk45 (fun _ h9 => h9) rfl (by decide +kernel) rfl rfl (Nat.le_of_ble_eq_true rfl) dX1_readDash_40 (fun H locs hP hD hS => ?_)
        have hP : va_P D vwCl ([PO pp k lp 1 nb 0 dg]) H := hP
        have hD : va_D A0 ([PO pp k lp 1 nb 0 dg]) := hD
        refine lv_aload_n hx hb dX1_readDash_43 rfl (lv_at hl 0 rfl) ?_
        refine lv_iconst (v := (nI 0)) hx hb dX1_readDash_44 (by decide) ?_
        refine va_put (D := D) (ci := 1) (v := .int (nI 0)) (ty := .int) (C := RX1) (T := TX1) (N := 6) hx hb hts hI1 tyX1 tyX1_ok nmX1 hown hK.1 hP hD hS 0 rfl rfl 5 (by decide) lk48 (fun _ h9 => h9) rfl (by decide +kernel) rfl rfl (Nat.le_of_ble_eq_true rfl) dX1_readDash_45 (fun H locs hP hD hS => ?_)
        have hP : va_P D vwCl ([PO pp k lp 1 nb 0 0]) H := hP
        have hD : va_D A0 ([PO pp k lp 1 nb 0 0]) := hD
        refine lv_iconst (v := (nI 1)) hx hb dX1_readDash_48 (by decide) ?_
        exact RETN _ _ (nI 1) (st6 k lp 1 nb 0 0) _ _ dX1_readDash_49 (rfl) (⟨bI_t (decide_eq_true (by omega)), fun _ => rfl⟩) hP hD hS
      · skip
        replace c20 : dg = 0 := by rw [show (0 : Int32) = nI 0 from rfl, nI_eq (by omega) (by omega)] at c20; exact c20
        refine lv_iconst (v := (nI 0)) hx hb dX1_readDash_23 (by decide) ?_
        exact RETN _ _ (nI 0) (st6 k lp hf fr nb dg) _ _ dX1_readDash_24 (rfl) (⟨bI_f (decide_eq_false (by omega)), fun q => absurd (of_decide_eq_true q) (by omega)⟩) hP hD hS
set_option maxHeartbeats 4000000 in
set_option maxRecDepth 100000 in
theorem c_X1_mayEnd {l : Launch} {D : va_G} {cI cG cC cR : ClassId} {pp k lp hf fr nb dg : Nat} (hk : k < 1000) (hdg : dg < 1000) : CtI l yX1_mayEnd wsX1_mayEnd { frames := 0, cells := 0, slots := 0, locals := 0 } D (TY cI cG cC cR) [.ref pp] ([PO pp k lp hf fr nb dg]) (fun (_ : Unit) => [PO pp k lp hf fr nb dg]) (fun (r : Int32) (_ : Unit) => r = bI (decide (0 < dg ∨ k = 116 ∨ k = 97))) := by
  refine CtI.of (cc := cX1_mayEnd) (maxL := 1) (ty := .boolean) (by decide) rfl (Nat.le_of_ble_eq_true rfl) ?_
  intro P0 e0 s0 m0 a0 b0 t0 c0 A0 Q0 ls F hK hP hD hA RETN hl
  obtain ⟨hx, hb, hml, hown, hts⟩ := id F
  have hS : va_S A0 s0.heap s0.heap [] := va_S.rf
  have hl : lv_has ls 1 [(0, .ref pp)] := hl
  have lk11 := hts (.fieldLink RX1 11 "SlotMaps$Program" "letter" "C") (by decide +kernel)
  have lk48 := hts (.fieldLink RX1 48 "SlotMaps$Program" "digits" "I") (by decide +kernel)
  have hI1 : ∀ w ∈ u_ws RX1 TX1 6, w ∈ wsX1_mayEnd := by decide +kernel
  refine lv_aload_n hx hb dX1_mayEnd_0 rfl (lv_at hl 0 rfl) ?_
  refine va_get (D := D) (ci := 1) (v := .int (nI dg)) (C := RX1) (T := TX1) (N := 6) hx hb hts hI1 hown hK.1 hP 0 rfl rfl 5 (by decide) lk48 (fun _ h9 => h9) rfl dX1_mayEnd_1 ?_
  refine lv_if_gt (tgt := 25) hx hb dX1_mayEnd_4 (by decide) (fun c4 => ?_) (fun c4 => ?_)
  · skip
    replace c4 : 0 < dg := by rw [show (0 : Int32) = nI 0 from rfl, nI_ltI (by omega) (by omega)] at c4; exact c4
    refine lv_iconst (v := (nI 1)) hx hb dX1_mayEnd_25 (by decide) ?_
    refine lv_goto (tgt := 30) hx hb dX1_mayEnd_26 (by decide) ?_
    exact RETN _ _ (nI 1) () _ _ dX1_mayEnd_30 (rfl) (bI_t (decide_eq_true (by omega))) hP hD hS
  · skip
    replace c4 : ¬ (0 < dg) := by rw [show (0 : Int32) = nI 0 from rfl, nI_ltI (by omega) (by omega)] at c4; exact c4
    refine lv_aload_n hx hb dX1_mayEnd_7 rfl (lv_at hl 0 rfl) ?_
    refine va_get (D := D) (ci := 1) (v := .int (nI k)) (C := RX1) (T := TX1) (N := 6) hx hb hts hI1 hown hK.1 hP 0 rfl rfl 0 (by decide) lk11 (fun _ h9 => h9) rfl dX1_mayEnd_8 ?_
    refine lv_bipush (v := (nI 116)) hx hb dX1_mayEnd_11 (by decide) ?_
    refine lv_icmp_eq (tgt := 25) hx hb dX1_mayEnd_13 (by decide) (fun c13 => ?_) (fun c13 => ?_)
    · skip
      replace c13 : k = 116 := by rw [nI_eq (by omega) (by omega)] at c13; exact c13
      refine lv_iconst (v := (nI 1)) hx hb dX1_mayEnd_25 (by decide) ?_
      refine lv_goto (tgt := 30) hx hb dX1_mayEnd_26 (by decide) ?_
      exact RETN _ _ (nI 1) () _ _ dX1_mayEnd_30 (rfl) (bI_t (decide_eq_true (by omega))) hP hD hS
    · skip
      replace c13 : ¬ (k = 116) := by rw [nI_eq (by omega) (by omega)] at c13; exact c13
      refine lv_aload_n hx hb dX1_mayEnd_16 rfl (lv_at hl 0 rfl) ?_
      refine va_get (D := D) (ci := 1) (v := .int (nI k)) (C := RX1) (T := TX1) (N := 6) hx hb hts hI1 hown hK.1 hP 0 rfl rfl 0 (by decide) lk11 (fun _ h9 => h9) rfl dX1_mayEnd_17 ?_
      refine lv_bipush (v := (nI 97)) hx hb dX1_mayEnd_20 (by decide) ?_
      refine lv_icmp_ne (tgt := 29) hx hb dX1_mayEnd_22 (by decide) (fun c22 => ?_) (fun c22 => ?_)
      · skip
        replace c22 : ¬ k = 97 := by rw [nI_eq (by omega) (by omega)] at c22; exact c22
        refine lv_iconst (v := (nI 0)) hx hb dX1_mayEnd_29 (by decide) ?_
        exact RETN _ _ (nI 0) () _ _ dX1_mayEnd_30 (rfl) (bI_f (decide_eq_false (by omega))) hP hD hS
      · skip
        replace c22 : k = 97 := by rw [nI_eq (by omega) (by omega)] at c22; exact c22
        refine lv_iconst (v := (nI 1)) hx hb dX1_mayEnd_25 (by decide) ?_
        refine lv_goto (tgt := 30) hx hb dX1_mayEnd_26 (by decide) ?_
        exact RETN _ _ (nI 1) () _ _ dX1_mayEnd_30 (rfl) (bI_t (decide_eq_true (by omega))) hP hD hS
set_option maxHeartbeats 4000000 in
set_option maxRecDepth 100000 in
theorem c_X1_readCharacter {l : Launch} {D : va_G} {cI cG cC cR : ClassId} {pp k lp hf fr nb dg : Nat} {ch pl : Nat} (hc : ch < 1000) (hk : k < 1000) (hi : ¬ k = 0 → hf ≤ 1 ∧ nb < 1000 ∧ dg < 1000 ∧ lp < pl) : CtI l yX1_readCharacter wsX1_readCharacter { frames := 1, cells := 0, slots := 0, locals := 22 } D (TY cI cG cC cR) [.ref pp, .int (nI ch), .int (nI pl)] ([PO pp k lp hf fr nb dg]) (fun (u : Nat → Nat) => [PO pp (u 0) (u 1) (u 2) (u 3) (u 4) (u 5)]) (fun (r : Int32) (u : Nat → Nat) => r = bI (rcOk k hf nb dg ch) ∧ (rcOk k hf nb dg ch = true → u = rcS k lp hf fr nb dg ch pl)) := by
  refine CtI.of (cc := cX1_readCharacter) (maxL := 3) (ty := .boolean) (by decide) rfl (Nat.le_of_ble_eq_true rfl) ?_
  intro P0 e0 s0 m0 a0 b0 t0 c0 A0 Q0 ls F hK hP hD hA RETN hl
  obtain ⟨hx, hb, hml, hown, hts⟩ := id F
  have hS : va_S A0 s0.heap s0.heap [] := va_S.rf
  have hl : lv_has ls 3 [(0, .ref pp), (1, .int (nI ch)), (2, .int (nI pl))] := hl
  have lk11 := hts (.fieldLink RX1 11 "SlotMaps$Program" "letter" "C") (by decide +kernel)
  have hI1 : ∀ w ∈ u_ws RX1 TX1 6, w ∈ wsX1_readCharacter := by decide +kernel
  refine lv_aload_n hx hb dX1_readCharacter_0 rfl (lv_at hl 0 rfl) ?_
  refine va_get (D := D) (ci := 1) (v := .int (nI k)) (C := RX1) (T := TX1) (N := 6) hx hb hts hI1 hown hK.1 hP 0 rfl rfl 0 (by decide) lk11 (fun _ h9 => h9) rfl dX1_readCharacter_1 ?_
  refine lv_if_ne (tgt := 14) hx hb dX1_readCharacter_4 (by decide) (fun c4 => ?_) (fun c4 => ?_)
  · skip
    replace c4 : ¬ k = 0 := by rw [show (0 : Int32) = nI 0 from rfl, nI_eq (by omega) (by omega)] at c4; exact c4
    obtain ⟨i1, i2, i3, i4⟩ := hi c4
    refine lv_iload_n hx hb dX1_readCharacter_14 rfl (lv_at hl 1 rfl) ?_
    refine lv_bipush (v := (nI 48)) hx hb dX1_readCharacter_15 (by decide) ?_
    refine lv_icmp_lt (tgt := 35) hx hb dX1_readCharacter_17 (by decide) (fun c17 => ?_) (fun c17 => ?_)
    · skip
      replace c17 : ch < 48 := by rw [nI_ltI (by omega) (by omega)] at c17; exact c17
      refine lv_iload_n hx hb dX1_readCharacter_35 rfl (lv_at hl 1 rfl) ?_
      refine lv_bipush (v := (nI 45)) hx hb dX1_readCharacter_36 (by decide) ?_
      refine lv_icmp_ne (tgt := 46) hx hb dX1_readCharacter_38 (by decide) (fun c38 => ?_) (fun c38 => ?_)
      · skip
        replace c38 : ¬ ch = 45 := by rw [nI_eq (by omega) (by omega)] at c38; exact c38
        refine lv_iload_n hx hb dX1_readCharacter_46 rfl (lv_at hl 1 rfl) ?_
        refine lv_bipush (v := (nI 59)) hx hb dX1_readCharacter_47 (by decide) ?_
        refine lv_icmp_ne (tgt := 63) hx hb dX1_readCharacter_49 (by decide) (fun c49 => ?_) (fun c49 => ?_)
        · skip
          replace c49 : ¬ ch = 59 := by rw [nI_eq (by omega) (by omega)] at c49; exact c49
          refine lv_iconst (v := (nI 0)) hx hb dX1_readCharacter_63 (by decide) ?_
          have e9 : rcOk k hf nb dg ch = false := by unfold rcOk; rw [if_neg c4, if_neg (by omega), if_neg (by omega)]; exact decide_eq_false (fun q => by omega)
          exact RETN _ _ (nI 0) (st6 k lp hf fr nb dg) _ _ dX1_readCharacter_64 (rfl) (by rw [e9]; exact ⟨rfl, fun q => absurd q (by decide)⟩) hP hD hS
        · skip
          replace c49 : ch = 59 := by rw [nI_eq (by omega) (by omega)] at c49; exact c49
          refine lv_aload_n hx hb dX1_readCharacter_52 rfl (lv_at hl 0 rfl) ?_
          refine cl_Vi (b := pp) (As := []) (rest := []) (wc := [PO pp k lp hf fr nb dg]) (wsN := fun (_ : Unit) => [PO pp k lp hf fr nb dg]) F hK hA hP hD hS (c_X1_mayEnd hk i3) (cwV 0 hts gX1_readCharacter_X1_mayEnd rfl rfl rfl (by decide +kernel) ⟨Nat.le_of_ble_eq_true rfl, Nat.le_of_ble_eq_true rfl⟩) [0] [] [0] ([]) rfl rfl (fun _ => rfl) (by decide) (by decide) 0 rfl rfl rfl hl.1 rfl (Nat.le_of_ble_eq_true rfl) ⟨Nat.zero_le _, Nat.zero_le _⟩ dX1_readCharacter_53 (fun r_2 _ H locs hw_1 hP hD hS => ?_)
          try dsimp only at hw_1 hP hD
          obtain rfl : r_2 = (bI (decide (0 < dg ∨ k = 116 ∨ k = 97))) := hw_1
          refine lv_if_eq (tgt := 63) hx hb dX1_readCharacter_56 (by decide) (fun c56 => ?_) (fun c56 => ?_)
          · skip
            replace c56 : (bI (decide (0 < dg ∨ k = 116 ∨ k = 97))) = nI 0 := c56
            have c56 := bI_cf c56
            refine lv_iconst (v := (nI 0)) hx hb dX1_readCharacter_63 (by decide) ?_
            have e9 : rcOk k hf nb dg ch = false := by unfold rcOk; rw [if_neg c4, if_neg (by omega), if_neg (by omega)]; exact decide_eq_false (fun q => of_decide_eq_false c56 q.2)
            exact RETN _ _ (nI 0) (st6 k lp hf fr nb dg) _ _ dX1_readCharacter_64 (rfl) (by rw [e9]; exact ⟨rfl, fun q => absurd q (by decide)⟩) hP hD hS
          · skip
            replace c56 : ¬ (bI (decide (0 < dg ∨ k = 116 ∨ k = 97))) = nI 0 := c56
            have c56 := bI_ct c56
            refine lv_iconst (v := (nI 1)) hx hb dX1_readCharacter_59 (by decide) ?_
            refine lv_goto (tgt := 64) hx hb dX1_readCharacter_60 (by decide) ?_
            have e9 : rcOk k hf nb dg ch = decide (ch = 59 ∧ (0 < dg ∨ k = 116 ∨ k = 97)) := by unfold rcOk; rw [if_neg c4, if_neg (by omega), if_neg (by omega)]
            exact RETN _ _ (nI 1) (st6 k lp hf fr nb dg) _ _ dX1_readCharacter_64 (rfl) (by rw [e9]; exact ⟨bI_t (decide_eq_true ⟨by omega, of_decide_eq_true c56⟩), fun _ => Eq.symm (by unfold rcS; rw [if_neg c4, if_neg (by omega), if_neg (by omega)])⟩) hP hD hS
      · skip
        replace c38 : ch = 45 := by rw [nI_eq (by omega) (by omega)] at c38; exact c38
        refine lv_aload_n hx hb dX1_readCharacter_41 rfl (lv_at hl 0 rfl) ?_
        refine cl_Vi (b := pp) (As := []) (rest := []) (wc := [PO pp k lp hf fr nb dg]) (wsN := fun (u9 : Nat → Nat) => [PO pp (u9 0) (u9 1) (u9 2) (u9 3) (u9 4) (u9 5)]) F hK hA hP hD hS (c_X1_readDash hk i1 i3) (cwV 0 hts gX1_readCharacter_X1_readDash rfl rfl rfl (by decide +kernel) ⟨Nat.le_of_ble_eq_true rfl, Nat.le_of_ble_eq_true rfl⟩) [0] [] [0] ([]) rfl rfl (fun _ => rfl) (by decide) (by decide) 0 rfl rfl rfl hl.1 rfl (Nat.le_of_ble_eq_true rfl) ⟨Nat.zero_le _, Nat.zero_le _⟩ dX1_readCharacter_42 (fun r_4 u9 H locs hw_3 hP hD hS => ?_)
        try dsimp only at hw_3 hP hD
        obtain rfl : r_4 = (bI (decide (k = 102 ∧ hf = 0 ∧ dg ≠ 0))) := hw_3.1
        have hq := hw_3.2
        have e9 : rcOk k hf nb dg ch = decide (k = 102 ∧ hf = 0 ∧ dg ≠ 0) := by unfold rcOk; rw [if_neg c4, if_neg (by omega), if_pos (by omega)]
        exact RETN _ _ (bI (decide (k = 102 ∧ hf = 0 ∧ dg ≠ 0))) u9 _ _ dX1_readCharacter_45 (bI_z _) (by rw [e9]; exact ⟨rfl, fun q => by rw [hq q]; exact Eq.symm (by unfold rcS; rw [if_neg c4, if_neg (by omega), if_pos (by omega)])⟩) hP hD hS
    · skip
      replace c17 : ¬ (ch < 48) := by rw [nI_ltI (by omega) (by omega)] at c17; exact c17
      refine lv_iload_n hx hb dX1_readCharacter_20 rfl (lv_at hl 1 rfl) ?_
      refine lv_bipush (v := (nI 57)) hx hb dX1_readCharacter_21 (by decide) ?_
      refine lv_icmp_gt (tgt := 35) hx hb dX1_readCharacter_23 (by decide) (fun c23 => ?_) (fun c23 => ?_)
      · skip
        replace c23 : 57 < ch := by rw [nI_ltI (by omega) (by omega)] at c23; exact c23
        refine lv_iload_n hx hb dX1_readCharacter_35 rfl (lv_at hl 1 rfl) ?_
        refine lv_bipush (v := (nI 45)) hx hb dX1_readCharacter_36 (by decide) ?_
        refine lv_icmp_ne (tgt := 46) hx hb dX1_readCharacter_38 (by decide) (fun c38 => ?_) (fun c38 => ?_)
        · skip
          replace c38 : ¬ ch = 45 := by rw [nI_eq (by omega) (by omega)] at c38; exact c38
          refine lv_iload_n hx hb dX1_readCharacter_46 rfl (lv_at hl 1 rfl) ?_
          refine lv_bipush (v := (nI 59)) hx hb dX1_readCharacter_47 (by decide) ?_
          refine lv_icmp_ne (tgt := 63) hx hb dX1_readCharacter_49 (by decide) (fun c49 => ?_) (fun c49 => ?_)
          · skip
            replace c49 : ¬ ch = 59 := by rw [nI_eq (by omega) (by omega)] at c49; exact c49
            refine lv_iconst (v := (nI 0)) hx hb dX1_readCharacter_63 (by decide) ?_
            have e9 : rcOk k hf nb dg ch = false := by unfold rcOk; rw [if_neg c4, if_neg (by omega), if_neg (by omega)]; exact decide_eq_false (fun q => by omega)
            exact RETN _ _ (nI 0) (st6 k lp hf fr nb dg) _ _ dX1_readCharacter_64 (rfl) (by rw [e9]; exact ⟨rfl, fun q => absurd q (by decide)⟩) hP hD hS
          · skip
            replace c49 : ch = 59 := by rw [nI_eq (by omega) (by omega)] at c49; exact c49
            refine lv_aload_n hx hb dX1_readCharacter_52 rfl (lv_at hl 0 rfl) ?_
            refine cl_Vi (b := pp) (As := []) (rest := []) (wc := [PO pp k lp hf fr nb dg]) (wsN := fun (_ : Unit) => [PO pp k lp hf fr nb dg]) F hK hA hP hD hS (c_X1_mayEnd hk i3) (cwV 0 hts gX1_readCharacter_X1_mayEnd rfl rfl rfl (by decide +kernel) ⟨Nat.le_of_ble_eq_true rfl, Nat.le_of_ble_eq_true rfl⟩) [0] [] [0] ([]) rfl rfl (fun _ => rfl) (by decide) (by decide) 0 rfl rfl rfl hl.1 rfl (Nat.le_of_ble_eq_true rfl) ⟨Nat.zero_le _, Nat.zero_le _⟩ dX1_readCharacter_53 (fun r_6 _ H locs hw_5 hP hD hS => ?_)
            try dsimp only at hw_5 hP hD
            obtain rfl : r_6 = (bI (decide (0 < dg ∨ k = 116 ∨ k = 97))) := hw_5
            refine lv_if_eq (tgt := 63) hx hb dX1_readCharacter_56 (by decide) (fun c56 => ?_) (fun c56 => ?_)
            · skip
              replace c56 : (bI (decide (0 < dg ∨ k = 116 ∨ k = 97))) = nI 0 := c56
              have c56 := bI_cf c56
              refine lv_iconst (v := (nI 0)) hx hb dX1_readCharacter_63 (by decide) ?_
              have e9 : rcOk k hf nb dg ch = false := by unfold rcOk; rw [if_neg c4, if_neg (by omega), if_neg (by omega)]; exact decide_eq_false (fun q => of_decide_eq_false c56 q.2)
              exact RETN _ _ (nI 0) (st6 k lp hf fr nb dg) _ _ dX1_readCharacter_64 (rfl) (by rw [e9]; exact ⟨rfl, fun q => absurd q (by decide)⟩) hP hD hS
            · skip
              replace c56 : ¬ (bI (decide (0 < dg ∨ k = 116 ∨ k = 97))) = nI 0 := c56
              have c56 := bI_ct c56
              refine lv_iconst (v := (nI 1)) hx hb dX1_readCharacter_59 (by decide) ?_
              refine lv_goto (tgt := 64) hx hb dX1_readCharacter_60 (by decide) ?_
              have e9 : rcOk k hf nb dg ch = decide (ch = 59 ∧ (0 < dg ∨ k = 116 ∨ k = 97)) := by unfold rcOk; rw [if_neg c4, if_neg (by omega), if_neg (by omega)]
              exact RETN _ _ (nI 1) (st6 k lp hf fr nb dg) _ _ dX1_readCharacter_64 (rfl) (by rw [e9]; exact ⟨bI_t (decide_eq_true ⟨by omega, of_decide_eq_true c56⟩), fun _ => Eq.symm (by unfold rcS; rw [if_neg c4, if_neg (by omega), if_neg (by omega)])⟩) hP hD hS
        · skip
          replace c38 : ch = 45 := by rw [nI_eq (by omega) (by omega)] at c38; exact c38
          refine lv_aload_n hx hb dX1_readCharacter_41 rfl (lv_at hl 0 rfl) ?_
          refine cl_Vi (b := pp) (As := []) (rest := []) (wc := [PO pp k lp hf fr nb dg]) (wsN := fun (u9 : Nat → Nat) => [PO pp (u9 0) (u9 1) (u9 2) (u9 3) (u9 4) (u9 5)]) F hK hA hP hD hS (c_X1_readDash hk i1 i3) (cwV 0 hts gX1_readCharacter_X1_readDash rfl rfl rfl (by decide +kernel) ⟨Nat.le_of_ble_eq_true rfl, Nat.le_of_ble_eq_true rfl⟩) [0] [] [0] ([]) rfl rfl (fun _ => rfl) (by decide) (by decide) 0 rfl rfl rfl hl.1 rfl (Nat.le_of_ble_eq_true rfl) ⟨Nat.zero_le _, Nat.zero_le _⟩ dX1_readCharacter_42 (fun r_8 u9 H locs hw_7 hP hD hS => ?_)
          try dsimp only at hw_7 hP hD
          obtain rfl : r_8 = (bI (decide (k = 102 ∧ hf = 0 ∧ dg ≠ 0))) := hw_7.1
          have hq := hw_7.2
          have e9 : rcOk k hf nb dg ch = decide (k = 102 ∧ hf = 0 ∧ dg ≠ 0) := by unfold rcOk; rw [if_neg c4, if_neg (by omega), if_pos (by omega)]
          exact RETN _ _ (bI (decide (k = 102 ∧ hf = 0 ∧ dg ≠ 0))) u9 _ _ dX1_readCharacter_45 (bI_z _) (by rw [e9]; exact ⟨rfl, fun q => by rw [hq q]; exact Eq.symm (by unfold rcS; rw [if_neg c4, if_neg (by omega), if_pos (by omega)])⟩) hP hD hS
      · skip
        replace c23 : ¬ (57 < ch) := by rw [nI_ltI (by omega) (by omega)] at c23; exact c23
        refine lv_aload_n hx hb dX1_readCharacter_26 rfl (lv_at hl 0 rfl) ?_
        refine lv_iload_n hx hb dX1_readCharacter_27 rfl (lv_at hl 1 rfl) ?_
        refine lv_bipush (v := (nI 48)) hx hb dX1_readCharacter_28 (by decide) ?_
        refine lv_isub hx hb dX1_readCharacter_30 ?_
        refine n_as (x' := nI (ch - 48)) (pk_sub (by omega)) ?_
        refine cl_Vi (b := pp) (As := [.int (nI (ch - 48))]) (rest := []) (wc := [PO pp k lp hf fr nb dg]) (wsN := fun (u9 : Nat → Nat) => [PO pp (u9 0) (u9 1) (u9 2) (u9 3) (u9 4) (u9 5)]) F hK hA hP hD hS (c_X1_readDigit (d := ch - 48) (by omega) hk i2 i3) (cwV 1 hts gX1_readCharacter_X1_readDigit rfl rfl rfl (by decide +kernel) ⟨Nat.le_of_ble_eq_true rfl, Nat.le_of_ble_eq_true rfl⟩) [0] [] [0] ([]) rfl rfl (fun _ => rfl) (by decide) (by decide) 0 rfl rfl rfl hl.1 rfl (Nat.le_of_ble_eq_true rfl) ⟨Nat.zero_le _, Nat.zero_le _⟩ dX1_readCharacter_31 (fun r_10 u9 H locs hw_9 hP hD hS => ?_)
        try dsimp only at hw_9 hP hD
        obtain rfl : r_10 = (bI (decide (k ≠ 97 ∧ dg ≠ 3 ∧ ¬ (dg = 1 ∧ nb = 0)))) := hw_9.1
        have hq := hw_9.2
        have e9 : rcOk k hf nb dg ch = decide (k ≠ 97 ∧ dg ≠ 3 ∧ ¬ (dg = 1 ∧ nb = 0)) := by unfold rcOk; rw [if_neg c4, if_pos (by omega)]
        exact RETN _ _ (bI (decide (k ≠ 97 ∧ dg ≠ 3 ∧ ¬ (dg = 1 ∧ nb = 0)))) u9 _ _ dX1_readCharacter_34 (bI_z _) (by rw [e9]; exact ⟨rfl, fun q => by rw [hq q]; exact Eq.symm (by unfold rcS; rw [if_neg c4, if_pos (by omega)])⟩) hP hD hS
  · skip
    replace c4 : k = 0 := by rw [show (0 : Int32) = nI 0 from rfl, nI_eq (by omega) (by omega)] at c4; exact c4
    refine lv_aload_n hx hb dX1_readCharacter_7 rfl (lv_at hl 0 rfl) ?_
    refine lv_iload_n hx hb dX1_readCharacter_8 rfl (lv_at hl 1 rfl) ?_
    refine lv_iload_n hx hb dX1_readCharacter_9 rfl (lv_at hl 2 rfl) ?_
    refine cl_Vi (b := pp) (As := [.int (nI ch), .int (nI pl)]) (rest := []) (wc := [PO pp k lp hf fr nb dg]) (wsN := fun (u9 : Nat → Nat) => [PO pp (u9 0) (u9 1) (u9 2) (u9 3) (u9 4) (u9 5)]) F hK hA hP hD hS (c_X1_readLetter hc) (cwV 2 hts gX1_readCharacter_X1_readLetter rfl rfl rfl (by decide +kernel) ⟨Nat.le_of_ble_eq_true rfl, Nat.le_of_ble_eq_true rfl⟩) [0] [] [0] ([]) rfl rfl (fun _ => rfl) (by decide) (by decide) 0 rfl rfl rfl hl.1 rfl (Nat.le_of_ble_eq_true rfl) ⟨Nat.zero_le _, Nat.zero_le _⟩ dX1_readCharacter_10 (fun r_12 u9 H locs hw_11 hP hD hS => ?_)
    try dsimp only at hw_11 hP hD
    obtain rfl : r_12 = (bI (ltN ch)) := hw_11.1
    have hq := hw_11.2
    have e9 : rcOk k hf nb dg ch = ltN ch := by unfold rcOk; rw [if_pos c4]
    exact RETN _ _ (bI (ltN ch)) u9 _ _ dX1_readCharacter_13 (bI_z _) (by rw [e9]; exact ⟨rfl, fun q => by rw [hq q]; exact Eq.symm (by unfold rcS; rw [if_pos c4])⟩) hP hD hS
set_option maxHeartbeats 4000000 in
set_option maxRecDepth 100000 in
theorem c_X1_perform {l : Launch} {D : va_G} {cI cG cC cR : ClassId} {pp k lp hf fr nb dg : Nat} {a : Nat → Nat} {f : Nat → Int32} {V : Nat → Nat → Int32} (hk : ltN k = true) (hhf : hf ≤ 1) (hdg : dg < 1000) (R : RepS f V) (hI : Inv f) : CtI l yX1_perform wsX1_perform { frames := 5, cells := 0, slots := 0, locals := 119 } D (TY cI cG cC cR) [.ref pp, .ref (a 0)] (PO pp k lp hf fr nb dg :: SW a cI cG V) (fun (u : Nat → Nat → Int32) => PO pp k lp hf fr nb dg :: SW a cI cG u) (fun (r : Int32) (u : Nat → Nat → Int32) => (r < 0 ↔ (doA f k (nI (oneN k hf fr nb dg)) (nI nb)).1 < 0) ∧ RepS (doA f k (nI (oneN k hf fr nb dg)) (nI nb)).2 u) := by
  refine CtI.of (cc := cX1_perform) (maxL := 2) (ty := .int) (by decide) rfl (Nat.le_of_ble_eq_true rfl) ?_
  intro P0 e0 s0 m0 a0 b0 t0 c0 A0 Q0 ls F hK hP hD hA RETN hl
  obtain ⟨hx, hb, hml, hown, hts⟩ := id F
  have hS : va_S A0 s0.heap s0.heap [] := va_S.rf
  have hl : lv_has ls 2 [(0, .ref pp), (1, .ref (a 0))] := hl
  obtain ⟨ki, kb, kB, kz, ko⟩ := id hI
  have hk9 : k < 1000 := by have := ltN_t hk; omega
  have lk11 := hts (.fieldLink RX1 11 "SlotMaps$Program" "letter" "C") (by decide +kernel)
  have lk41 := hts (.fieldLink RX1 41 "SlotMaps$Program" "hasFrom" "Z") (by decide +kernel)
  have lk45 := hts (.fieldLink RX1 45 "SlotMaps$Program" "number" "I") (by decide +kernel)
  have lk48 := hts (.fieldLink RX1 48 "SlotMaps$Program" "digits" "I") (by decide +kernel)
  have lk51 := hts (.fieldLink RX1 51 "SlotMaps$Program" "from" "I") (by decide +kernel)
  have hI1 : ∀ w ∈ u_ws RX1 TX1 6, w ∈ wsX1_perform := by decide +kernel
  refine lv_aload_n hx hb dX1_perform_0 rfl (lv_at hl 0 rfl) ?_
  refine va_get (D := D) (ci := 1) (v := .int (nI k)) (C := RX1) (T := TX1) (N := 6) hx hb hts hI1 hown hK.1 hP 0 rfl rfl 0 (by decide) lk11 (fun _ h9 => h9) rfl dX1_perform_1 ?_
  rcases (show (k < 98 ∨ 116 < k) ∨ (98 ≤ k ∧ k ≤ 116) by omega) with hsw | hsw
  · skip
    refine lv_tableOut (tgt := 179) hx hb dX1_perform_4 (by rw [nI_toInt (by omega)]; omega) (by decide) ?_
    have hk97 : k = 97 := by have := ltN_t hk; omega
    refine lv_aload_n hx hb dX1_perform_179 rfl (lv_at hl 1 rfl) ?_
    refine cl_Vi (b := (a 0)) (As := []) (rest := []) (wc := SW a cI cG V) (wsN := fun (u9 : Nat → Nat → Int32) => PO pp k lp hf fr nb dg :: SW a cI cG u9) F hK hA hP hD hS (c_X2_repairBits R kb) (cwV 0 hts gX1_perform_X2_repairBits rfl rfl rfl (by decide +kernel) ⟨Nat.le_of_ble_eq_true rfl, Nat.le_of_ble_eq_true rfl⟩) [1, 2, 3, 4, 5, 6, 7, 8] [0] [0, 1, 2, 3, 4, 5, 6, 7, 8] ([(pp, .inr (1, [.int (nI k), .int (nI lp), .int (nI hf), .int (nI fr), .int (nI nb), .int (nI dg)]))]) rfl rfl (fun _ => rfl) (by decide) (by decide) 0 rfl rfl rfl hl.1 rfl (Nat.le_of_ble_eq_true rfl) ⟨Nat.zero_le _, Nat.zero_le _⟩ dX1_perform_180 (fun r_2 u9 H locs hw_1 hP hD hS => ?_)
    try dsimp only at hw_1 hP hD
    have hq := hw_1
    exact RETN _ _ r_2 u9 _ _ dX1_perform_183 (rfl) (by rw [hk97, doA_a]; exact ⟨by rw [hq.1], hq.2⟩) hP hD hS
  · skip
    rcases (show k = 98 ∨ k = 99 ∨ k = 100 ∨ k = 101 ∨ k = 102 ∨ k = 103 ∨ k = 104 ∨ k = 105 ∨ k = 106 ∨ k = 107 ∨ k = 108 ∨ k = 109 ∨ k = 110 ∨ k = 111 ∨ k = 112 ∨ k = 113 ∨ k = 114 ∨ k = 115 ∨ k = 116 by omega) with rfl | rfl | rfl | rfl | rfl | rfl | rfl | rfl | rfl | rfl | rfl | rfl | rfl | rfl | rfl | rfl | rfl | rfl | rfl
    · skip
      refine lv_tableIn (off := 157) (tgt := 161) hx hb dX1_perform_4 (by decide) (by decide) rfl (by decide) ?_
      refine lv_aload_n hx hb dX1_perform_161 rfl (lv_at hl 1 rfl) ?_
      refine lv_aload_n hx hb dX1_perform_162 rfl (lv_at hl 0 rfl) ?_
      refine va_get (D := D) (ci := 1) (v := .int (nI nb)) (C := RX1) (T := TX1) (N := 6) hx hb hts hI1 hown hK.1 hP 0 rfl rfl 4 (by decide) lk45 (fun _ h9 => h9) rfl dX1_perform_163 ?_
      refine cl_Vi (b := (a 0)) (As := [.int (nI nb)]) (rest := []) (wc := SW a cI cG V) (wsN := fun (u9 : Nat → Nat → Int32) => PO pp 98 lp hf fr nb dg :: SW a cI cG u9) F hK hA hP hD hS (c_X2_takeInBlock R kB kz) (cwV 1 hts gX1_perform_X2_takeInBlock rfl rfl rfl (by decide +kernel) ⟨Nat.le_of_ble_eq_true rfl, Nat.le_of_ble_eq_true rfl⟩) [1, 2, 3, 4, 5, 6, 7, 8] [0] [0, 1, 2, 3, 4, 5, 6, 7, 8] ([(pp, .inr (1, [.int (nI 98), .int (nI lp), .int (nI hf), .int (nI fr), .int (nI nb), .int (nI dg)]))]) rfl rfl (fun _ => rfl) (by decide) (by decide) 0 rfl rfl rfl hl.1 rfl (Nat.le_of_ble_eq_true rfl) ⟨Nat.zero_le _, Nat.zero_le _⟩ dX1_perform_166 (fun r_4 u9 H locs hw_3 hP hD hS => ?_)
      try dsimp only at hw_3 hP hD
      have hq := hw_3
      exact RETN _ _ r_4 u9 _ _ dX1_perform_169 (rfl) (by rw [doA_b, oneN_o (by decide) (by decide)]; exact ⟨by rw [hq.1], hq.2⟩) hP hD hS
    · skip
      refine lv_tableIn (off := 139) (tgt := 143) hx hb dX1_perform_4 (by decide) (by decide) rfl (by decide) ?_
      refine lv_aload_n hx hb dX1_perform_143 rfl (lv_at hl 1 rfl) ?_
      refine lv_aload_n hx hb dX1_perform_144 rfl (lv_at hl 0 rfl) ?_
      refine va_get (D := D) (ci := 1) (v := .int (nI nb)) (C := RX1) (T := TX1) (N := 6) hx hb hts hI1 hown hK.1 hP 0 rfl rfl 4 (by decide) lk45 (fun _ h9 => h9) rfl dX1_perform_145 ?_
      refine cl_Vi (b := (a 0)) (As := [.int (nI nb)]) (rest := []) (wc := SW a cI cG V) (wsN := fun (u9 : Nat → Nat → Int32) => PO pp 99 lp hf fr nb dg :: SW a cI cG u9) F hK hA hP hD hS (c_X2_clearWords R) (cwV 1 hts gX1_perform_X2_clearWords rfl rfl rfl (by decide +kernel) ⟨Nat.le_of_ble_eq_true rfl, Nat.le_of_ble_eq_true rfl⟩) [1, 2, 3, 4, 5, 6, 7, 8] [0] [0, 1, 2, 3, 4, 5, 6, 7, 8] ([(pp, .inr (1, [.int (nI 99), .int (nI lp), .int (nI hf), .int (nI fr), .int (nI nb), .int (nI dg)]))]) rfl rfl (fun _ => rfl) (by decide) (by decide) 0 rfl rfl rfl hl.1 rfl (Nat.le_of_ble_eq_true rfl) ⟨Nat.zero_le _, Nat.zero_le _⟩ dX1_perform_148 (fun r_6 u9 H locs hw_5 hP hD hS => ?_)
      try dsimp only at hw_5 hP hD
      have hq := hw_5
      exact RETN _ _ r_6 u9 _ _ dX1_perform_151 (rfl) (by rw [doA_c, oneN_o (by decide) (by decide)]; exact ⟨by rw [hq.1], hq.2⟩) hP hD hS
    · skip
      refine lv_tableIn (off := 166) (tgt := 170) hx hb dX1_perform_4 (by decide) (by decide) rfl (by decide) ?_
      refine lv_aload_n hx hb dX1_perform_170 rfl (lv_at hl 1 rfl) ?_
      refine lv_aload_n hx hb dX1_perform_171 rfl (lv_at hl 0 rfl) ?_
      refine va_get (D := D) (ci := 1) (v := .int (nI nb)) (C := RX1) (T := TX1) (N := 6) hx hb hts hI1 hown hK.1 hP 0 rfl rfl 4 (by decide) lk45 (fun _ h9 => h9) rfl dX1_perform_172 ?_
      refine cl_Vi (b := (a 0)) (As := [.int (nI nb)]) (rest := []) (wc := SW a cI cG V) (wsN := fun (u9 : Nat → Nat → Int32) => PO pp 100 lp hf fr nb dg :: SW a cI cG u9) F hK hA hP hD hS (c_X2_damageBit R kb) (cwV 1 hts gX1_perform_X2_damageBit rfl rfl rfl (by decide +kernel) ⟨Nat.le_of_ble_eq_true rfl, Nat.le_of_ble_eq_true rfl⟩) [1, 2, 3, 4, 5, 6, 7, 8] [0] [0, 1, 2, 3, 4, 5, 6, 7, 8] ([(pp, .inr (1, [.int (nI 100), .int (nI lp), .int (nI hf), .int (nI fr), .int (nI nb), .int (nI dg)]))]) rfl rfl (fun _ => rfl) (by decide) (by decide) 0 rfl rfl rfl hl.1 rfl (Nat.le_of_ble_eq_true rfl) ⟨Nat.zero_le _, Nat.zero_le _⟩ dX1_perform_175 (fun r_8 u9 H locs hw_7 hP hD hS => ?_)
      try dsimp only at hw_7 hP hD
      have hq := hw_7
      exact RETN _ _ r_8 u9 _ _ dX1_perform_178 (rfl) (by rw [doA_d, oneN_o (by decide) (by decide)]; exact ⟨by rw [hq.1], hq.2⟩) hP hD hS
    · skip
      refine lv_tableIn (off := 175) (tgt := 179) hx hb dX1_perform_4 (by decide) (by decide) rfl (by decide) ?_
      exact absurd hk (by decide)
    · skip
      refine lv_tableIn (off := 112) (tgt := 116) hx hb dX1_perform_4 (by decide) (by decide) rfl (by decide) ?_
      refine lv_aload_n hx hb dX1_perform_116 rfl (lv_at hl 1 rfl) ?_
      refine lv_aload_n hx hb dX1_perform_117 rfl (lv_at hl 0 rfl) ?_
      refine va_get (D := D) (ci := 1) (v := .int (nI hf)) (C := RX1) (T := TX1) (N := 6) hx hb hts hI1 hown hK.1 hP 0 rfl rfl 2 (by decide) lk41 (fun _ h9 => h9) rfl dX1_perform_118 ?_
      refine lv_if_eq (tgt := 131) hx hb dX1_perform_121 (by decide) (fun c121 => ?_) (fun c121 => ?_)
      · skip
        replace c121 : hf = 0 := by rw [show (0 : Int32) = nI 0 from rfl, nI_eq (by omega) (by omega)] at c121; exact c121
        refine lv_aload_n hx hb dX1_perform_131 rfl (lv_at hl 0 rfl) ?_
        refine va_get (D := D) (ci := 1) (v := .int (nI nb)) (C := RX1) (T := TX1) (N := 6) hx hb hts hI1 hown hK.1 hP 0 rfl rfl 4 (by decide) lk45 (fun _ h9 => h9) rfl dX1_perform_132 ?_
        refine lv_aload_n hx hb dX1_perform_135 rfl (lv_at hl 0 rfl) ?_
        refine va_get (D := D) (ci := 1) (v := .int (nI nb)) (C := RX1) (T := TX1) (N := 6) hx hb hts hI1 hown hK.1 hP 0 rfl rfl 4 (by decide) lk45 (fun _ h9 => h9) rfl dX1_perform_136 ?_
        refine cl_Vi (b := (a 0)) (As := [.int (nI nb), .int (nI nb)]) (rest := []) (wc := SW a cI cG V) (wsN := fun (u9 : Nat → Nat → Int32) => PO pp 102 lp hf fr nb dg :: SW a cI cG u9) F hK hA hP hD hS (c_X2_giveBackRange R kB kz ko) (cwV 2 hts gX1_perform_X2_giveBackRange rfl rfl rfl (by decide +kernel) ⟨Nat.le_of_ble_eq_true rfl, Nat.le_of_ble_eq_true rfl⟩) [1, 2, 3, 4, 5, 6, 7, 8] [0] [0, 1, 2, 3, 4, 5, 6, 7, 8] ([(pp, .inr (1, [.int (nI 102), .int (nI lp), .int (nI hf), .int (nI fr), .int (nI nb), .int (nI dg)]))]) rfl rfl (fun _ => rfl) (by decide) (by decide) 0 rfl rfl rfl hl.1 rfl (Nat.le_of_ble_eq_true rfl) ⟨Nat.zero_le _, Nat.zero_le _⟩ dX1_perform_139 (fun r_10 u9 H locs hw_9 hP hD hS => ?_)
        try dsimp only at hw_9 hP hD
        have hq := hw_9
        exact RETN _ _ r_10 u9 _ _ dX1_perform_142 (rfl) (by rw [doA_f, oneN_f, if_neg (by omega)]; exact ⟨by rw [hq.1], hq.2⟩) hP hD hS
      · skip
        replace c121 : ¬ (hf = 0) := by rw [show (0 : Int32) = nI 0 from rfl, nI_eq (by omega) (by omega)] at c121; exact c121
        refine lv_aload_n hx hb dX1_perform_124 rfl (lv_at hl 0 rfl) ?_
        refine va_get (D := D) (ci := 1) (v := .int (nI fr)) (C := RX1) (T := TX1) (N := 6) hx hb hts hI1 hown hK.1 hP 0 rfl rfl 3 (by decide) lk51 (fun _ h9 => h9) rfl dX1_perform_125 ?_
        refine lv_goto (tgt := 135) hx hb dX1_perform_128 (by decide) ?_
        refine lv_aload_n hx hb dX1_perform_135 rfl (lv_at hl 0 rfl) ?_
        refine va_get (D := D) (ci := 1) (v := .int (nI nb)) (C := RX1) (T := TX1) (N := 6) hx hb hts hI1 hown hK.1 hP 0 rfl rfl 4 (by decide) lk45 (fun _ h9 => h9) rfl dX1_perform_136 ?_
        refine cl_Vi (b := (a 0)) (As := [.int (nI fr), .int (nI nb)]) (rest := []) (wc := SW a cI cG V) (wsN := fun (u9 : Nat → Nat → Int32) => PO pp 102 lp hf fr nb dg :: SW a cI cG u9) F hK hA hP hD hS (c_X2_giveBackRange R kB kz ko) (cwV 2 hts gX1_perform_X2_giveBackRange rfl rfl rfl (by decide +kernel) ⟨Nat.le_of_ble_eq_true rfl, Nat.le_of_ble_eq_true rfl⟩) [1, 2, 3, 4, 5, 6, 7, 8] [0] [0, 1, 2, 3, 4, 5, 6, 7, 8] ([(pp, .inr (1, [.int (nI 102), .int (nI lp), .int (nI hf), .int (nI fr), .int (nI nb), .int (nI dg)]))]) rfl rfl (fun _ => rfl) (by decide) (by decide) 0 rfl rfl rfl hl.1 rfl (Nat.le_of_ble_eq_true rfl) ⟨Nat.zero_le _, Nat.zero_le _⟩ dX1_perform_139 (fun r_12 u9 H locs hw_11 hP hD hS => ?_)
        try dsimp only at hw_11 hP hD
        have hq := hw_11
        exact RETN _ _ r_12 u9 _ _ dX1_perform_142 (rfl) (by rw [doA_f, oneN_f, if_pos (by omega)]; exact ⟨by rw [hq.1], hq.2⟩) hP hD hS
    · skip
      refine lv_tableIn (off := 175) (tgt := 179) hx hb dX1_perform_4 (by decide) (by decide) rfl (by decide) ?_
      exact absurd hk (by decide)
    · skip
      refine lv_tableIn (off := 175) (tgt := 179) hx hb dX1_perform_4 (by decide) (by decide) rfl (by decide) ?_
      exact absurd hk (by decide)
    · skip
      refine lv_tableIn (off := 175) (tgt := 179) hx hb dX1_perform_4 (by decide) (by decide) rfl (by decide) ?_
      exact absurd hk (by decide)
    · skip
      refine lv_tableIn (off := 175) (tgt := 179) hx hb dX1_perform_4 (by decide) (by decide) rfl (by decide) ?_
      exact absurd hk (by decide)
    · skip
      refine lv_tableIn (off := 175) (tgt := 179) hx hb dX1_perform_4 (by decide) (by decide) rfl (by decide) ?_
      exact absurd hk (by decide)
    · skip
      refine lv_tableIn (off := 175) (tgt := 179) hx hb dX1_perform_4 (by decide) (by decide) rfl (by decide) ?_
      exact absurd hk (by decide)
    · skip
      refine lv_tableIn (off := 175) (tgt := 179) hx hb dX1_perform_4 (by decide) (by decide) rfl (by decide) ?_
      exact absurd hk (by decide)
    · skip
      refine lv_tableIn (off := 175) (tgt := 179) hx hb dX1_perform_4 (by decide) (by decide) rfl (by decide) ?_
      exact absurd hk (by decide)
    · skip
      refine lv_tableIn (off := 175) (tgt := 179) hx hb dX1_perform_4 (by decide) (by decide) rfl (by decide) ?_
      exact absurd hk (by decide)
    · skip
      refine lv_tableIn (off := 175) (tgt := 179) hx hb dX1_perform_4 (by decide) (by decide) rfl (by decide) ?_
      exact absurd hk (by decide)
    · skip
      refine lv_tableIn (off := 175) (tgt := 179) hx hb dX1_perform_4 (by decide) (by decide) rfl (by decide) ?_
      exact absurd hk (by decide)
    · skip
      refine lv_tableIn (off := 148) (tgt := 152) hx hb dX1_perform_4 (by decide) (by decide) rfl (by decide) ?_
      refine lv_aload_n hx hb dX1_perform_152 rfl (lv_at hl 1 rfl) ?_
      refine lv_aload_n hx hb dX1_perform_153 rfl (lv_at hl 0 rfl) ?_
      refine va_get (D := D) (ci := 1) (v := .int (nI nb)) (C := RX1) (T := TX1) (N := 6) hx hb hts hI1 hown hK.1 hP 0 rfl rfl 4 (by decide) lk45 (fun _ h9 => h9) rfl dX1_perform_154 ?_
      refine cl_Vi (b := (a 0)) (As := [.int (nI nb)]) (rest := []) (wc := SW a cI cG V) (wsN := fun (u9 : Nat → Nat → Int32) => PO pp 114 lp hf fr nb dg :: SW a cI cG u9) F hK hA hP hD hS (c_X2_reserveBlock R kz) (cwV 1 hts gX1_perform_X2_reserveBlock rfl rfl rfl (by decide +kernel) ⟨Nat.le_of_ble_eq_true rfl, Nat.le_of_ble_eq_true rfl⟩) [1, 2, 3, 4, 5, 6, 7, 8] [0] [0, 1, 2, 3, 4, 5, 6, 7, 8] ([(pp, .inr (1, [.int (nI 114), .int (nI lp), .int (nI hf), .int (nI fr), .int (nI nb), .int (nI dg)]))]) rfl rfl (fun _ => rfl) (by decide) (by decide) 0 rfl rfl rfl hl.1 rfl (Nat.le_of_ble_eq_true rfl) ⟨Nat.zero_le _, Nat.zero_le _⟩ dX1_perform_157 (fun r_14 u9 H locs hw_13 hP hD hS => ?_)
      try dsimp only at hw_13 hP hD
      have hq := hw_13
      exact RETN _ _ r_14 u9 _ _ dX1_perform_160 (rfl) (by rw [doA_r, oneN_o (by decide) (by decide)]; exact ⟨by rw [hq.1], hq.2⟩) hP hD hS
    · skip
      refine lv_tableIn (off := 175) (tgt := 179) hx hb dX1_perform_4 (by decide) (by decide) rfl (by decide) ?_
      exact absurd hk (by decide)
    · skip
      refine lv_tableIn (off := 92) (tgt := 96) hx hb dX1_perform_4 (by decide) (by decide) rfl (by decide) ?_
      refine lv_aload_n hx hb dX1_perform_96 rfl (lv_at hl 1 rfl) ?_
      refine lv_aload_n hx hb dX1_perform_97 rfl (lv_at hl 0 rfl) ?_
      refine va_get (D := D) (ci := 1) (v := .int (nI dg)) (C := RX1) (T := TX1) (N := 6) hx hb hts hI1 hown hK.1 hP 0 rfl rfl 5 (by decide) lk48 (fun _ h9 => h9) rfl dX1_perform_98 ?_
      refine lv_if_ne (tgt := 108) hx hb dX1_perform_101 (by decide) (fun c101 => ?_) (fun c101 => ?_)
      · skip
        replace c101 : ¬ dg = 0 := by rw [show (0 : Int32) = nI 0 from rfl, nI_eq (by omega) (by omega)] at c101; exact c101
        refine lv_aload_n hx hb dX1_perform_108 rfl (lv_at hl 0 rfl) ?_
        refine va_get (D := D) (ci := 1) (v := .int (nI nb)) (C := RX1) (T := TX1) (N := 6) hx hb hts hI1 hown hK.1 hP 0 rfl rfl 4 (by decide) lk45 (fun _ h9 => h9) rfl dX1_perform_109 ?_
        refine cl_Vi (b := (a 0)) (As := [.int (nI nb)]) (rest := []) (wc := SW a cI cG V) (wsN := fun (u9 : Nat → Nat → Int32) => PO pp 116 lp hf fr nb dg :: SW a cI cG u9) F hK hA hP hD hS (c_X2_takeMany R kb) (cwV 1 hts gX1_perform_X2_takeMany rfl rfl rfl (by decide +kernel) ⟨Nat.le_of_ble_eq_true rfl, Nat.le_of_ble_eq_true rfl⟩) [1, 2, 3, 4, 5, 6, 7, 8] [0] [0, 1, 2, 3, 4, 5, 6, 7, 8] ([(pp, .inr (1, [.int (nI 116), .int (nI lp), .int (nI hf), .int (nI fr), .int (nI nb), .int (nI dg)]))]) rfl rfl (fun _ => rfl) (by decide) (by decide) 0 rfl rfl rfl hl.1 rfl (Nat.le_of_ble_eq_true rfl) ⟨Nat.zero_le _, Nat.zero_le _⟩ dX1_perform_112 (fun r_16 u9 H locs hw_15 hP hD hS => ?_)
        try dsimp only at hw_15 hP hD
        have hq := hw_15
        exact RETN _ _ r_16 u9 _ _ dX1_perform_115 (rfl) (by rw [doA_t, oneN_t, if_neg c101]; exact hq) hP hD hS
      · skip
        replace c101 : dg = 0 := by rw [show (0 : Int32) = nI 0 from rfl, nI_eq (by omega) (by omega)] at c101; exact c101
        refine lv_iconst (v := (nI 1)) hx hb dX1_perform_104 (by decide) ?_
        refine lv_goto (tgt := 112) hx hb dX1_perform_105 (by decide) ?_
        refine cl_Vi (b := (a 0)) (As := [.int (nI 1)]) (rest := []) (wc := SW a cI cG V) (wsN := fun (u9 : Nat → Nat → Int32) => PO pp 116 lp hf fr nb dg :: SW a cI cG u9) F hK hA hP hD hS (c_X2_takeMany R kb) (cwV 1 hts gX1_perform_X2_takeMany rfl rfl rfl (by decide +kernel) ⟨Nat.le_of_ble_eq_true rfl, Nat.le_of_ble_eq_true rfl⟩) [1, 2, 3, 4, 5, 6, 7, 8] [0] [0, 1, 2, 3, 4, 5, 6, 7, 8] ([(pp, .inr (1, [.int (nI 116), .int (nI lp), .int (nI hf), .int (nI fr), .int (nI nb), .int (nI dg)]))]) rfl rfl (fun _ => rfl) (by decide) (by decide) 0 rfl rfl rfl hl.1 rfl (Nat.le_of_ble_eq_true rfl) ⟨Nat.zero_le _, Nat.zero_le _⟩ dX1_perform_112 (fun r_18 u9 H locs hw_17 hP hD hS => ?_)
        try dsimp only at hw_17 hP hD
        have hq := hw_17
        exact RETN _ _ r_18 u9 _ _ dX1_perform_115 (rfl) (by rw [doA_t, oneN_t, if_pos c101]; exact hq) hP hD hS
set_option maxHeartbeats 4000000 in
set_option maxRecDepth 100000 in
theorem c_X1_execute {l : Launch} {D : va_G} {cI cG cC cR : ClassId} {pp k lp hf fr nb dg : Nat} {a : Nat → Nat} {f : Nat → Int32} {V : Nat → Nat → Int32} {tt tl : Nat} {tex : Nat → Int32} (htl : tl ≤ 80) (htx : ∀ i, i < tl → ∃ c, 1 ≤ c ∧ c ≤ 255 ∧ tex i = nI c) (R : RepS f V) (hI : Inv f) : CtI l yX1_execute wsX1_execute { frames := 6, cells := 0, slots := 0, locals := 140 } D (TY cI cG cC cR) [.ref pp, .ref tt, .int (nI tl), .ref (a 0)] (PO pp k lp hf fr nb dg :: TXT tt cC tex :: SW a cI cG V) (fun (u : (Nat → Nat → Int32) × (Nat → Nat)) => PO pp (u.2 0) (u.2 1) (u.2 2) (u.2 3) (u.2 4) (u.2 5) :: TXT tt cC tex :: SW a cI cG u.1) (fun (r : Int32) (u : (Nat → Nat → Int32) × (Nat → Nat)) => r = (rnA f tex tl).1 ∧ RepS (rnA f tex tl).2 u.1 ∧ Inv (rnA f tex tl).2) := by
  refine CtI.of (cc := cX1_execute) (maxL := 7) (ty := .int) (by decide) rfl (Nat.le_of_ble_eq_true rfl) ?_
  intro P0 e0 s0 m0 a0 b0 t0 c0 A0 Q0 ls F hK hP hD hA RETN hl
  obtain ⟨hx, hb, hml, hown, hts⟩ := id F
  have hS : va_S A0 s0.heap s0.heap [] := va_S.rf
  have hl : lv_has ls 7 [(0, .ref pp), (1, .ref tt), (2, .int (nI tl)), (3, .ref (a 0))] := hl
  have lk11 := hts (.fieldLink RX1 11 "SlotMaps$Program" "letter" "C") (by decide +kernel)
  have lk23 := hts (.fieldLink RX1 23 "SlotMaps$Program" "letterPlace" "I") (by decide +kernel)
  have hI1 : ∀ w ∈ u_ws RX1 TX1 6, w ∈ wsX1_execute := by decide +kernel
  refine lv_iconst (v := (nI 0)) hx hb dX1_execute_0 (by decide) ?_
  refine lv_istore (lv' := [(4, .int (nI 0)), (0, .ref pp), (1, .ref tt), (2, .int (nI tl)), (3, .ref (a 0))]) hx hb dX1_execute_1 hl (by decide) rfl (fun ls hl => ?_)
  refine lv_aload_n hx hb dX1_execute_3 rfl (lv_at hl 1 rfl) ?_
  refine lv_iconst (v := (nI 0)) hx hb dX1_execute_4 (by decide) ?_
  refine va_put (D := D) (ci := 1) (v := .int (nI 0)) (ty := .char) (C := RX1) (T := TX1) (N := 6) hx hb hts hI1 tyX1 tyX1_ok nmX1 hown hK.1 hP hD hS 0 rfl rfl 0 (by decide) lk11 (fun _ h9 => h9) rfl (by decide +kernel) rfl rfl (Nat.le_of_ble_eq_true rfl) dX1_execute_5 (fun H locs hP hD hS => ?_)
  have hP : va_P D vwCl (PO pp 0 lp hf fr nb dg :: TXT tt cC tex :: SW a cI cG V) H := hP
  have hD : va_D A0 (PO pp 0 lp hf fr nb dg :: TXT tt cC tex :: SW a cI cG V) := hD
  refine lv_iconst (v := (nI 0)) hx hb dX1_execute_8 (by decide) ?_
  refine lv_istore (lv' := [(5, .int (nI 0)), (4, .int (nI 0)), (0, .ref pp), (1, .ref tt), (2, .int (nI tl)), (3, .ref (a 0))]) hx hb dX1_execute_9 hl (by decide) rfl (fun ls hl => ?_)
  have LP11 : ∀ (nn : Nat) (k : Nat) (lp : Nat) (hf : Nat) (fr : Nat) (nb : Nat) (dg : Nat) (n : Nat) (pl : Nat) (g : Nat → Int32) (VV : Nat → Nat → Int32) (H : Heap) (locs : List Loc) (ls : Array Slot), (pl ≤ tl) → (Cf f tex tl k lp hf fr nb dg pl n g) → (RepS g VV) → (Inv g) → tl - pl < nn → va_P D vwCl (PO pp k lp hf fr nb dg :: TXT tt cC tex :: SW a cI cG VV) H → va_D A0 (PO pp k lp hf fr nb dg :: TXT tt cC tex :: SW a cI cG VV) → va_S A0 s0.heap H locs → lv_has ls 7 [(5, .int (nI pl)), (4, .int (nI n)), (0, .ref pp), (1, .ref tt), (2, .int (nI tl)), (3, .ref (a 0))] → W P0 l e0 { frames := 6, cells := 0, slots := 0, locals := 140 } s0 m0 a0 b0 t0 c0 H locs 0 0 Q0 (F0 m0 11 ls []) := by
    intro nn
    induction nn with
    | zero => intro k lp hf fr nb dg n pl g VV H locs ls hpl hCf R1 hJ1 hmu; exact absurd hmu (Nat.not_lt_zero _)
    | succ nn ih11 =>
      intro k lp hf fr nb dg n pl g VV H locs ls hpl hCf R1 hJ1 hmu11 hP hD hS hl
      obtain ⟨hk9, hn9, hi9⟩ := Cf_k hCf
      refine lv_iload hx hb dX1_execute_11 (lv_at hl 0 rfl) ?_
      refine lv_iload_n hx hb dX1_execute_13 rfl (lv_at hl 4 rfl) ?_
      refine lv_icmp_ge (tgt := 79) hx hb dX1_execute_14 (by decide) (fun c14 => ?_) (fun c14 => ?_)
      · skip
        replace c14 : tl ≤ pl := by rw [nI_leI (by omega) (by omega)] at c14; exact c14
        refine lv_aload_n hx hb dX1_execute_79 rfl (lv_at hl 2 rfl) ?_
        refine va_get (D := D) (ci := 1) (v := .int (nI k)) (C := RX1) (T := TX1) (N := 6) hx hb hts hI1 hown hK.1 hP 0 rfl rfl 0 (by decide) lk11 (fun _ h9 => h9) rfl dX1_execute_80 ?_
        refine lv_if_ne (tgt := 91) hx hb dX1_execute_83 (by decide) (fun c83 => ?_) (fun c83 => ?_)
        · skip
          replace c83 : ¬ k = 0 := by rw [show (0 : Int32) = nI 0 from rfl, nI_eq (by omega) (by omega)] at c83; exact c83
          refine lv_sipush (v := (-1000)) hx hb dX1_execute_91 (by decide) ?_
          refine lv_iload_n hx hb dX1_execute_94 rfl (lv_at hl 4 rfl) ?_
          refine lv_isub hx hb dX1_execute_95 ?_
          exact RETN _ _ ((-1000) - (nI tl)) (VV, st6 k lp hf fr nb dg) _ _ dX1_execute_96 (rfl) (by rw [Cf_done hCf (by omega), if_neg c83]; exact ⟨rfl, R1, hJ1⟩) hP hD hS
        · skip
          replace c83 : k = 0 := by rw [show (0 : Int32) = nI 0 from rfl, nI_eq (by omega) (by omega)] at c83; exact c83
          refine lv_iload hx hb dX1_execute_86 (lv_at hl 1 rfl) ?_
          refine lv_goto (tgt := 96) hx hb dX1_execute_88 (by decide) ?_
          exact RETN _ _ (nI n) (VV, st6 k lp hf fr nb dg) _ _ dX1_execute_96 (rfl) (by rw [Cf_done hCf (by omega), if_pos c83]; exact ⟨rfl, R1, hJ1⟩) hP hD hS
      · skip
        replace c14 : ¬ (tl ≤ pl) := by rw [nI_leI (by omega) (by omega)] at c14; exact c14
        refine lv_aload_n hx hb dX1_execute_17 rfl (lv_at hl 3 rfl) ?_
        refine lv_iload hx hb dX1_execute_18 (lv_at hl 0 rfl) ?_
        refine n_cald hx hb hK hP 1 2 rfl rfl (by decide) (by omega) dX1_execute_20 ?_
        obtain ⟨ch, hc1, hc2, hc3⟩ := htx pl (by omega)
        have hsg : sg tex tl pl = nI ch := (if_pos (by omega)).trans hc3
        refine n_as (x' := nI ch) hc3 ?_
        refine lv_istore (lv' := [(6, .int (nI ch)), (5, .int (nI pl)), (4, .int (nI n)), (0, .ref pp), (1, .ref tt), (2, .int (nI tl)), (3, .ref (a 0))]) hx hb dX1_execute_21 hl (by decide) rfl (fun ls hl => ?_)
        refine lv_aload_n hx hb dX1_execute_23 rfl (lv_at hl 3 rfl) ?_
        refine lv_iload hx hb dX1_execute_24 (lv_at hl 0 rfl) ?_
        refine lv_iload hx hb dX1_execute_26 (lv_at hl 1 rfl) ?_
        refine cl_Vi (b := pp) (As := [.int (nI ch), .int (nI pl)]) (rest := []) (wc := [PO pp k lp hf fr nb dg]) (wsN := fun (u9 : Nat → Nat) => PO pp (u9 0) (u9 1) (u9 2) (u9 3) (u9 4) (u9 5) :: TXT tt cC tex :: SW a cI cG VV) F hK hA hP hD hS (c_X1_readCharacter (by omega) hk9 hi9) (cwV 2 hts gX1_execute_X1_readCharacter rfl rfl rfl (by decide +kernel) ⟨Nat.le_of_ble_eq_true rfl, Nat.le_of_ble_eq_true rfl⟩) [0] [1, 2, 3, 4, 5, 6, 7, 8, 9] [9, 0, 1, 2, 3, 4, 5, 6, 7, 8] ([(tt, .inl (cC, 80, .inl tex)), (a 0, .inr (2, [.ref (a 1), .ref (a 2), .ref (a 3), .int (VV 6 0), .int (VV 6 1)])), (a 1, .inl (cG, 4, .inr (.inr (.inr (.inr (gr a)))))), (a 2, .inl (cI, 8, .inl (VV 4))), (a 3, .inl (cI, 8, .inl (VV 5))), (a 4, .inl (cI, 10, .inl (VV 0))), (a 5, .inl (cI, 10, .inl (VV 1))), (a 6, .inl (cI, 10, .inl (VV 2))), (a 7, .inl (cI, 10, .inl (VV 3)))]) rfl rfl (fun _ => rfl) (by decide) (by decide) 0 rfl rfl rfl hl.1 rfl (Nat.le_of_ble_eq_true rfl) ⟨Nat.zero_le _, Nat.zero_le _⟩ dX1_execute_28 (fun r_2 u9 H locs hw_1 hP hD hS => ?_)
        try dsimp only at hw_1 hP hD
        obtain rfl : r_2 = (bI (rcOk k hf nb dg ch)) := hw_1.1
        have hu9 := hw_1.2
        refine lv_if_ne (tgt := 41) hx hb dX1_execute_31 (by decide) (fun c31 => ?_) (fun c31 => ?_)
        · skip
          replace c31 : ¬ (bI (rcOk k hf nb dg ch)) = nI 0 := c31
          refine lv_iload hx hb dX1_execute_41 (lv_at hl 0 rfl) ?_
          refine lv_bipush (v := (nI 59)) hx hb dX1_execute_43 (by decide) ?_
          refine lv_icmp_ne (tgt := 73) hx hb dX1_execute_45 (by decide) (fun c45 => ?_) (fun c45 => ?_)
          · skip
            replace c45 : ¬ ch = 59 := by rw [nI_eq (by omega) (by omega)] at c45; exact c45
            refine lv_iinc (v := (nI (pl + 1))) (lv' := [(5, .int (nI (pl + 1))), (6, .int (nI ch)), (4, .int (nI n)), (0, .ref pp), (1, .ref tt), (2, .int (nI tl)), (3, .ref (a 0))]) hx hb dX1_execute_73 hl (k := 1) rfl (n_inc1 _) (by decide) rfl (fun ls hl => ?_)
            refine lv_goto (tgt := 11) hx hb dX1_execute_76 (by decide) ?_
            exact ih11 (u9 0) (u9 1) (u9 2) (u9 3) (u9 4) (u9 5) n (pl + 1) g VV _ _ _ (by omega) (Cf_step hCf (by omega) hsg (by omega) (bI_ct c31) c45 (hu9 (bI_ct c31))) (R1) (hJ1) (by omega) hP hD hS (lv_sub hl [0, 2, 3, 4, 5, 6] rfl)
          · skip
            replace c45 : ch = 59 := by rw [nI_eq (by omega) (by omega)] at c45; exact c45
            subst c45
            obtain ⟨hk5, hS5, h15, hd5, hl5, hE1, hE2⟩ := Cf_end hCf (by omega) hsg (bI_ct c31)
            have e9 : u9 = st6 k lp hf fr nb dg := (hu9 (bI_ct c31)).trans hS5
            subst e9
            have hP : va_P D vwCl (PO pp k lp hf fr nb dg :: TXT tt cC tex :: SW a cI cG VV) H := hP
            have hD : va_D A0 (PO pp k lp hf fr nb dg :: TXT tt cC tex :: SW a cI cG VV) := hD
            refine lv_aload_n hx hb dX1_execute_48 rfl (lv_at hl 3 rfl) ?_
            refine lv_aload_n hx hb dX1_execute_49 rfl (lv_at hl 6 rfl) ?_
            refine cl_Vi (b := pp) (As := [.ref (a 0)]) (rest := []) (wc := PO pp k lp hf fr nb dg :: SW a cI cG VV) (wsN := fun (V9 : Nat → Nat → Int32) => PO pp k lp hf fr nb dg :: TXT tt cC tex :: SW a cI cG V9) F hK hA hP hD hS (c_X1_perform hk5 h15 hd5 R1 hJ1) (cwV 1 hts gX1_execute_X1_perform rfl rfl rfl (by decide +kernel) ⟨Nat.le_of_ble_eq_true rfl, Nat.le_of_ble_eq_true rfl⟩) [0, 2, 3, 4, 5, 6, 7, 8, 9] [1] [1, 0, 2, 3, 4, 5, 6, 7, 8, 9] ([(tt, .inl (cC, 80, .inl tex))]) rfl rfl (fun _ => rfl) (by decide) (by decide) 0 rfl rfl rfl hl.1 rfl (Nat.le_of_ble_eq_true rfl) ⟨Nat.zero_le _, Nat.zero_le _⟩ dX1_execute_50 (fun rr V9 H locs hw_3 hP hD hS => ?_)
            try dsimp only at hw_3 hP hD
            obtain ⟨hr5, R5⟩ := hw_3
            refine lv_if_ge (tgt := 65) hx hb dX1_execute_53 (by decide) (fun c53 => ?_) (fun c53 => ?_)
            · skip
              refine lv_iinc (v := (nI (n + 1))) (lv' := [(4, .int (nI (n + 1))), (6, .int (nI 59)), (5, .int (nI pl)), (0, .ref pp), (1, .ref tt), (2, .int (nI tl)), (3, .ref (a 0))]) hx hb dX1_execute_65 hl (k := 2) rfl (n_inc1 _) (by decide) rfl (fun ls hl => ?_)
              refine lv_aload_n hx hb dX1_execute_68 rfl (lv_at hl 3 rfl) ?_
              refine lv_iconst (v := (nI 0)) hx hb dX1_execute_69 (by decide) ?_
              refine va_put (D := D) (ci := 1) (v := .int (nI 0)) (ty := .char) (C := RX1) (T := TX1) (N := 6) hx hb hts hI1 tyX1 tyX1_ok nmX1 hown hK.1 hP hD hS 0 rfl rfl 0 (by decide) lk11 (fun _ h9 => h9) rfl (by decide +kernel) rfl rfl (Nat.le_of_ble_eq_true rfl) dX1_execute_70 (fun H locs hP hD hS => ?_)
              have hP : va_P D vwCl (PO pp 0 lp hf fr nb dg :: TXT tt cC tex :: SW a cI cG V9) H := hP
              have hD : va_D A0 (PO pp 0 lp hf fr nb dg :: TXT tt cC tex :: SW a cI cG V9) := hD
              refine lv_iinc (v := (nI (pl + 1))) (lv' := [(5, .int (nI (pl + 1))), (4, .int (nI (n + 1))), (6, .int (nI 59)), (0, .ref pp), (1, .ref tt), (2, .int (nI tl)), (3, .ref (a 0))]) hx hb dX1_execute_73 hl (k := 2) rfl (n_inc1 _) (by decide) rfl (fun ls hl => ?_)
              refine lv_goto (tgt := 11) hx hb dX1_execute_76 (by decide) ?_
              exact ih11 0 lp hf fr nb dg (n + 1) (pl + 1) ((doA g k (nI (oneN k hf fr nb dg)) (nI nb)).2) V9 _ _ _ (by omega) (hE2 (fun q => Int32.not_le.mpr (hr5.mpr q) c53)) (R5) (Inv_do hJ1) (by omega) hP hD hS (lv_sub hl [0, 1, 3, 4, 5, 6] rfl)
            · skip
              refine lv_sipush (v := (-1000)) hx hb dX1_execute_56 (by decide) ?_
              refine lv_aload_n hx hb dX1_execute_59 rfl (lv_at hl 3 rfl) ?_
              refine va_get (D := D) (ci := 1) (v := .int (nI lp)) (C := RX1) (T := TX1) (N := 6) hx hb hts hI1 hown hK.1 hP 0 rfl rfl 1 (by decide) lk23 (fun _ h9 => h9) rfl dX1_execute_60 ?_
              refine lv_isub hx hb dX1_execute_63 ?_
              have q9 : Inv (doA g k (nI (oneN k hf fr nb dg)) (nI nb)).2 := Inv_do hJ1
              exact RETN _ _ ((-1000) - (nI lp)) (V9, st6 k lp hf fr nb dg) _ _ dX1_execute_64 (rfl) (by rw [hE1 (hr5.mp (Int32.not_le.mp c53))]; exact ⟨rfl, R5, q9⟩) hP hD hS
        · skip
          replace c31 : (bI (rcOk k hf nb dg ch)) = nI 0 := c31
          refine lv_sipush (v := (-1000)) hx hb dX1_execute_34 (by decide) ?_
          refine lv_iload hx hb dX1_execute_37 (lv_at hl 1 rfl) ?_
          refine lv_isub hx hb dX1_execute_39 ?_
          exact RETN _ _ ((-1000) - (nI pl)) (VV, u9) _ _ dX1_execute_40 (rfl) (by rw [Cf_no hCf (by omega) hsg (by omega) (bI_cf c31)]; exact ⟨rfl, R1, hJ1⟩) hP hD hS
  exact LP11 _ 0 lp hf fr nb dg 0 0 f V _ _ _ (by omega) (Cf_0 htl) (R) (hI) (Nat.lt_succ_self _) hP hD hS (lv_sub hl [0, 1, 2, 3, 4, 5] rfl)
