set_option maxHeartbeats 4000000 in
theorem c_L_cell {l : Launch} {b L : Nat} {xs : Nat → Int32} {i : Nat} (hL : L < 2 ^ 31) (hi : i < 2 ^ 31) : CtX l yL_cell wsL_cell { frames := 0, cells := 0, slots := 0, locals := 0 } b L xs [.ref b, .int (nI i)] := by
  refine CtX.of (cc := cL_cell) (maxL := 2) (by decide) rfl (Nat.le_of_ble_eq_true rfl) ?_
  intro P0 e0 s0 m0 a0 b0 t0 c0 Q0 ls F hX hbl RETN hl
  obtain ⟨hx, hb, hml, hown, hts⟩ := id F
  have hS : va_S (fun q => s0.heap.size ≤ q) s0.heap s0.heap [] := va_S.rf
  have hbA : ¬ (fun q => s0.heap.size ≤ q) b := Nat.not_le.mpr hbl
  have hl : lv_has ls 2 [(0, .ref b), (1, .int (nI i))] := hl
  refine lv_iload_n hx hb dL_cell_0 rfl (lv_at hl 1 rfl) ?_
  refine lv_aload_n hx hb dL_cell_1 rfl (lv_at hl 0 rfl) ?_
  refine va_slen hx hb hX hbl hbA hS dL_cell_2 ?_
  refine n_as (x' := nI L) rfl ?_
  refine lv_icmp_ge (tgt := 12) hx hb dL_cell_3 (by decide) (fun c3 => ?_) (fun c3 => ?_)
  · refine lv_ldc (v := 763049417) hx hb hown (hts (.constant RL 7 (763049417)) (by decide +kernel)) dL_cell_12 ?_
    refine lv_iload_n hx hb dL_cell_14 rfl (lv_at hl 1 rfl) ?_
    refine lv_iconst (v := nI 3) hx hb dL_cell_15 (by decide) ?_
    refine lv_iadd hx hb dL_cell_16 ?_
    refine lv_imul hx hb dL_cell_17 ?_
    exact RETN _ _ _ dL_cell_18
  · have hlt : i < L := by
      rw [Int32.le_iff_toInt_le, nI_toInt hL, nI_toInt hi] at c3
      omega
    refine lv_aload_n hx hb dL_cell_6 rfl (lv_at hl 0 rfl) ?_
    refine lv_iload_n hx hb dL_cell_7 rfl (lv_at hl 1 rfl) ?_
    refine va_sld hx hb hX hbl hbA hS (vp_in_nI hlt hL) dL_cell_8 ?_
    refine lv_goto (tgt := 18) hx hb dL_cell_9 (by decide) ?_
    exact RETN _ _ _ dL_cell_18
theorem ca_append {l : Launch} {D : va_G} {cI cG cC cR : ClassId} {aa : Nat → Nat → Nat} {x0 x1 x2 pp tt tl on k : Nat} {pf : Nat → Nat} {VV : Nat → Nat → Nat → Int32} {TV : Nat → Nat → Int32} {tex : Nat → Int32} {c : Nat} (h1 : 1 ≤ c) (h2 : c ≤ 255) (htl : tl < 80) : CtI l yX3_append wsX3_append { frames := 0, cells := 0, slots := 0, locals := 0 } D (TY cI cG cC cR) [.ref x0, .int (nI c)] (XW aa x0 x1 x2 pp tt cI cG cC cR VV TV tex pf tl on k) (fun (_ : Unit) => XW aa x0 x1 x2 pp tt cI cG cC cR VV TV (upd tex tl (nI c)) pf (tl + 1) on k) (fun (r : Int32) (_ : Unit) => r = nI (tl + 1)) := by
  have hin : inB (nI c) (nI 1) (nI 255) = true := inB_of (by decide) h1 h2
  have e1 : apT tex tl (nI c) = upd tex tl (nI c) := if_pos ⟨hin, by omega⟩
  have e2 : apL tl (nI c) = tl + 1 := if_pos ⟨hin, by omega⟩
  have e3 : apA tl (nI c) = nI (tl + 1) := by unfold apA; rw [hin, if_pos rfl, if_neg (by omega)]
  have q9 : CtI l yX3_append wsX3_append { frames := 0, cells := 0, slots := 0, locals := 0 } D (TY cI cG cC cR) [.ref x0, .int (nI c)] (XW aa x0 x1 x2 pp tt cI cG cC cR VV TV tex pf tl on k) (fun (_ : Unit) => XW aa x0 x1 x2 pp tt cI cG cC cR VV TV (apT tex tl (nI c)) pf (apL tl (nI c)) on k) (fun (r : Int32) (_ : Unit) => r = apA tl (nI c)) := c_X3_append (by omega)
  rw [e1, e2, e3] at q9
  exact q9
theorem cf_take {l : Launch} {D : va_G} {cI cG cC cR : ClassId} {aa : Nat → Nat → Nat} {x0 x1 x2 pp tt tl on k : Nat} {pf : Nat → Nat} {VV : Nat → Nat → Nat → Int32} {TV : Nat → Nat → Int32} {tex now past : Nat → Int32} (hX : XI now past k on VV) (hneg : (tkA now).1 < 0) : CtI l yX3_take wsX3_take { frames := 4, cells := 0, slots := 0, locals := 91 } D (TY cI cG cC cR) [.ref x0] (XW aa x0 x1 x2 pp tt cI cG cC cR VV TV tex pf tl on k) (fun (u : (Nat → Nat → Nat → Int32) × Nat) => XW aa x0 x1 x2 pp tt cI cG cC cR u.1 TV tex pf tl u.2 k) (fun (r : Int32) (u : (Nat → Nat → Nat → Int32) × Nat) => r = (tkA now).1 ∧ XI now past k u.2 u.1) := by
  obtain ⟨e1, e2, e3⟩ := fn_neg (b := now) (g := (tkA now).2) (p := past) (k := k) hneg
  have q9 : CtI l yX3_take wsX3_take { frames := 4, cells := 0, slots := 0, locals := 91 } D (TY cI cG cC cR) [.ref x0] (XW aa x0 x1 x2 pp tt cI cG cC cR VV TV tex pf tl on k) (fun (u : (Nat → Nat → Nat → Int32) × Nat) => XW aa x0 x1 x2 pp tt cI cG cC cR u.1 TV tex pf tl u.2 (fnK k (tkA now).1)) (fun (r : Int32) (u : (Nat → Nat → Nat → Int32) × Nat) => r = (tkA now).1 ∧ XI (fnN now (tkA now).2 (tkA now).1) (fnP past k now (tkA now).1) (fnK k (tkA now).1) u.2 u.1) := c_X3_take hX
  rw [e1, e2, e3] at q9
  exact q9
theorem cs_take {l : Launch} {D : va_G} {cI cG cC cR : ClassId} {aa : Nat → Nat → Nat} {x0 x1 x2 pp tt tl on k : Nat} {pf : Nat → Nat} {VV : Nat → Nat → Nat → Int32} {TV : Nat → Nat → Int32} {tex now past : Nat → Int32} (hX : XI now past k on VV) (hpos : ¬ (tkA now).1 < 0) : CtI l yX3_take wsX3_take { frames := 4, cells := 0, slots := 0, locals := 91 } D (TY cI cG cC cR) [.ref x0] (XW aa x0 x1 x2 pp tt cI cG cC cR VV TV tex pf tl on k) (fun (u : (Nat → Nat → Nat → Int32) × Nat) => XW aa x0 x1 x2 pp tt cI cG cC cR u.1 TV tex pf tl u.2 (kpK k)) (fun (r : Int32) (u : (Nat → Nat → Nat → Int32) × Nat) => r = (tkA now).1 ∧ XI (tkA now).2 (psh past k now) (kpK k) u.2 u.1) := by
  have e1 : fnN now (tkA now).2 (tkA now).1 = (tkA now).2 := if_neg hpos
  have e2 : fnP past k now (tkA now).1 = psh past k now := if_neg hpos
  have e3 : fnK k (tkA now).1 = kpK k := kp_fn hX.2.1 hpos
  have q9 : CtI l yX3_take wsX3_take { frames := 4, cells := 0, slots := 0, locals := 91 } D (TY cI cG cC cR) [.ref x0] (XW aa x0 x1 x2 pp tt cI cG cC cR VV TV tex pf tl on k) (fun (u : (Nat → Nat → Nat → Int32) × Nat) => XW aa x0 x1 x2 pp tt cI cG cC cR u.1 TV tex pf tl u.2 (fnK k (tkA now).1)) (fun (r : Int32) (u : (Nat → Nat → Nat → Int32) × Nat) => r = (tkA now).1 ∧ XI (fnN now (tkA now).2 (tkA now).1) (fnP past k now (tkA now).1) (fnK k (tkA now).1) u.2 u.1) := c_X3_take hX
  rw [e1, e2, e3] at q9
  exact q9
theorem cf_takeRun {l : Launch} {D : va_G} {cI cG cC cR : ClassId} {aa : Nat → Nat → Nat} {x0 x1 x2 pp tt tl on k : Nat} {pf : Nat → Nat} {VV : Nat → Nat → Nat → Int32} {TV : Nat → Nat → Int32} {tex now past : Nat → Int32} {v : Int32} (hX : XI now past k on VV) (hneg : (trA now v).1 < 0) : CtI l yX3_takeRun wsX3_takeRun { frames := 4, cells := 0, slots := 0, locals := 88 } D (TY cI cG cC cR) [.ref x0, .int v] (XW aa x0 x1 x2 pp tt cI cG cC cR VV TV tex pf tl on k) (fun (u : (Nat → Nat → Nat → Int32) × Nat) => XW aa x0 x1 x2 pp tt cI cG cC cR u.1 TV tex pf tl u.2 k) (fun (r : Int32) (u : (Nat → Nat → Nat → Int32) × Nat) => r = (trA now v).1 ∧ XI now past k u.2 u.1) := by
  obtain ⟨e1, e2, e3⟩ := fn_neg (b := now) (g := (trA now v).2) (p := past) (k := k) hneg
  have q9 : CtI l yX3_takeRun wsX3_takeRun { frames := 4, cells := 0, slots := 0, locals := 88 } D (TY cI cG cC cR) [.ref x0, .int v] (XW aa x0 x1 x2 pp tt cI cG cC cR VV TV tex pf tl on k) (fun (u : (Nat → Nat → Nat → Int32) × Nat) => XW aa x0 x1 x2 pp tt cI cG cC cR u.1 TV tex pf tl u.2 (fnK k (trA now v).1)) (fun (r : Int32) (u : (Nat → Nat → Nat → Int32) × Nat) => r = (trA now v).1 ∧ XI (fnN now (trA now v).2 (trA now v).1) (fnP past k now (trA now v).1) (fnK k (trA now v).1) u.2 u.1) := c_X3_takeRun hX
  rw [e1, e2, e3] at q9
  exact q9
theorem cs_takeRun {l : Launch} {D : va_G} {cI cG cC cR : ClassId} {aa : Nat → Nat → Nat} {x0 x1 x2 pp tt tl on k : Nat} {pf : Nat → Nat} {VV : Nat → Nat → Nat → Int32} {TV : Nat → Nat → Int32} {tex now past : Nat → Int32} {v : Int32} (hX : XI now past k on VV) (hpos : ¬ (trA now v).1 < 0) : CtI l yX3_takeRun wsX3_takeRun { frames := 4, cells := 0, slots := 0, locals := 88 } D (TY cI cG cC cR) [.ref x0, .int v] (XW aa x0 x1 x2 pp tt cI cG cC cR VV TV tex pf tl on k) (fun (u : (Nat → Nat → Nat → Int32) × Nat) => XW aa x0 x1 x2 pp tt cI cG cC cR u.1 TV tex pf tl u.2 (kpK k)) (fun (r : Int32) (u : (Nat → Nat → Nat → Int32) × Nat) => r = (trA now v).1 ∧ XI (trA now v).2 (psh past k now) (kpK k) u.2 u.1) := by
  have e1 : fnN now (trA now v).2 (trA now v).1 = (trA now v).2 := if_neg hpos
  have e2 : fnP past k now (trA now v).1 = psh past k now := if_neg hpos
  have e3 : fnK k (trA now v).1 = kpK k := kp_fn hX.2.1 hpos
  have q9 : CtI l yX3_takeRun wsX3_takeRun { frames := 4, cells := 0, slots := 0, locals := 88 } D (TY cI cG cC cR) [.ref x0, .int v] (XW aa x0 x1 x2 pp tt cI cG cC cR VV TV tex pf tl on k) (fun (u : (Nat → Nat → Nat → Int32) × Nat) => XW aa x0 x1 x2 pp tt cI cG cC cR u.1 TV tex pf tl u.2 (fnK k (trA now v).1)) (fun (r : Int32) (u : (Nat → Nat → Nat → Int32) × Nat) => r = (trA now v).1 ∧ XI (fnN now (trA now v).2 (trA now v).1) (fnP past k now (trA now v).1) (fnK k (trA now v).1) u.2 u.1) := c_X3_takeRun hX
  rw [e1, e2, e3] at q9
  exact q9
theorem cf_giveBack {l : Launch} {D : va_G} {cI cG cC cR : ClassId} {aa : Nat → Nat → Nat} {x0 x1 x2 pp tt tl on k : Nat} {pf : Nat → Nat} {VV : Nat → Nat → Nat → Int32} {TV : Nat → Nat → Int32} {tex now past : Nat → Int32} {va vb : Int32} (hX : XI now past k on VV) (hneg : (gbA now va vb).1 < 0) : CtI l yX3_giveBack wsX3_giveBack { frames := 5, cells := 0, slots := 0, locals := 119 } D (TY cI cG cC cR) [.ref x0, .int va, .int vb] (XW aa x0 x1 x2 pp tt cI cG cC cR VV TV tex pf tl on k) (fun (u : (Nat → Nat → Nat → Int32) × Nat) => XW aa x0 x1 x2 pp tt cI cG cC cR u.1 TV tex pf tl u.2 k) (fun (r : Int32) (u : (Nat → Nat → Nat → Int32) × Nat) => r = (gbA now va vb).1 ∧ XI now past k u.2 u.1) := by
  obtain ⟨e1, e2, e3⟩ := fn_neg (b := now) (g := (gbA now va vb).2) (p := past) (k := k) hneg
  have q9 : CtI l yX3_giveBack wsX3_giveBack { frames := 5, cells := 0, slots := 0, locals := 119 } D (TY cI cG cC cR) [.ref x0, .int va, .int vb] (XW aa x0 x1 x2 pp tt cI cG cC cR VV TV tex pf tl on k) (fun (u : (Nat → Nat → Nat → Int32) × Nat) => XW aa x0 x1 x2 pp tt cI cG cC cR u.1 TV tex pf tl u.2 (fnK k (gbA now va vb).1)) (fun (r : Int32) (u : (Nat → Nat → Nat → Int32) × Nat) => r = (gbA now va vb).1 ∧ XI (fnN now (gbA now va vb).2 (gbA now va vb).1) (fnP past k now (gbA now va vb).1) (fnK k (gbA now va vb).1) u.2 u.1) := c_X3_giveBack hX
  rw [e1, e2, e3] at q9
  exact q9
theorem cs_giveBack {l : Launch} {D : va_G} {cI cG cC cR : ClassId} {aa : Nat → Nat → Nat} {x0 x1 x2 pp tt tl on k : Nat} {pf : Nat → Nat} {VV : Nat → Nat → Nat → Int32} {TV : Nat → Nat → Int32} {tex now past : Nat → Int32} {va vb : Int32} (hX : XI now past k on VV) (hpos : ¬ (gbA now va vb).1 < 0) : CtI l yX3_giveBack wsX3_giveBack { frames := 5, cells := 0, slots := 0, locals := 119 } D (TY cI cG cC cR) [.ref x0, .int va, .int vb] (XW aa x0 x1 x2 pp tt cI cG cC cR VV TV tex pf tl on k) (fun (u : (Nat → Nat → Nat → Int32) × Nat) => XW aa x0 x1 x2 pp tt cI cG cC cR u.1 TV tex pf tl u.2 (kpK k)) (fun (r : Int32) (u : (Nat → Nat → Nat → Int32) × Nat) => r = (gbA now va vb).1 ∧ XI (gbA now va vb).2 (psh past k now) (kpK k) u.2 u.1) := by
  have e1 : fnN now (gbA now va vb).2 (gbA now va vb).1 = (gbA now va vb).2 := if_neg hpos
  have e2 : fnP past k now (gbA now va vb).1 = psh past k now := if_neg hpos
  have e3 : fnK k (gbA now va vb).1 = kpK k := kp_fn hX.2.1 hpos
  have q9 : CtI l yX3_giveBack wsX3_giveBack { frames := 5, cells := 0, slots := 0, locals := 119 } D (TY cI cG cC cR) [.ref x0, .int va, .int vb] (XW aa x0 x1 x2 pp tt cI cG cC cR VV TV tex pf tl on k) (fun (u : (Nat → Nat → Nat → Int32) × Nat) => XW aa x0 x1 x2 pp tt cI cG cC cR u.1 TV tex pf tl u.2 (fnK k (gbA now va vb).1)) (fun (r : Int32) (u : (Nat → Nat → Nat → Int32) × Nat) => r = (gbA now va vb).1 ∧ XI (fnN now (gbA now va vb).2 (gbA now va vb).1) (fnP past k now (gbA now va vb).1) (fnK k (gbA now va vb).1) u.2 u.1) := c_X3_giveBack hX
  rw [e1, e2, e3] at q9
  exact q9
theorem cf_clear {l : Launch} {D : va_G} {cI cG cC cR : ClassId} {aa : Nat → Nat → Nat} {x0 x1 x2 pp tt tl on k : Nat} {pf : Nat → Nat} {VV : Nat → Nat → Nat → Int32} {TV : Nat → Nat → Int32} {tex now past : Nat → Int32} {v : Int32} (hX : XI now past k on VV) (hneg : (clA now v).1 < 0) : CtI l yX3_clear wsX3_clear { frames := 4, cells := 0, slots := 0, locals := 88 } D (TY cI cG cC cR) [.ref x0, .int v] (XW aa x0 x1 x2 pp tt cI cG cC cR VV TV tex pf tl on k) (fun (u : (Nat → Nat → Nat → Int32) × Nat) => XW aa x0 x1 x2 pp tt cI cG cC cR u.1 TV tex pf tl u.2 k) (fun (r : Int32) (u : (Nat → Nat → Nat → Int32) × Nat) => r = (clA now v).1 ∧ XI now past k u.2 u.1) := by
  obtain ⟨e1, e2, e3⟩ := fn_neg (b := now) (g := (clA now v).2) (p := past) (k := k) hneg
  have q9 : CtI l yX3_clear wsX3_clear { frames := 4, cells := 0, slots := 0, locals := 88 } D (TY cI cG cC cR) [.ref x0, .int v] (XW aa x0 x1 x2 pp tt cI cG cC cR VV TV tex pf tl on k) (fun (u : (Nat → Nat → Nat → Int32) × Nat) => XW aa x0 x1 x2 pp tt cI cG cC cR u.1 TV tex pf tl u.2 (fnK k (clA now v).1)) (fun (r : Int32) (u : (Nat → Nat → Nat → Int32) × Nat) => r = (clA now v).1 ∧ XI (fnN now (clA now v).2 (clA now v).1) (fnP past k now (clA now v).1) (fnK k (clA now v).1) u.2 u.1) := c_X3_clear hX
  rw [e1, e2, e3] at q9
  exact q9
theorem cs_clear {l : Launch} {D : va_G} {cI cG cC cR : ClassId} {aa : Nat → Nat → Nat} {x0 x1 x2 pp tt tl on k : Nat} {pf : Nat → Nat} {VV : Nat → Nat → Nat → Int32} {TV : Nat → Nat → Int32} {tex now past : Nat → Int32} {v : Int32} (hX : XI now past k on VV) (hpos : ¬ (clA now v).1 < 0) : CtI l yX3_clear wsX3_clear { frames := 4, cells := 0, slots := 0, locals := 88 } D (TY cI cG cC cR) [.ref x0, .int v] (XW aa x0 x1 x2 pp tt cI cG cC cR VV TV tex pf tl on k) (fun (u : (Nat → Nat → Nat → Int32) × Nat) => XW aa x0 x1 x2 pp tt cI cG cC cR u.1 TV tex pf tl u.2 (kpK k)) (fun (r : Int32) (u : (Nat → Nat → Nat → Int32) × Nat) => r = (clA now v).1 ∧ XI (clA now v).2 (psh past k now) (kpK k) u.2 u.1) := by
  have e1 : fnN now (clA now v).2 (clA now v).1 = (clA now v).2 := if_neg hpos
  have e2 : fnP past k now (clA now v).1 = psh past k now := if_neg hpos
  have e3 : fnK k (clA now v).1 = kpK k := kp_fn hX.2.1 hpos
  have q9 : CtI l yX3_clear wsX3_clear { frames := 4, cells := 0, slots := 0, locals := 88 } D (TY cI cG cC cR) [.ref x0, .int v] (XW aa x0 x1 x2 pp tt cI cG cC cR VV TV tex pf tl on k) (fun (u : (Nat → Nat → Nat → Int32) × Nat) => XW aa x0 x1 x2 pp tt cI cG cC cR u.1 TV tex pf tl u.2 (fnK k (clA now v).1)) (fun (r : Int32) (u : (Nat → Nat → Nat → Int32) × Nat) => r = (clA now v).1 ∧ XI (fnN now (clA now v).2 (clA now v).1) (fnP past k now (clA now v).1) (fnK k (clA now v).1) u.2 u.1) := c_X3_clear hX
  rw [e1, e2, e3] at q9
  exact q9
theorem cf_reserve {l : Launch} {D : va_G} {cI cG cC cR : ClassId} {aa : Nat → Nat → Nat} {x0 x1 x2 pp tt tl on k : Nat} {pf : Nat → Nat} {VV : Nat → Nat → Nat → Int32} {TV : Nat → Nat → Int32} {tex now past : Nat → Int32} {v : Int32} (hX : XI now past k on VV) (hneg : (rsA now v).1 < 0) : CtI l yX3_reserve wsX3_reserve { frames := 4, cells := 0, slots := 0, locals := 95 } D (TY cI cG cC cR) [.ref x0, .int v] (XW aa x0 x1 x2 pp tt cI cG cC cR VV TV tex pf tl on k) (fun (u : (Nat → Nat → Nat → Int32) × Nat) => XW aa x0 x1 x2 pp tt cI cG cC cR u.1 TV tex pf tl u.2 k) (fun (r : Int32) (u : (Nat → Nat → Nat → Int32) × Nat) => r = (rsA now v).1 ∧ XI now past k u.2 u.1) := by
  obtain ⟨e1, e2, e3⟩ := fn_neg (b := now) (g := (rsA now v).2) (p := past) (k := k) hneg
  have q9 : CtI l yX3_reserve wsX3_reserve { frames := 4, cells := 0, slots := 0, locals := 95 } D (TY cI cG cC cR) [.ref x0, .int v] (XW aa x0 x1 x2 pp tt cI cG cC cR VV TV tex pf tl on k) (fun (u : (Nat → Nat → Nat → Int32) × Nat) => XW aa x0 x1 x2 pp tt cI cG cC cR u.1 TV tex pf tl u.2 (fnK k (rsA now v).1)) (fun (r : Int32) (u : (Nat → Nat → Nat → Int32) × Nat) => r = (rsA now v).1 ∧ XI (fnN now (rsA now v).2 (rsA now v).1) (fnP past k now (rsA now v).1) (fnK k (rsA now v).1) u.2 u.1) := c_X3_reserve hX
  rw [e1, e2, e3] at q9
  exact q9
theorem cs_reserve {l : Launch} {D : va_G} {cI cG cC cR : ClassId} {aa : Nat → Nat → Nat} {x0 x1 x2 pp tt tl on k : Nat} {pf : Nat → Nat} {VV : Nat → Nat → Nat → Int32} {TV : Nat → Nat → Int32} {tex now past : Nat → Int32} {v : Int32} (hX : XI now past k on VV) (hpos : ¬ (rsA now v).1 < 0) : CtI l yX3_reserve wsX3_reserve { frames := 4, cells := 0, slots := 0, locals := 95 } D (TY cI cG cC cR) [.ref x0, .int v] (XW aa x0 x1 x2 pp tt cI cG cC cR VV TV tex pf tl on k) (fun (u : (Nat → Nat → Nat → Int32) × Nat) => XW aa x0 x1 x2 pp tt cI cG cC cR u.1 TV tex pf tl u.2 (kpK k)) (fun (r : Int32) (u : (Nat → Nat → Nat → Int32) × Nat) => r = (rsA now v).1 ∧ XI (rsA now v).2 (psh past k now) (kpK k) u.2 u.1) := by
  have e1 : fnN now (rsA now v).2 (rsA now v).1 = (rsA now v).2 := if_neg hpos
  have e2 : fnP past k now (rsA now v).1 = psh past k now := if_neg hpos
  have e3 : fnK k (rsA now v).1 = kpK k := kp_fn hX.2.1 hpos
  have q9 : CtI l yX3_reserve wsX3_reserve { frames := 4, cells := 0, slots := 0, locals := 95 } D (TY cI cG cC cR) [.ref x0, .int v] (XW aa x0 x1 x2 pp tt cI cG cC cR VV TV tex pf tl on k) (fun (u : (Nat → Nat → Nat → Int32) × Nat) => XW aa x0 x1 x2 pp tt cI cG cC cR u.1 TV tex pf tl u.2 (fnK k (rsA now v).1)) (fun (r : Int32) (u : (Nat → Nat → Nat → Int32) × Nat) => r = (rsA now v).1 ∧ XI (fnN now (rsA now v).2 (rsA now v).1) (fnP past k now (rsA now v).1) (fnK k (rsA now v).1) u.2 u.1) := c_X3_reserve hX
  rw [e1, e2, e3] at q9
  exact q9
theorem cf_takeIn {l : Launch} {D : va_G} {cI cG cC cR : ClassId} {aa : Nat → Nat → Nat} {x0 x1 x2 pp tt tl on k : Nat} {pf : Nat → Nat} {VV : Nat → Nat → Nat → Int32} {TV : Nat → Nat → Int32} {tex now past : Nat → Int32} {v : Int32} (hX : XI now past k on VV) (hneg : (tiA now v).1 < 0) : CtI l yX3_takeIn wsX3_takeIn { frames := 4, cells := 0, slots := 0, locals := 94 } D (TY cI cG cC cR) [.ref x0, .int v] (XW aa x0 x1 x2 pp tt cI cG cC cR VV TV tex pf tl on k) (fun (u : (Nat → Nat → Nat → Int32) × Nat) => XW aa x0 x1 x2 pp tt cI cG cC cR u.1 TV tex pf tl u.2 k) (fun (r : Int32) (u : (Nat → Nat → Nat → Int32) × Nat) => r = (tiA now v).1 ∧ XI now past k u.2 u.1) := by
  obtain ⟨e1, e2, e3⟩ := fn_neg (b := now) (g := (tiA now v).2) (p := past) (k := k) hneg
  have q9 : CtI l yX3_takeIn wsX3_takeIn { frames := 4, cells := 0, slots := 0, locals := 94 } D (TY cI cG cC cR) [.ref x0, .int v] (XW aa x0 x1 x2 pp tt cI cG cC cR VV TV tex pf tl on k) (fun (u : (Nat → Nat → Nat → Int32) × Nat) => XW aa x0 x1 x2 pp tt cI cG cC cR u.1 TV tex pf tl u.2 (fnK k (tiA now v).1)) (fun (r : Int32) (u : (Nat → Nat → Nat → Int32) × Nat) => r = (tiA now v).1 ∧ XI (fnN now (tiA now v).2 (tiA now v).1) (fnP past k now (tiA now v).1) (fnK k (tiA now v).1) u.2 u.1) := c_X3_takeIn hX
  rw [e1, e2, e3] at q9
  exact q9
theorem cs_takeIn {l : Launch} {D : va_G} {cI cG cC cR : ClassId} {aa : Nat → Nat → Nat} {x0 x1 x2 pp tt tl on k : Nat} {pf : Nat → Nat} {VV : Nat → Nat → Nat → Int32} {TV : Nat → Nat → Int32} {tex now past : Nat → Int32} {v : Int32} (hX : XI now past k on VV) (hpos : ¬ (tiA now v).1 < 0) : CtI l yX3_takeIn wsX3_takeIn { frames := 4, cells := 0, slots := 0, locals := 94 } D (TY cI cG cC cR) [.ref x0, .int v] (XW aa x0 x1 x2 pp tt cI cG cC cR VV TV tex pf tl on k) (fun (u : (Nat → Nat → Nat → Int32) × Nat) => XW aa x0 x1 x2 pp tt cI cG cC cR u.1 TV tex pf tl u.2 (kpK k)) (fun (r : Int32) (u : (Nat → Nat → Nat → Int32) × Nat) => r = (tiA now v).1 ∧ XI (tiA now v).2 (psh past k now) (kpK k) u.2 u.1) := by
  have e1 : fnN now (tiA now v).2 (tiA now v).1 = (tiA now v).2 := if_neg hpos
  have e2 : fnP past k now (tiA now v).1 = psh past k now := if_neg hpos
  have e3 : fnK k (tiA now v).1 = kpK k := kp_fn hX.2.1 hpos
  have q9 : CtI l yX3_takeIn wsX3_takeIn { frames := 4, cells := 0, slots := 0, locals := 94 } D (TY cI cG cC cR) [.ref x0, .int v] (XW aa x0 x1 x2 pp tt cI cG cC cR VV TV tex pf tl on k) (fun (u : (Nat → Nat → Nat → Int32) × Nat) => XW aa x0 x1 x2 pp tt cI cG cC cR u.1 TV tex pf tl u.2 (fnK k (tiA now v).1)) (fun (r : Int32) (u : (Nat → Nat → Nat → Int32) × Nat) => r = (tiA now v).1 ∧ XI (fnN now (tiA now v).2 (tiA now v).1) (fnP past k now (tiA now v).1) (fnK k (tiA now v).1) u.2 u.1) := c_X3_takeIn hX
  rw [e1, e2, e3] at q9
  exact q9
theorem cf_giveUp {l : Launch} {D : va_G} {cI cG cC cR : ClassId} {aa : Nat → Nat → Nat} {x0 x1 x2 pp tt tl on k : Nat} {pf : Nat → Nat} {VV : Nat → Nat → Nat → Int32} {TV : Nat → Nat → Int32} {tex now past : Nat → Int32} {v : Int32} (hX : XI now past k on VV) (hneg : (guA now v).1 < 0) : CtI l yX3_giveUp wsX3_giveUp { frames := 4, cells := 0, slots := 0, locals := 93 } D (TY cI cG cC cR) [.ref x0, .int v] (XW aa x0 x1 x2 pp tt cI cG cC cR VV TV tex pf tl on k) (fun (u : (Nat → Nat → Nat → Int32) × Nat) => XW aa x0 x1 x2 pp tt cI cG cC cR u.1 TV tex pf tl u.2 k) (fun (r : Int32) (u : (Nat → Nat → Nat → Int32) × Nat) => r = (guA now v).1 ∧ XI now past k u.2 u.1) := by
  obtain ⟨e1, e2, e3⟩ := fn_neg (b := now) (g := (guA now v).2) (p := past) (k := k) hneg
  have q9 : CtI l yX3_giveUp wsX3_giveUp { frames := 4, cells := 0, slots := 0, locals := 93 } D (TY cI cG cC cR) [.ref x0, .int v] (XW aa x0 x1 x2 pp tt cI cG cC cR VV TV tex pf tl on k) (fun (u : (Nat → Nat → Nat → Int32) × Nat) => XW aa x0 x1 x2 pp tt cI cG cC cR u.1 TV tex pf tl u.2 (fnK k (guA now v).1)) (fun (r : Int32) (u : (Nat → Nat → Nat → Int32) × Nat) => r = (guA now v).1 ∧ XI (fnN now (guA now v).2 (guA now v).1) (fnP past k now (guA now v).1) (fnK k (guA now v).1) u.2 u.1) := c_X3_giveUp hX
  rw [e1, e2, e3] at q9
  exact q9
theorem cs_giveUp {l : Launch} {D : va_G} {cI cG cC cR : ClassId} {aa : Nat → Nat → Nat} {x0 x1 x2 pp tt tl on k : Nat} {pf : Nat → Nat} {VV : Nat → Nat → Nat → Int32} {TV : Nat → Nat → Int32} {tex now past : Nat → Int32} {v : Int32} (hX : XI now past k on VV) (hpos : ¬ (guA now v).1 < 0) : CtI l yX3_giveUp wsX3_giveUp { frames := 4, cells := 0, slots := 0, locals := 93 } D (TY cI cG cC cR) [.ref x0, .int v] (XW aa x0 x1 x2 pp tt cI cG cC cR VV TV tex pf tl on k) (fun (u : (Nat → Nat → Nat → Int32) × Nat) => XW aa x0 x1 x2 pp tt cI cG cC cR u.1 TV tex pf tl u.2 (kpK k)) (fun (r : Int32) (u : (Nat → Nat → Nat → Int32) × Nat) => r = (guA now v).1 ∧ XI (guA now v).2 (psh past k now) (kpK k) u.2 u.1) := by
  have e1 : fnN now (guA now v).2 (guA now v).1 = (guA now v).2 := if_neg hpos
  have e2 : fnP past k now (guA now v).1 = psh past k now := if_neg hpos
  have e3 : fnK k (guA now v).1 = kpK k := kp_fn hX.2.1 hpos
  have q9 : CtI l yX3_giveUp wsX3_giveUp { frames := 4, cells := 0, slots := 0, locals := 93 } D (TY cI cG cC cR) [.ref x0, .int v] (XW aa x0 x1 x2 pp tt cI cG cC cR VV TV tex pf tl on k) (fun (u : (Nat → Nat → Nat → Int32) × Nat) => XW aa x0 x1 x2 pp tt cI cG cC cR u.1 TV tex pf tl u.2 (fnK k (guA now v).1)) (fun (r : Int32) (u : (Nat → Nat → Nat → Int32) × Nat) => r = (guA now v).1 ∧ XI (fnN now (guA now v).2 (guA now v).1) (fnP past k now (guA now v).1) (fnK k (guA now v).1) u.2 u.1) := c_X3_giveUp hX
  rw [e1, e2, e3] at q9
  exact q9
theorem cf_damage {l : Launch} {D : va_G} {cI cG cC cR : ClassId} {aa : Nat → Nat → Nat} {x0 x1 x2 pp tt tl on k : Nat} {pf : Nat → Nat} {VV : Nat → Nat → Nat → Int32} {TV : Nat → Nat → Int32} {tex now past : Nat → Int32} {v : Int32} (hX : XI now past k on VV) (hneg : (dmA now v).1 < 0) : CtI l yX3_damage wsX3_damage { frames := 4, cells := 0, slots := 0, locals := 88 } D (TY cI cG cC cR) [.ref x0, .int v] (XW aa x0 x1 x2 pp tt cI cG cC cR VV TV tex pf tl on k) (fun (u : (Nat → Nat → Nat → Int32) × Nat) => XW aa x0 x1 x2 pp tt cI cG cC cR u.1 TV tex pf tl u.2 k) (fun (r : Int32) (u : (Nat → Nat → Nat → Int32) × Nat) => r = (dmA now v).1 ∧ XI now past k u.2 u.1) := by
  obtain ⟨e1, e2, e3⟩ := fn_neg (b := now) (g := (dmA now v).2) (p := past) (k := k) hneg
  have q9 : CtI l yX3_damage wsX3_damage { frames := 4, cells := 0, slots := 0, locals := 88 } D (TY cI cG cC cR) [.ref x0, .int v] (XW aa x0 x1 x2 pp tt cI cG cC cR VV TV tex pf tl on k) (fun (u : (Nat → Nat → Nat → Int32) × Nat) => XW aa x0 x1 x2 pp tt cI cG cC cR u.1 TV tex pf tl u.2 (fnK k (dmA now v).1)) (fun (r : Int32) (u : (Nat → Nat → Nat → Int32) × Nat) => r = (dmA now v).1 ∧ XI (fnN now (dmA now v).2 (dmA now v).1) (fnP past k now (dmA now v).1) (fnK k (dmA now v).1) u.2 u.1) := c_X3_damage hX
  rw [e1, e2, e3] at q9
  exact q9
theorem cs_damage {l : Launch} {D : va_G} {cI cG cC cR : ClassId} {aa : Nat → Nat → Nat} {x0 x1 x2 pp tt tl on k : Nat} {pf : Nat → Nat} {VV : Nat → Nat → Nat → Int32} {TV : Nat → Nat → Int32} {tex now past : Nat → Int32} {v : Int32} (hX : XI now past k on VV) (hpos : ¬ (dmA now v).1 < 0) : CtI l yX3_damage wsX3_damage { frames := 4, cells := 0, slots := 0, locals := 88 } D (TY cI cG cC cR) [.ref x0, .int v] (XW aa x0 x1 x2 pp tt cI cG cC cR VV TV tex pf tl on k) (fun (u : (Nat → Nat → Nat → Int32) × Nat) => XW aa x0 x1 x2 pp tt cI cG cC cR u.1 TV tex pf tl u.2 (kpK k)) (fun (r : Int32) (u : (Nat → Nat → Nat → Int32) × Nat) => r = (dmA now v).1 ∧ XI (dmA now v).2 (psh past k now) (kpK k) u.2 u.1) := by
  have e1 : fnN now (dmA now v).2 (dmA now v).1 = (dmA now v).2 := if_neg hpos
  have e2 : fnP past k now (dmA now v).1 = psh past k now := if_neg hpos
  have e3 : fnK k (dmA now v).1 = kpK k := kp_fn hX.2.1 hpos
  have q9 : CtI l yX3_damage wsX3_damage { frames := 4, cells := 0, slots := 0, locals := 88 } D (TY cI cG cC cR) [.ref x0, .int v] (XW aa x0 x1 x2 pp tt cI cG cC cR VV TV tex pf tl on k) (fun (u : (Nat → Nat → Nat → Int32) × Nat) => XW aa x0 x1 x2 pp tt cI cG cC cR u.1 TV tex pf tl u.2 (fnK k (dmA now v).1)) (fun (r : Int32) (u : (Nat → Nat → Nat → Int32) × Nat) => r = (dmA now v).1 ∧ XI (fnN now (dmA now v).2 (dmA now v).1) (fnP past k now (dmA now v).1) (fnK k (dmA now v).1) u.2 u.1) := c_X3_damage hX
  rw [e1, e2, e3] at q9
  exact q9
theorem cf_repair {l : Launch} {D : va_G} {cI cG cC cR : ClassId} {aa : Nat → Nat → Nat} {x0 x1 x2 pp tt tl on k : Nat} {pf : Nat → Nat} {VV : Nat → Nat → Nat → Int32} {TV : Nat → Nat → Int32} {tex now past : Nat → Int32} (hX : XI now past k on VV) (hneg : (rpA now).1 < 0) : CtI l yX3_repair wsX3_repair { frames := 4, cells := 0, slots := 0, locals := 88 } D (TY cI cG cC cR) [.ref x0] (XW aa x0 x1 x2 pp tt cI cG cC cR VV TV tex pf tl on k) (fun (u : (Nat → Nat → Nat → Int32) × Nat) => XW aa x0 x1 x2 pp tt cI cG cC cR u.1 TV tex pf tl u.2 k) (fun (r : Int32) (u : (Nat → Nat → Nat → Int32) × Nat) => r = (rpA now).1 ∧ XI now past k u.2 u.1) := by
  obtain ⟨e1, e2, e3⟩ := fn_neg (b := now) (g := (rpA now).2) (p := past) (k := k) hneg
  have q9 : CtI l yX3_repair wsX3_repair { frames := 4, cells := 0, slots := 0, locals := 88 } D (TY cI cG cC cR) [.ref x0] (XW aa x0 x1 x2 pp tt cI cG cC cR VV TV tex pf tl on k) (fun (u : (Nat → Nat → Nat → Int32) × Nat) => XW aa x0 x1 x2 pp tt cI cG cC cR u.1 TV tex pf tl u.2 (fnK k (rpA now).1)) (fun (r : Int32) (u : (Nat → Nat → Nat → Int32) × Nat) => r = (rpA now).1 ∧ XI (fnN now (rpA now).2 (rpA now).1) (fnP past k now (rpA now).1) (fnK k (rpA now).1) u.2 u.1) := c_X3_repair hX
  rw [e1, e2, e3] at q9
  exact q9
theorem cs_repair {l : Launch} {D : va_G} {cI cG cC cR : ClassId} {aa : Nat → Nat → Nat} {x0 x1 x2 pp tt tl on k : Nat} {pf : Nat → Nat} {VV : Nat → Nat → Nat → Int32} {TV : Nat → Nat → Int32} {tex now past : Nat → Int32} (hX : XI now past k on VV) (hpos : ¬ (rpA now).1 < 0) : CtI l yX3_repair wsX3_repair { frames := 4, cells := 0, slots := 0, locals := 88 } D (TY cI cG cC cR) [.ref x0] (XW aa x0 x1 x2 pp tt cI cG cC cR VV TV tex pf tl on k) (fun (u : (Nat → Nat → Nat → Int32) × Nat) => XW aa x0 x1 x2 pp tt cI cG cC cR u.1 TV tex pf tl u.2 (kpK k)) (fun (r : Int32) (u : (Nat → Nat → Nat → Int32) × Nat) => r = (rpA now).1 ∧ XI (rpA now).2 (psh past k now) (kpK k) u.2 u.1) := by
  have e1 : fnN now (rpA now).2 (rpA now).1 = (rpA now).2 := if_neg hpos
  have e2 : fnP past k now (rpA now).1 = psh past k now := if_neg hpos
  have e3 : fnK k (rpA now).1 = kpK k := kp_fn hX.2.1 hpos
  have q9 : CtI l yX3_repair wsX3_repair { frames := 4, cells := 0, slots := 0, locals := 88 } D (TY cI cG cC cR) [.ref x0] (XW aa x0 x1 x2 pp tt cI cG cC cR VV TV tex pf tl on k) (fun (u : (Nat → Nat → Nat → Int32) × Nat) => XW aa x0 x1 x2 pp tt cI cG cC cR u.1 TV tex pf tl u.2 (fnK k (rpA now).1)) (fun (r : Int32) (u : (Nat → Nat → Nat → Int32) × Nat) => r = (rpA now).1 ∧ XI (fnN now (rpA now).2 (rpA now).1) (fnP past k now (rpA now).1) (fnK k (rpA now).1) u.2 u.1) := c_X3_repair hX
  rw [e1, e2, e3] at q9
  exact q9
theorem cf_run {l : Launch} {D : va_G} {cI cG cC cR : ClassId} {aa : Nat → Nat → Nat} {x0 x1 x2 pp tt tl on k : Nat} {pf : Nat → Nat} {VV : Nat → Nat → Nat → Int32} {TV : Nat → Nat → Int32} {tex now past : Nat → Int32} (hX : XI now past k on VV) (htl : tl ≤ 80) (htx : ∀ i, i < tl → ∃ c, 1 ≤ c ∧ c ≤ 255 ∧ tex i = nI c) (hneg : (rnA now tex tl).1 < 0) : CtI l yX3_run wsX3_run { frames := 7, cells := 0, slots := 0, locals := 166 } D (TY cI cG cC cR) [.ref x0] (XW aa x0 x1 x2 pp tt cI cG cC cR VV TV tex pf tl on k) (fun (u : (Nat → Nat → Nat → Int32) × Nat × (Nat → Nat)) => XW aa x0 x1 x2 pp tt cI cG cC cR u.1 TV tex u.2.2 tl u.2.1 k) (fun (r : Int32) (u : (Nat → Nat → Nat → Int32) × Nat × (Nat → Nat)) => r = (rnA now tex tl).1 ∧ XI now past k u.2.1 u.1) := by
  obtain ⟨e1, e2, e3⟩ := fn_neg (b := now) (g := (rnA now tex tl).2) (p := past) (k := k) hneg
  have q9 : CtI l yX3_run wsX3_run { frames := 7, cells := 0, slots := 0, locals := 166 } D (TY cI cG cC cR) [.ref x0] (XW aa x0 x1 x2 pp tt cI cG cC cR VV TV tex pf tl on k) (fun (u : (Nat → Nat → Nat → Int32) × Nat × (Nat → Nat)) => XW aa x0 x1 x2 pp tt cI cG cC cR u.1 TV tex u.2.2 tl u.2.1 (fnK k (rnA now tex tl).1)) (fun (r : Int32) (u : (Nat → Nat → Nat → Int32) × Nat × (Nat → Nat)) => r = (rnA now tex tl).1 ∧ XI (fnN now (rnA now tex tl).2 (rnA now tex tl).1) (fnP past k now (rnA now tex tl).1) (fnK k (rnA now tex tl).1) u.2.1 u.1) := c_X3_run hX htl htx
  rw [e1, e2, e3] at q9
  exact q9
theorem cs_run {l : Launch} {D : va_G} {cI cG cC cR : ClassId} {aa : Nat → Nat → Nat} {x0 x1 x2 pp tt tl on k : Nat} {pf : Nat → Nat} {VV : Nat → Nat → Nat → Int32} {TV : Nat → Nat → Int32} {tex now past : Nat → Int32} (hX : XI now past k on VV) (htl : tl ≤ 80) (htx : ∀ i, i < tl → ∃ c, 1 ≤ c ∧ c ≤ 255 ∧ tex i = nI c) (hpos : ¬ (rnA now tex tl).1 < 0) : CtI l yX3_run wsX3_run { frames := 7, cells := 0, slots := 0, locals := 166 } D (TY cI cG cC cR) [.ref x0] (XW aa x0 x1 x2 pp tt cI cG cC cR VV TV tex pf tl on k) (fun (u : (Nat → Nat → Nat → Int32) × Nat × (Nat → Nat)) => XW aa x0 x1 x2 pp tt cI cG cC cR u.1 TV tex u.2.2 tl u.2.1 (kpK k)) (fun (r : Int32) (u : (Nat → Nat → Nat → Int32) × Nat × (Nat → Nat)) => r = (rnA now tex tl).1 ∧ XI (rnA now tex tl).2 (psh past k now) (kpK k) u.2.1 u.1) := by
  have e1 : fnN now (rnA now tex tl).2 (rnA now tex tl).1 = (rnA now tex tl).2 := if_neg hpos
  have e2 : fnP past k now (rnA now tex tl).1 = psh past k now := if_neg hpos
  have e3 : fnK k (rnA now tex tl).1 = kpK k := kp_fn hX.2.1 hpos
  have q9 : CtI l yX3_run wsX3_run { frames := 7, cells := 0, slots := 0, locals := 166 } D (TY cI cG cC cR) [.ref x0] (XW aa x0 x1 x2 pp tt cI cG cC cR VV TV tex pf tl on k) (fun (u : (Nat → Nat → Nat → Int32) × Nat × (Nat → Nat)) => XW aa x0 x1 x2 pp tt cI cG cC cR u.1 TV tex u.2.2 tl u.2.1 (fnK k (rnA now tex tl).1)) (fun (r : Int32) (u : (Nat → Nat → Nat → Int32) × Nat × (Nat → Nat)) => r = (rnA now tex tl).1 ∧ XI (fnN now (rnA now tex tl).2 (rnA now tex tl).1) (fnP past k now (rnA now tex tl).1) (fnK k (rnA now tex tl).1) u.2.1 u.1) := c_X3_run hX htl htx
  rw [e1, e2, e3] at q9
  exact q9
set_option maxHeartbeats 40000000 in
set_option maxRecDepth 100000 in
theorem c_L_up {l : Launch} {D : va_G} {cI cG cC cR : ClassId} {v : Int32} {m : Nat} (h0 : 0 < m) (h1 : m < 1000) : CtI l yL_up wsL_up { frames := 0, cells := 0, slots := 0, locals := 0 } D (TY cI cG cC cR) [.int v, .int (nI m)] ([]) (fun (_ : Unit) => []) (fun (r : Int32) (_ : Unit) => ∃ j, j < m ∧ r = nI j) := by
  refine CtI.of (cc := cL_up) (maxL := 2) (ty := .int) (by decide) rfl (Nat.le_of_ble_eq_true rfl) ?_
  intro P0 e0 s0 m0 a0 b0 t0 c0 A0 Q0 ls F hK hP hD hA RETN hl
  obtain ⟨hx, hb, hml, hown, hts⟩ := id F
  have hS : va_S A0 s0.heap s0.heap [] := va_S.rf
  have hl : lv_has ls 2 [(0, .int v), (1, .int (nI m))] := hl
  refine lv_iload_n hx hb dL_up_0 rfl (lv_at hl 0 rfl) ?_
  refine lv_ldc (v := 2147483647) hx hb hown (hts (.constant RL 8 (2147483647)) (by decide +kernel)) dL_up_1 ?_
  refine lv_iand hx hb dL_up_3 ?_
  refine lv_iload_n hx hb dL_up_4 rfl (lv_at hl 1 rfl) ?_
  refine lv_irem hx hb dL_up_5 (nI_ne0 (by omega) (by omega)) ?_
  exact RETN _ _ ((v &&& 2147483647) - (v &&& 2147483647) / (nI m) * (nI m)) () _ _ dL_up_6 rfl (up_ok v h0 h1) hP hD hS
set_option maxHeartbeats 40000000 in
set_option maxRecDepth 100000 in
theorem c_L_types {l : Launch} {D : va_G} {cI cG cC cR : ClassId} {aa : Nat → Nat → Nat} {x0 x1 x2 pp tt  on k : Nat} {pf : Nat → Nat} {VV : Nat → Nat → Nat → Int32} {TV : Nat → Nat → Int32} {tex : Nat → Int32} {m : Nat} (h0 : 1 ≤ m) (h1 : m ≤ 320) : CtI l yL_types wsL_types { frames := 1, cells := 0, slots := 0, locals := 21 } D (TY cI cG cC cR) [.ref x0, .int (nI m)] (XW aa x0 x1 x2 pp tt cI cG cC cR VV TV tex pf 0 on k) (fun (u : (Nat → Int32) × Nat) => XW aa x0 x1 x2 pp tt cI cG cC cR VV TV u.1 pf u.2 on k) (fun (r : Int32) (u : (Nat → Int32) × Nat) => r = nI 1 ∧ TyOk u.1 u.2 m) := by
  refine CtI.of (cc := cL_types) (maxL := 3) (ty := .boolean) (by decide) rfl (Nat.le_of_ble_eq_true rfl) ?_
  intro P0 e0 s0 m0 a0 b0 t0 c0 A0 Q0 ls F hK hP hD hA RETN hl
  obtain ⟨hx, hb, hml, hown, hts⟩ := id F
  have hS : va_S A0 s0.heap s0.heap [] := va_S.rf
  have hl : lv_has ls 3 [(0, .ref x0), (1, .int (nI m))] := hl
  refine lv_aload_n hx hb dL_types_0 rfl (lv_at hl 0 rfl) ?_
  refine lv_bipush (v := (nI 116)) hx hb dL_types_1 (by decide) ?_
  refine cl_VA (b := x0) (As := [.int (nI 116)]) (rest := []) F hK hA hP hD hS (ca_append (by omega) (by omega) (by omega)) (cwV 1 hts gL_types_X3_append rfl rfl rfl (by decide +kernel) ⟨Nat.le_of_ble_eq_true rfl, Nat.le_of_ble_eq_true rfl⟩) rfl rfl rfl hl.1 rfl (Nat.le_of_ble_eq_true rfl) ⟨Nat.zero_le _, Nat.zero_le _⟩ dL_types_3 (fun r3 u3 H locs hw3 hP hD hS => ?_)
  try dsimp only at hw3 hP hD
  have hP : va_P D vwCl (XW aa x0 x1 x2 pp tt cI cG cC cR VV TV (upd tex 0 (nI 116)) pf 1 on k) H := hP
  have hD : va_D A0 (XW aa x0 x1 x2 pp tt cI cG cC cR VV TV (upd tex 0 (nI 116)) pf 1 on k) := hD
  obtain rfl : r3 = (nI 1) := hw3
  refine lv_istore_n (lv' := [(2, .int (nI 1)), (0, .ref x0), (1, .int (nI m))]) hx hb dL_types_6 rfl hl (by decide) rfl (fun ls hl => ?_)
  refine lv_iload_n hx hb dL_types_7 rfl (lv_at hl 2 rfl) ?_
  refine lv_bipush (v := (nI 99)) hx hb dL_types_8 (by decide) ?_
  refine lv_icmp_le (tgt := 27) hx hb dL_types_10 (by decide) (fun c10 => ?_) (fun c10 => ?_)
  · skip
    replace c10 : m ≤ 99 := by rw [nI_leI (by omega) (by omega)] at c10; exact c10
    refine lv_iload_n hx hb dL_types_27 rfl (lv_at hl 0 rfl) ?_
    refine lv_istore_n (lv' := [(2, .int (nI 1)), (0, .ref x0), (1, .int (nI m))]) hx hb dL_types_28 rfl hl (by decide) rfl (fun ls hl => ?_)
    refine lv_iload_n hx hb dL_types_29 rfl (lv_at hl 2 rfl) ?_
    refine lv_bipush (v := (nI 9)) hx hb dL_types_30 (by decide) ?_
    refine lv_icmp_le (tgt := 52) hx hb dL_types_32 (by decide) (fun c32 => ?_) (fun c32 => ?_)
    · skip
      replace c32 : m ≤ 9 := by rw [nI_leI (by omega) (by omega)] at c32; exact c32
      refine lv_iload_n hx hb dL_types_52 rfl (lv_at hl 0 rfl) ?_
      refine lv_istore_n (lv' := [(2, .int (nI 1)), (0, .ref x0), (1, .int (nI m))]) hx hb dL_types_53 rfl hl (by decide) rfl (fun ls hl => ?_)
      refine lv_aload_n hx hb dL_types_54 rfl (lv_at hl 1 rfl) ?_
      refine lv_bipush (v := (nI 48)) hx hb dL_types_55 (by decide) ?_
      refine lv_iload_n hx hb dL_types_57 rfl (lv_at hl 2 rfl) ?_
      refine lv_bipush (v := (nI 10)) hx hb dL_types_58 (by decide) ?_
      refine lv_irem hx hb dL_types_60 (nI_ne0 (by omega) (by omega)) ?_
      refine n_as (x' := nI (m % 10)) (pk_rem (by omega) (by omega) (by omega)) ?_
      refine lv_iadd hx hb dL_types_61 ?_
      refine n_as (x' := nI (48 + (m % 10))) (nI_add _ _) ?_
      refine cl_VA (b := x0) (As := [.int (nI (48 + (m % 10)))]) (rest := []) F hK hA hP hD hS (ca_append (by omega) (by omega) (by omega)) (cwV 1 hts gL_types_X3_append rfl rfl rfl (by decide +kernel) ⟨Nat.le_of_ble_eq_true rfl, Nat.le_of_ble_eq_true rfl⟩) rfl rfl rfl hl.1 rfl (Nat.le_of_ble_eq_true rfl) ⟨Nat.zero_le _, Nat.zero_le _⟩ dL_types_62 (fun r62 u62 H locs hw62 hP hD hS => ?_)
      try dsimp only at hw62 hP hD
      have hP : va_P D vwCl (XW aa x0 x1 x2 pp tt cI cG cC cR VV TV (upd (upd tex 0 (nI 116)) 1 (nI (48 + (m % 10)))) pf 2 on k) H := hP
      have hD : va_D A0 (XW aa x0 x1 x2 pp tt cI cG cC cR VV TV (upd (upd tex 0 (nI 116)) 1 (nI (48 + (m % 10)))) pf 2 on k) := hD
      obtain rfl : r62 = (nI 2) := hw62
      refine lv_istore_n (lv' := [(2, .int (nI 2)), (0, .ref x0), (1, .int (nI m))]) hx hb dL_types_65 rfl hl (by decide) rfl (fun ls hl => ?_)
      refine lv_iload_n hx hb dL_types_66 rfl (lv_at hl 0 rfl) ?_
      refine lv_iconst (v := (nI 1)) hx hb dL_types_67 (by decide) ?_
      refine lv_icmp_le (tgt := 87) hx hb dL_types_68 (by decide) (fun c68 => ?_) (fun c68 => ?_)
      · skip
        exfalso
        exact absurd c68 (by decide)
      · skip
        refine lv_aload_n hx hb dL_types_71 rfl (lv_at hl 1 rfl) ?_
        refine lv_bipush (v := (nI 59)) hx hb dL_types_72 (by decide) ?_
        refine cl_VA (b := x0) (As := [.int (nI 59)]) (rest := []) F hK hA hP hD hS (ca_append (by omega) (by omega) (by omega)) (cwV 1 hts gL_types_X3_append rfl rfl rfl (by decide +kernel) ⟨Nat.le_of_ble_eq_true rfl, Nat.le_of_ble_eq_true rfl⟩) rfl rfl rfl hl.1 rfl (Nat.le_of_ble_eq_true rfl) ⟨Nat.zero_le _, Nat.zero_le _⟩ dL_types_74 (fun r74 u74 H locs hw74 hP hD hS => ?_)
        try dsimp only at hw74 hP hD
        have hP : va_P D vwCl (XW aa x0 x1 x2 pp tt cI cG cC cR VV TV (upd (upd (upd tex 0 (nI 116)) 1 (nI (48 + (m % 10)))) 2 (nI 59)) pf 3 on k) H := hP
        have hD : va_D A0 (XW aa x0 x1 x2 pp tt cI cG cC cR VV TV (upd (upd (upd tex 0 (nI 116)) 1 (nI (48 + (m % 10)))) 2 (nI 59)) pf 3 on k) := hD
        obtain rfl : r74 = (nI 3) := hw74
        refine lv_iload_n hx hb dL_types_77 rfl (lv_at hl 0 rfl) ?_
        refine lv_iconst (v := (nI 1)) hx hb dL_types_78 (by decide) ?_
        refine lv_iadd hx hb dL_types_79 ?_
        refine n_as (x' := nI 3) (by decide) ?_
        refine lv_icmp_ne (tgt := 87) hx hb dL_types_80 (by decide) (fun c80 => ?_) (fun c80 => ?_)
        · skip
          exfalso
          exact absurd c80 (by decide)
        · skip
          refine lv_iconst (v := (nI 1)) hx hb dL_types_83 (by decide) ?_
          refine lv_goto (tgt := 88) hx hb dL_types_84 (by decide) ?_
          exact RETN _ _ (nI 1) ((upd (upd (upd tex 0 (nI 116)) 1 (nI (48 + (m % 10)))) 2 (nI 59)), 3) _ _ dL_types_88 rfl (⟨rfl, ty_1 tex (by omega)⟩) hP hD hS
    · skip
      replace c32 : ¬ (m ≤ 9) := by rw [nI_leI (by omega) (by omega)] at c32; exact c32
      refine lv_aload_n hx hb dL_types_35 rfl (lv_at hl 1 rfl) ?_
      refine lv_bipush (v := (nI 48)) hx hb dL_types_36 (by decide) ?_
      refine lv_iload_n hx hb dL_types_38 rfl (lv_at hl 2 rfl) ?_
      refine lv_bipush (v := (nI 10)) hx hb dL_types_39 (by decide) ?_
      refine lv_idiv hx hb dL_types_41 (nI_ne0 (by omega) (by omega)) ?_
      refine n_as (x' := nI (m / 10)) (pk_div (by omega) (by omega) (by omega)) ?_
      refine lv_bipush (v := (nI 10)) hx hb dL_types_42 (by decide) ?_
      refine lv_irem hx hb dL_types_44 (nI_ne0 (by omega) (by omega)) ?_
      refine n_as (x' := nI ((m / 10) % 10)) (pk_rem (by omega) (by omega) (by omega)) ?_
      refine lv_iadd hx hb dL_types_45 ?_
      refine n_as (x' := nI (48 + ((m / 10) % 10))) (nI_add _ _) ?_
      refine cl_VA (b := x0) (As := [.int (nI (48 + ((m / 10) % 10)))]) (rest := []) F hK hA hP hD hS (ca_append (by omega) (by omega) (by omega)) (cwV 1 hts gL_types_X3_append rfl rfl rfl (by decide +kernel) ⟨Nat.le_of_ble_eq_true rfl, Nat.le_of_ble_eq_true rfl⟩) rfl rfl rfl hl.1 rfl (Nat.le_of_ble_eq_true rfl) ⟨Nat.zero_le _, Nat.zero_le _⟩ dL_types_46 (fun r46 u46 H locs hw46 hP hD hS => ?_)
      try dsimp only at hw46 hP hD
      have hP : va_P D vwCl (XW aa x0 x1 x2 pp tt cI cG cC cR VV TV (upd (upd tex 0 (nI 116)) 1 (nI (48 + ((m / 10) % 10)))) pf 2 on k) H := hP
      have hD : va_D A0 (XW aa x0 x1 x2 pp tt cI cG cC cR VV TV (upd (upd tex 0 (nI 116)) 1 (nI (48 + ((m / 10) % 10)))) pf 2 on k) := hD
      obtain rfl : r46 = (nI 2) := hw46
      refine lv_goto (tgt := 53) hx hb dL_types_49 (by decide) ?_
      refine lv_istore_n (lv' := [(2, .int (nI 2)), (0, .ref x0), (1, .int (nI m))]) hx hb dL_types_53 rfl hl (by decide) rfl (fun ls hl => ?_)
      refine lv_aload_n hx hb dL_types_54 rfl (lv_at hl 1 rfl) ?_
      refine lv_bipush (v := (nI 48)) hx hb dL_types_55 (by decide) ?_
      refine lv_iload_n hx hb dL_types_57 rfl (lv_at hl 2 rfl) ?_
      refine lv_bipush (v := (nI 10)) hx hb dL_types_58 (by decide) ?_
      refine lv_irem hx hb dL_types_60 (nI_ne0 (by omega) (by omega)) ?_
      refine n_as (x' := nI (m % 10)) (pk_rem (by omega) (by omega) (by omega)) ?_
      refine lv_iadd hx hb dL_types_61 ?_
      refine n_as (x' := nI (48 + (m % 10))) (nI_add _ _) ?_
      refine cl_VA (b := x0) (As := [.int (nI (48 + (m % 10)))]) (rest := []) F hK hA hP hD hS (ca_append (by omega) (by omega) (by omega)) (cwV 1 hts gL_types_X3_append rfl rfl rfl (by decide +kernel) ⟨Nat.le_of_ble_eq_true rfl, Nat.le_of_ble_eq_true rfl⟩) rfl rfl rfl hl.1 rfl (Nat.le_of_ble_eq_true rfl) ⟨Nat.zero_le _, Nat.zero_le _⟩ dL_types_62 (fun r62 u62 H locs hw62 hP hD hS => ?_)
      try dsimp only at hw62 hP hD
      have hP : va_P D vwCl (XW aa x0 x1 x2 pp tt cI cG cC cR VV TV (upd (upd (upd tex 0 (nI 116)) 1 (nI (48 + ((m / 10) % 10)))) 2 (nI (48 + (m % 10)))) pf 3 on k) H := hP
      have hD : va_D A0 (XW aa x0 x1 x2 pp tt cI cG cC cR VV TV (upd (upd (upd tex 0 (nI 116)) 1 (nI (48 + ((m / 10) % 10)))) 2 (nI (48 + (m % 10)))) pf 3 on k) := hD
      obtain rfl : r62 = (nI 3) := hw62
      refine lv_istore_n (lv' := [(2, .int (nI 3)), (0, .ref x0), (1, .int (nI m))]) hx hb dL_types_65 rfl hl (by decide) rfl (fun ls hl => ?_)
      refine lv_iload_n hx hb dL_types_66 rfl (lv_at hl 0 rfl) ?_
      refine lv_iconst (v := (nI 1)) hx hb dL_types_67 (by decide) ?_
      refine lv_icmp_le (tgt := 87) hx hb dL_types_68 (by decide) (fun c68 => ?_) (fun c68 => ?_)
      · skip
        exfalso
        exact absurd c68 (by decide)
      · skip
        refine lv_aload_n hx hb dL_types_71 rfl (lv_at hl 1 rfl) ?_
        refine lv_bipush (v := (nI 59)) hx hb dL_types_72 (by decide) ?_
        refine cl_VA (b := x0) (As := [.int (nI 59)]) (rest := []) F hK hA hP hD hS (ca_append (by omega) (by omega) (by omega)) (cwV 1 hts gL_types_X3_append rfl rfl rfl (by decide +kernel) ⟨Nat.le_of_ble_eq_true rfl, Nat.le_of_ble_eq_true rfl⟩) rfl rfl rfl hl.1 rfl (Nat.le_of_ble_eq_true rfl) ⟨Nat.zero_le _, Nat.zero_le _⟩ dL_types_74 (fun r74 u74 H locs hw74 hP hD hS => ?_)
        try dsimp only at hw74 hP hD
        have hP : va_P D vwCl (XW aa x0 x1 x2 pp tt cI cG cC cR VV TV (upd (upd (upd (upd tex 0 (nI 116)) 1 (nI (48 + ((m / 10) % 10)))) 2 (nI (48 + (m % 10)))) 3 (nI 59)) pf 4 on k) H := hP
        have hD : va_D A0 (XW aa x0 x1 x2 pp tt cI cG cC cR VV TV (upd (upd (upd (upd tex 0 (nI 116)) 1 (nI (48 + ((m / 10) % 10)))) 2 (nI (48 + (m % 10)))) 3 (nI 59)) pf 4 on k) := hD
        obtain rfl : r74 = (nI 4) := hw74
        refine lv_iload_n hx hb dL_types_77 rfl (lv_at hl 0 rfl) ?_
        refine lv_iconst (v := (nI 1)) hx hb dL_types_78 (by decide) ?_
        refine lv_iadd hx hb dL_types_79 ?_
        refine n_as (x' := nI 4) (by decide) ?_
        refine lv_icmp_ne (tgt := 87) hx hb dL_types_80 (by decide) (fun c80 => ?_) (fun c80 => ?_)
        · skip
          exfalso
          exact absurd c80 (by decide)
        · skip
          refine lv_iconst (v := (nI 1)) hx hb dL_types_83 (by decide) ?_
          refine lv_goto (tgt := 88) hx hb dL_types_84 (by decide) ?_
          exact RETN _ _ (nI 1) ((upd (upd (upd (upd tex 0 (nI 116)) 1 (nI (48 + ((m / 10) % 10)))) 2 (nI (48 + (m % 10)))) 3 (nI 59)), 4) _ _ dL_types_88 rfl (⟨rfl, ty_2 tex (by omega) (by omega)⟩) hP hD hS
  · skip
    replace c10 : ¬ (m ≤ 99) := by rw [nI_leI (by omega) (by omega)] at c10; exact c10
    refine lv_aload_n hx hb dL_types_13 rfl (lv_at hl 1 rfl) ?_
    refine lv_bipush (v := (nI 48)) hx hb dL_types_14 (by decide) ?_
    refine lv_iload_n hx hb dL_types_16 rfl (lv_at hl 2 rfl) ?_
    refine lv_bipush (v := (nI 100)) hx hb dL_types_17 (by decide) ?_
    refine lv_idiv hx hb dL_types_19 (nI_ne0 (by omega) (by omega)) ?_
    refine n_as (x' := nI (m / 100)) (pk_div (by omega) (by omega) (by omega)) ?_
    refine lv_iadd hx hb dL_types_20 ?_
    refine n_as (x' := nI (48 + (m / 100))) (nI_add _ _) ?_
    refine cl_VA (b := x0) (As := [.int (nI (48 + (m / 100)))]) (rest := []) F hK hA hP hD hS (ca_append (by omega) (by omega) (by omega)) (cwV 1 hts gL_types_X3_append rfl rfl rfl (by decide +kernel) ⟨Nat.le_of_ble_eq_true rfl, Nat.le_of_ble_eq_true rfl⟩) rfl rfl rfl hl.1 rfl (Nat.le_of_ble_eq_true rfl) ⟨Nat.zero_le _, Nat.zero_le _⟩ dL_types_21 (fun r21 u21 H locs hw21 hP hD hS => ?_)
    try dsimp only at hw21 hP hD
    have hP : va_P D vwCl (XW aa x0 x1 x2 pp tt cI cG cC cR VV TV (upd (upd tex 0 (nI 116)) 1 (nI (48 + (m / 100)))) pf 2 on k) H := hP
    have hD : va_D A0 (XW aa x0 x1 x2 pp tt cI cG cC cR VV TV (upd (upd tex 0 (nI 116)) 1 (nI (48 + (m / 100)))) pf 2 on k) := hD
    obtain rfl : r21 = (nI 2) := hw21
    refine lv_goto (tgt := 28) hx hb dL_types_24 (by decide) ?_
    refine lv_istore_n (lv' := [(2, .int (nI 2)), (0, .ref x0), (1, .int (nI m))]) hx hb dL_types_28 rfl hl (by decide) rfl (fun ls hl => ?_)
    refine lv_iload_n hx hb dL_types_29 rfl (lv_at hl 2 rfl) ?_
    refine lv_bipush (v := (nI 9)) hx hb dL_types_30 (by decide) ?_
    refine lv_icmp_le (tgt := 52) hx hb dL_types_32 (by decide) (fun c32 => ?_) (fun c32 => ?_)
    · skip
      replace c32 : m ≤ 9 := by rw [nI_leI (by omega) (by omega)] at c32; exact c32
      exfalso
      omega
    · skip
      replace c32 : ¬ (m ≤ 9) := by rw [nI_leI (by omega) (by omega)] at c32; exact c32
      refine lv_aload_n hx hb dL_types_35 rfl (lv_at hl 1 rfl) ?_
      refine lv_bipush (v := (nI 48)) hx hb dL_types_36 (by decide) ?_
      refine lv_iload_n hx hb dL_types_38 rfl (lv_at hl 2 rfl) ?_
      refine lv_bipush (v := (nI 10)) hx hb dL_types_39 (by decide) ?_
      refine lv_idiv hx hb dL_types_41 (nI_ne0 (by omega) (by omega)) ?_
      refine n_as (x' := nI (m / 10)) (pk_div (by omega) (by omega) (by omega)) ?_
      refine lv_bipush (v := (nI 10)) hx hb dL_types_42 (by decide) ?_
      refine lv_irem hx hb dL_types_44 (nI_ne0 (by omega) (by omega)) ?_
      refine n_as (x' := nI ((m / 10) % 10)) (pk_rem (by omega) (by omega) (by omega)) ?_
      refine lv_iadd hx hb dL_types_45 ?_
      refine n_as (x' := nI (48 + ((m / 10) % 10))) (nI_add _ _) ?_
      refine cl_VA (b := x0) (As := [.int (nI (48 + ((m / 10) % 10)))]) (rest := []) F hK hA hP hD hS (ca_append (by omega) (by omega) (by omega)) (cwV 1 hts gL_types_X3_append rfl rfl rfl (by decide +kernel) ⟨Nat.le_of_ble_eq_true rfl, Nat.le_of_ble_eq_true rfl⟩) rfl rfl rfl hl.1 rfl (Nat.le_of_ble_eq_true rfl) ⟨Nat.zero_le _, Nat.zero_le _⟩ dL_types_46 (fun r46 u46 H locs hw46 hP hD hS => ?_)
      try dsimp only at hw46 hP hD
      have hP : va_P D vwCl (XW aa x0 x1 x2 pp tt cI cG cC cR VV TV (upd (upd (upd tex 0 (nI 116)) 1 (nI (48 + (m / 100)))) 2 (nI (48 + ((m / 10) % 10)))) pf 3 on k) H := hP
      have hD : va_D A0 (XW aa x0 x1 x2 pp tt cI cG cC cR VV TV (upd (upd (upd tex 0 (nI 116)) 1 (nI (48 + (m / 100)))) 2 (nI (48 + ((m / 10) % 10)))) pf 3 on k) := hD
      obtain rfl : r46 = (nI 3) := hw46
      refine lv_goto (tgt := 53) hx hb dL_types_49 (by decide) ?_
      refine lv_istore_n (lv' := [(2, .int (nI 3)), (0, .ref x0), (1, .int (nI m))]) hx hb dL_types_53 rfl hl (by decide) rfl (fun ls hl => ?_)
      refine lv_aload_n hx hb dL_types_54 rfl (lv_at hl 1 rfl) ?_
      refine lv_bipush (v := (nI 48)) hx hb dL_types_55 (by decide) ?_
      refine lv_iload_n hx hb dL_types_57 rfl (lv_at hl 2 rfl) ?_
      refine lv_bipush (v := (nI 10)) hx hb dL_types_58 (by decide) ?_
      refine lv_irem hx hb dL_types_60 (nI_ne0 (by omega) (by omega)) ?_
      refine n_as (x' := nI (m % 10)) (pk_rem (by omega) (by omega) (by omega)) ?_
      refine lv_iadd hx hb dL_types_61 ?_
      refine n_as (x' := nI (48 + (m % 10))) (nI_add _ _) ?_
      refine cl_VA (b := x0) (As := [.int (nI (48 + (m % 10)))]) (rest := []) F hK hA hP hD hS (ca_append (by omega) (by omega) (by omega)) (cwV 1 hts gL_types_X3_append rfl rfl rfl (by decide +kernel) ⟨Nat.le_of_ble_eq_true rfl, Nat.le_of_ble_eq_true rfl⟩) rfl rfl rfl hl.1 rfl (Nat.le_of_ble_eq_true rfl) ⟨Nat.zero_le _, Nat.zero_le _⟩ dL_types_62 (fun r62 u62 H locs hw62 hP hD hS => ?_)
      try dsimp only at hw62 hP hD
      have hP : va_P D vwCl (XW aa x0 x1 x2 pp tt cI cG cC cR VV TV (upd (upd (upd (upd tex 0 (nI 116)) 1 (nI (48 + (m / 100)))) 2 (nI (48 + ((m / 10) % 10)))) 3 (nI (48 + (m % 10)))) pf 4 on k) H := hP
      have hD : va_D A0 (XW aa x0 x1 x2 pp tt cI cG cC cR VV TV (upd (upd (upd (upd tex 0 (nI 116)) 1 (nI (48 + (m / 100)))) 2 (nI (48 + ((m / 10) % 10)))) 3 (nI (48 + (m % 10)))) pf 4 on k) := hD
      obtain rfl : r62 = (nI 4) := hw62
      refine lv_istore_n (lv' := [(2, .int (nI 4)), (0, .ref x0), (1, .int (nI m))]) hx hb dL_types_65 rfl hl (by decide) rfl (fun ls hl => ?_)
      refine lv_iload_n hx hb dL_types_66 rfl (lv_at hl 0 rfl) ?_
      refine lv_iconst (v := (nI 1)) hx hb dL_types_67 (by decide) ?_
      refine lv_icmp_le (tgt := 87) hx hb dL_types_68 (by decide) (fun c68 => ?_) (fun c68 => ?_)
      · skip
        exfalso
        exact absurd c68 (by decide)
      · skip
        refine lv_aload_n hx hb dL_types_71 rfl (lv_at hl 1 rfl) ?_
        refine lv_bipush (v := (nI 59)) hx hb dL_types_72 (by decide) ?_
        refine cl_VA (b := x0) (As := [.int (nI 59)]) (rest := []) F hK hA hP hD hS (ca_append (by omega) (by omega) (by omega)) (cwV 1 hts gL_types_X3_append rfl rfl rfl (by decide +kernel) ⟨Nat.le_of_ble_eq_true rfl, Nat.le_of_ble_eq_true rfl⟩) rfl rfl rfl hl.1 rfl (Nat.le_of_ble_eq_true rfl) ⟨Nat.zero_le _, Nat.zero_le _⟩ dL_types_74 (fun r74 u74 H locs hw74 hP hD hS => ?_)
        try dsimp only at hw74 hP hD
        have hP : va_P D vwCl (XW aa x0 x1 x2 pp tt cI cG cC cR VV TV (upd (upd (upd (upd (upd tex 0 (nI 116)) 1 (nI (48 + (m / 100)))) 2 (nI (48 + ((m / 10) % 10)))) 3 (nI (48 + (m % 10)))) 4 (nI 59)) pf 5 on k) H := hP
        have hD : va_D A0 (XW aa x0 x1 x2 pp tt cI cG cC cR VV TV (upd (upd (upd (upd (upd tex 0 (nI 116)) 1 (nI (48 + (m / 100)))) 2 (nI (48 + ((m / 10) % 10)))) 3 (nI (48 + (m % 10)))) 4 (nI 59)) pf 5 on k) := hD
        obtain rfl : r74 = (nI 5) := hw74
        refine lv_iload_n hx hb dL_types_77 rfl (lv_at hl 0 rfl) ?_
        refine lv_iconst (v := (nI 1)) hx hb dL_types_78 (by decide) ?_
        refine lv_iadd hx hb dL_types_79 ?_
        refine n_as (x' := nI 5) (by decide) ?_
        refine lv_icmp_ne (tgt := 87) hx hb dL_types_80 (by decide) (fun c80 => ?_) (fun c80 => ?_)
        · skip
          exfalso
          exact absurd c80 (by decide)
        · skip
          refine lv_iconst (v := (nI 1)) hx hb dL_types_83 (by decide) ?_
          refine lv_goto (tgt := 88) hx hb dL_types_84 (by decide) ?_
          exact RETN _ _ (nI 1) ((upd (upd (upd (upd (upd tex 0 (nI 116)) 1 (nI (48 + (m / 100)))) 2 (nI (48 + ((m / 10) % 10)))) 3 (nI (48 + (m % 10)))) 4 (nI 59)), 5) _ _ dL_types_88 rfl (⟨rfl, ty_3 tex (by omega) (by omega)⟩) hP hD hS
set_option maxHeartbeats 40000000 in
set_option maxRecDepth 100000 in
theorem c_L_act {l : Launch} {D : va_G} {cI cG cC cR : ClassId} {aa : Nat → Nat → Nat} {x0 x1 x2 pp tt tl on k : Nat} {pf : Nat → Nat} {VV : Nat → Nat → Nat → Int32} {TV : Nat → Nat → Int32} {tex now past : Nat → Int32} {q9 p9 : Int32} (hX : XI now past k on VV) (hK3 : K3 now) : CtI l yL_act wsL_act { frames := 6, cells := 0, slots := 0, locals := 141 } D (TY cI cG cC cR) [.ref x0, .int q9, .int p9] (XW aa x0 x1 x2 pp tt cI cG cC cR VV TV tex pf tl on k) (fun (u : (Nat → Nat → Nat → Int32) × Nat × Int32 × (Nat → Int32)) => XW aa x0 x1 x2 pp tt cI cG cC cR u.1 TV tex pf tl u.2.1 (fnK k u.2.2.1)) (fun (r : Int32) (u : (Nat → Nat → Nat → Int32) × Nat × Int32 × (Nat → Int32)) => r = u.2.2.1 ∧ K3 u.2.2.2 ∧ XI (fnN now u.2.2.2 u.2.2.1) (fnP past k now u.2.2.1) (fnK k u.2.2.1) u.2.1 u.1) := by
  refine CtI.of (cc := cL_act) (maxL := 5) (ty := .int) (by decide) rfl (Nat.le_of_ble_eq_true rfl) ?_
  intro P0 e0 s0 m0 a0 b0 t0 c0 A0 Q0 ls F hK hP hD hA RETN hl
  obtain ⟨hx, hb, hml, hown, hts⟩ := id F
  have hS : va_S A0 s0.heap s0.heap [] := va_S.rf
  have hl : lv_has ls 5 [(0, .ref x0), (1, .int q9), (2, .int p9)] := hl
  obtain ⟨hon, hk5, R, hI, hH⟩ := id hX
  obtain ⟨ki, kb, kB, kz, ko⟩ := id hI
  refine lv_iload_n hx hb dL_act_0 rfl (lv_at hl 2 rfl) ?_
  refine lv_sipush (v := (nI 320)) hx hb dL_act_1 (by decide) ?_
  refine cl_S0 (As := [.int p9, .int (nI 320)]) (rest := []) F hK hA hP hD hS (c_L_up (by decide) (by decide)) (va_cwS 2 hts gL_act_L_up rfl rfl rfl (by decide +kernel) ⟨Nat.le_of_ble_eq_true rfl, Nat.le_of_ble_eq_true rfl⟩) rfl hl.1 rfl (Nat.le_of_ble_eq_true rfl) ⟨Nat.zero_le _, Nat.zero_le _⟩ dL_act_4 (fun r4 H locs hw4 hP hS => ?_)
  try dsimp only at hw4
  obtain ⟨j4, hj_j4, rfl⟩ := hw4
  refine lv_istore_n (lv' := [(3, .int (nI j4)), (0, .ref x0), (1, .int q9), (2, .int p9)]) hx hb dL_act_7 rfl hl (by decide) rfl (fun ls hl => ?_)
  refine lv_iload_n hx hb dL_act_8 rfl (lv_at hl 0 rfl) ?_
  refine lv_iload_n hx hb dL_act_9 rfl (lv_at hl 3 rfl) ?_
  refine lv_bipush (v := (nI 9)) hx hb dL_act_10 (by decide) ?_
  refine lv_ishr hx hb dL_act_12 ?_
  refine lv_iload_n hx hb dL_act_13 rfl (lv_at hl 3 rfl) ?_
  refine lv_bipush (v := (nI 20)) hx hb dL_act_14 (by decide) ?_
  refine lv_ishr hx hb dL_act_16 ?_
  refine lv_iconst (v := (nI 1)) hx hb dL_act_17 (by decide) ?_
  refine lv_iand hx hb dL_act_18 ?_
  refine lv_if_ne (tgt := 27) hx hb dL_act_19 (by decide) (fun c19 => ?_) (fun c19 => ?_)
  · skip
    replace c19 : ¬ ((p9 >>> ((nI 20) &&& 31)) &&& (nI 1)) = nI 0 := c19
    refine lv_bipush (v := (nI 90)) hx hb dL_act_27 (by decide) ?_
    refine cl_S0 (As := [.int (p9 >>> ((nI 9) &&& 31)), .int (nI 90)]) (rest := [.int (nI j4)]) F hK hA hP hD hS (c_L_up (by decide) (by decide)) (va_cwS 2 hts gL_act_L_up rfl rfl rfl (by decide +kernel) ⟨Nat.le_of_ble_eq_true rfl, Nat.le_of_ble_eq_true rfl⟩) rfl hl.1 rfl (Nat.le_of_ble_eq_true rfl) ⟨Nat.zero_le _, Nat.zero_le _⟩ dL_act_29 (fun r29 H locs hw29 hP hS => ?_)
    try dsimp only at hw29
    obtain ⟨j29, hj_j29, rfl⟩ := hw29
    refine lv_iadd hx hb dL_act_32 ?_
    refine n_as (x' := nI (j4 + j29)) (nI_add _ _) ?_
    refine lv_istore (lv' := [(4, .int (nI (j4 + j29))), (3, .int (nI j4)), (0, .ref x0), (1, .int q9), (2, .int p9)]) hx hb dL_act_33 hl (by decide) rfl (fun ls hl => ?_)
    refine lv_iload_n hx hb dL_act_35 rfl (lv_at hl 3 rfl) ?_
    refine lv_bipush (v := (nI 14)) hx hb dL_act_36 (by decide) ?_
    refine cl_S0 (As := [.int q9, .int (nI 14)]) (rest := []) F hK hA hP hD hS (c_L_up (by decide) (by decide)) (va_cwS 2 hts gL_act_L_up rfl rfl rfl (by decide +kernel) ⟨Nat.le_of_ble_eq_true rfl, Nat.le_of_ble_eq_true rfl⟩) rfl hl.1 rfl (Nat.le_of_ble_eq_true rfl) ⟨Nat.zero_le _, Nat.zero_le _⟩ dL_act_38 (fun r38 H locs hw38 hP hS => ?_)
    try dsimp only at hw38
    obtain ⟨j38, hj_j38, rfl⟩ := hw38
    rcases (show (j38 < 0 ∨ 12 < j38) ∨ (0 ≤ j38 ∧ j38 ≤ 12) by omega) with hsw | hsw
    · skip
      refine lv_tableOut (tgt := 218) hx hb dL_act_41 (by rw [nI_toInt (by omega)]; omega) (by decide) ?_
      refine lv_iload_n hx hb dL_act_218 rfl (lv_at hl 3 rfl) ?_
      refine lv_iconst (v := (nI 4)) hx hb dL_act_219 (by decide) ?_
      refine lv_ishr hx hb dL_act_220 ?_
      refine lv_iconst (v := (nI 1)) hx hb dL_act_221 (by decide) ?_
      refine lv_iand hx hb dL_act_222 ?_
      refine lv_if_ne (tgt := 233) hx hb dL_act_223 (by decide) (fun c223 => ?_) (fun c223 => ?_)
      · skip
        replace c223 : ¬ ((q9 >>> ((nI 4) &&& 31)) &&& (nI 1)) = nI 0 := c223
        refine lv_aload_n hx hb dL_act_233 rfl (lv_at hl 2 rfl) ?_
        refine lv_iload_n hx hb dL_act_234 rfl (lv_at hl 3 rfl) ?_
        refine lv_iconst (v := (nI 5)) hx hb dL_act_235 (by decide) ?_
        refine lv_ishr hx hb dL_act_236 ?_
        refine lv_iconst (v := (nI 3)) hx hb dL_act_237 (by decide) ?_
        refine cl_S0 (As := [.int (q9 >>> ((nI 5) &&& 31)), .int (nI 3)]) (rest := [.ref x0]) F hK hA hP hD hS (c_L_up (by decide) (by decide)) (va_cwS 2 hts gL_act_L_up rfl rfl rfl (by decide +kernel) ⟨Nat.le_of_ble_eq_true rfl, Nat.le_of_ble_eq_true rfl⟩) rfl hl.1 rfl (Nat.le_of_ble_eq_true rfl) ⟨Nat.zero_le _, Nat.zero_le _⟩ dL_act_238 (fun r238 H locs hw238 hP hS => ?_)
        try dsimp only at hw238
        obtain ⟨j238, hj_j238, rfl⟩ := hw238
        refine cl_VA (b := x0) (As := [.int (nI j238)]) (rest := []) F hK hA hP hD hS (c_X3_damage hX) (cwV 1 hts gL_act_X3_damage rfl rfl rfl (by decide +kernel) ⟨Nat.le_of_ble_eq_true rfl, Nat.le_of_ble_eq_true rfl⟩) rfl rfl rfl hl.1 rfl (Nat.le_of_ble_eq_true rfl) ⟨Nat.zero_le _, Nat.zero_le _⟩ dL_act_241 (fun r241 u3 H locs hw241 hP hD hS => ?_)
        try dsimp only at hw241 hP hD
        obtain rfl : r241 = ((dmA now (nI j238)).1) := hw241.1
        have hq3 := hw241.2
        have hq4 : K3 (dmA now (nI j238)).2 := K3_dm hK3
        exact RETN _ _ ((dmA now (nI j238)).1) (u3.1, u3.2, (dmA now (nI j238)).1, (dmA now (nI j238)).2) _ _ dL_act_244 rfl (⟨rfl, hq4, hq3⟩) hP hD hS
      · skip
        replace c223 : ((q9 >>> ((nI 4) &&& 31)) &&& (nI 1)) = nI 0 := c223
        refine lv_aload_n hx hb dL_act_226 rfl (lv_at hl 2 rfl) ?_
        refine cl_VA (b := x0) (As := []) (rest := []) F hK hA hP hD hS (c_X3_repair hX) (cwV 0 hts gL_act_X3_repair rfl rfl rfl (by decide +kernel) ⟨Nat.le_of_ble_eq_true rfl, Nat.le_of_ble_eq_true rfl⟩) rfl rfl rfl hl.1 rfl (Nat.le_of_ble_eq_true rfl) ⟨Nat.zero_le _, Nat.zero_le _⟩ dL_act_227 (fun r227 u3 H locs hw227 hP hD hS => ?_)
        try dsimp only at hw227 hP hD
        obtain rfl : r227 = ((rpA now).1) := hw227.1
        have hq3 := hw227.2
        have hq4 : K3 (rpA now).2 := K3_rp hK3
        refine lv_goto (tgt := 244) hx hb dL_act_230 (by decide) ?_
        exact RETN _ _ ((rpA now).1) (u3.1, u3.2, (rpA now).1, (rpA now).2) _ _ dL_act_244 rfl (⟨rfl, hq4, hq3⟩) hP hD hS
    · skip
      rcases (show j38 = 0 ∨ j38 = 1 ∨ j38 = 2 ∨ j38 = 3 ∨ j38 = 4 ∨ j38 = 5 ∨ j38 = 6 ∨ j38 = 7 ∨ j38 = 8 ∨ j38 = 9 ∨ j38 = 10 ∨ j38 = 11 ∨ j38 = 12 by omega) with rfl | rfl | rfl | rfl | rfl | rfl | rfl | rfl | rfl | rfl | rfl | rfl | rfl
      · skip
        refine lv_tableIn (off := 67) (tgt := 108) hx hb dL_act_41 (by decide) (by decide) rfl (by decide) ?_
        refine lv_aload_n hx hb dL_act_108 rfl (lv_at hl 2 rfl) ?_
        refine cl_VA (b := x0) (As := []) (rest := []) F hK hA hP hD hS (c_X3_take hX) (cwV 0 hts gL_act_X3_take rfl rfl rfl (by decide +kernel) ⟨Nat.le_of_ble_eq_true rfl, Nat.le_of_ble_eq_true rfl⟩) rfl rfl rfl hl.1 rfl (Nat.le_of_ble_eq_true rfl) ⟨Nat.zero_le _, Nat.zero_le _⟩ dL_act_109 (fun r109 u3 H locs hw109 hP hD hS => ?_)
        try dsimp only at hw109 hP hD
        obtain rfl : r109 = ((tkA now).1) := hw109.1
        have hq3 := hw109.2
        have hq4 : K3 (tkA now).2 := K3_tk hK3
        exact RETN _ _ ((tkA now).1) (u3.1, u3.2, (tkA now).1, (tkA now).2) _ _ dL_act_112 rfl (⟨rfl, hq4, hq3⟩) hP hD hS
      · skip
        refine lv_tableIn (off := 67) (tgt := 108) hx hb dL_act_41 (by decide) (by decide) rfl (by decide) ?_
        refine lv_aload_n hx hb dL_act_108 rfl (lv_at hl 2 rfl) ?_
        refine cl_VA (b := x0) (As := []) (rest := []) F hK hA hP hD hS (c_X3_take hX) (cwV 0 hts gL_act_X3_take rfl rfl rfl (by decide +kernel) ⟨Nat.le_of_ble_eq_true rfl, Nat.le_of_ble_eq_true rfl⟩) rfl rfl rfl hl.1 rfl (Nat.le_of_ble_eq_true rfl) ⟨Nat.zero_le _, Nat.zero_le _⟩ dL_act_109 (fun r109 u3 H locs hw109 hP hD hS => ?_)
        try dsimp only at hw109 hP hD
        obtain rfl : r109 = ((tkA now).1) := hw109.1
        have hq3 := hw109.2
        have hq4 : K3 (tkA now).2 := K3_tk hK3
        exact RETN _ _ ((tkA now).1) (u3.1, u3.2, (tkA now).1, (tkA now).2) _ _ dL_act_112 rfl (⟨rfl, hq4, hq3⟩) hP hD hS
      · skip
        refine lv_tableIn (off := 72) (tgt := 113) hx hb dL_act_41 (by decide) (by decide) rfl (by decide) ?_
        refine lv_aload_n hx hb dL_act_113 rfl (lv_at hl 2 rfl) ?_
        refine lv_iconst (v := (nI 1)) hx hb dL_act_114 (by decide) ?_
        refine lv_iload_n hx hb dL_act_115 rfl (lv_at hl 3 rfl) ?_
        refine lv_iconst (v := (nI 4)) hx hb dL_act_116 (by decide) ?_
        refine lv_ishr hx hb dL_act_117 ?_
        refine lv_bipush (v := (nI 64)) hx hb dL_act_118 (by decide) ?_
        refine cl_S0 (As := [.int (q9 >>> ((nI 4) &&& 31)), .int (nI 64)]) (rest := [.int (nI 1), .ref x0]) F hK hA hP hD hS (c_L_up (by decide) (by decide)) (va_cwS 2 hts gL_act_L_up rfl rfl rfl (by decide +kernel) ⟨Nat.le_of_ble_eq_true rfl, Nat.le_of_ble_eq_true rfl⟩) rfl hl.1 rfl (Nat.le_of_ble_eq_true rfl) ⟨Nat.zero_le _, Nat.zero_le _⟩ dL_act_120 (fun r120 H locs hw120 hP hS => ?_)
        try dsimp only at hw120
        obtain ⟨j120, hj_j120, rfl⟩ := hw120
        refine lv_iadd hx hb dL_act_123 ?_
        refine n_as (x' := nI (1 + j120)) (nI_add _ _) ?_
        refine cl_VA (b := x0) (As := [.int (nI (1 + j120))]) (rest := []) F hK hA hP hD hS (c_X3_takeRun hX) (cwV 1 hts gL_act_X3_takeRun rfl rfl rfl (by decide +kernel) ⟨Nat.le_of_ble_eq_true rfl, Nat.le_of_ble_eq_true rfl⟩) rfl rfl rfl hl.1 rfl (Nat.le_of_ble_eq_true rfl) ⟨Nat.zero_le _, Nat.zero_le _⟩ dL_act_124 (fun r124 u3 H locs hw124 hP hD hS => ?_)
        try dsimp only at hw124 hP hD
        obtain rfl : r124 = ((trA now (nI (1 + j120))).1) := hw124.1
        have hq3 := hw124.2
        have hq4 : K3 (trA now (nI (1 + j120))).2 := K3_tr hK3
        exact RETN _ _ ((trA now (nI (1 + j120))).1) (u3.1, u3.2, (trA now (nI (1 + j120))).1, (trA now (nI (1 + j120))).2) _ _ dL_act_127 rfl (⟨rfl, hq4, hq3⟩) hP hD hS
      · skip
        refine lv_tableIn (off := 72) (tgt := 113) hx hb dL_act_41 (by decide) (by decide) rfl (by decide) ?_
        refine lv_aload_n hx hb dL_act_113 rfl (lv_at hl 2 rfl) ?_
        refine lv_iconst (v := (nI 1)) hx hb dL_act_114 (by decide) ?_
        refine lv_iload_n hx hb dL_act_115 rfl (lv_at hl 3 rfl) ?_
        refine lv_iconst (v := (nI 4)) hx hb dL_act_116 (by decide) ?_
        refine lv_ishr hx hb dL_act_117 ?_
        refine lv_bipush (v := (nI 64)) hx hb dL_act_118 (by decide) ?_
        refine cl_S0 (As := [.int (q9 >>> ((nI 4) &&& 31)), .int (nI 64)]) (rest := [.int (nI 1), .ref x0]) F hK hA hP hD hS (c_L_up (by decide) (by decide)) (va_cwS 2 hts gL_act_L_up rfl rfl rfl (by decide +kernel) ⟨Nat.le_of_ble_eq_true rfl, Nat.le_of_ble_eq_true rfl⟩) rfl hl.1 rfl (Nat.le_of_ble_eq_true rfl) ⟨Nat.zero_le _, Nat.zero_le _⟩ dL_act_120 (fun r120 H locs hw120 hP hS => ?_)
        try dsimp only at hw120
        obtain ⟨j120, hj_j120, rfl⟩ := hw120
        refine lv_iadd hx hb dL_act_123 ?_
        refine n_as (x' := nI (1 + j120)) (nI_add _ _) ?_
        refine cl_VA (b := x0) (As := [.int (nI (1 + j120))]) (rest := []) F hK hA hP hD hS (c_X3_takeRun hX) (cwV 1 hts gL_act_X3_takeRun rfl rfl rfl (by decide +kernel) ⟨Nat.le_of_ble_eq_true rfl, Nat.le_of_ble_eq_true rfl⟩) rfl rfl rfl hl.1 rfl (Nat.le_of_ble_eq_true rfl) ⟨Nat.zero_le _, Nat.zero_le _⟩ dL_act_124 (fun r124 u3 H locs hw124 hP hD hS => ?_)
        try dsimp only at hw124 hP hD
        obtain rfl : r124 = ((trA now (nI (1 + j120))).1) := hw124.1
        have hq3 := hw124.2
        have hq4 : K3 (trA now (nI (1 + j120))).2 := K3_tr hK3
        exact RETN _ _ ((trA now (nI (1 + j120))).1) (u3.1, u3.2, (trA now (nI (1 + j120))).1, (trA now (nI (1 + j120))).2) _ _ dL_act_127 rfl (⟨rfl, hq4, hq3⟩) hP hD hS
      · skip
        refine lv_tableIn (off := 72) (tgt := 113) hx hb dL_act_41 (by decide) (by decide) rfl (by decide) ?_
        refine lv_aload_n hx hb dL_act_113 rfl (lv_at hl 2 rfl) ?_
        refine lv_iconst (v := (nI 1)) hx hb dL_act_114 (by decide) ?_
        refine lv_iload_n hx hb dL_act_115 rfl (lv_at hl 3 rfl) ?_
        refine lv_iconst (v := (nI 4)) hx hb dL_act_116 (by decide) ?_
        refine lv_ishr hx hb dL_act_117 ?_
        refine lv_bipush (v := (nI 64)) hx hb dL_act_118 (by decide) ?_
        refine cl_S0 (As := [.int (q9 >>> ((nI 4) &&& 31)), .int (nI 64)]) (rest := [.int (nI 1), .ref x0]) F hK hA hP hD hS (c_L_up (by decide) (by decide)) (va_cwS 2 hts gL_act_L_up rfl rfl rfl (by decide +kernel) ⟨Nat.le_of_ble_eq_true rfl, Nat.le_of_ble_eq_true rfl⟩) rfl hl.1 rfl (Nat.le_of_ble_eq_true rfl) ⟨Nat.zero_le _, Nat.zero_le _⟩ dL_act_120 (fun r120 H locs hw120 hP hS => ?_)
        try dsimp only at hw120
        obtain ⟨j120, hj_j120, rfl⟩ := hw120
        refine lv_iadd hx hb dL_act_123 ?_
        refine n_as (x' := nI (1 + j120)) (nI_add _ _) ?_
        refine cl_VA (b := x0) (As := [.int (nI (1 + j120))]) (rest := []) F hK hA hP hD hS (c_X3_takeRun hX) (cwV 1 hts gL_act_X3_takeRun rfl rfl rfl (by decide +kernel) ⟨Nat.le_of_ble_eq_true rfl, Nat.le_of_ble_eq_true rfl⟩) rfl rfl rfl hl.1 rfl (Nat.le_of_ble_eq_true rfl) ⟨Nat.zero_le _, Nat.zero_le _⟩ dL_act_124 (fun r124 u3 H locs hw124 hP hD hS => ?_)
        try dsimp only at hw124 hP hD
        obtain rfl : r124 = ((trA now (nI (1 + j120))).1) := hw124.1
        have hq3 := hw124.2
        have hq4 : K3 (trA now (nI (1 + j120))).2 := K3_tr hK3
        exact RETN _ _ ((trA now (nI (1 + j120))).1) (u3.1, u3.2, (trA now (nI (1 + j120))).1, (trA now (nI (1 + j120))).2) _ _ dL_act_127 rfl (⟨rfl, hq4, hq3⟩) hP hD hS
      · skip
        refine lv_tableIn (off := 87) (tgt := 128) hx hb dL_act_41 (by decide) (by decide) rfl (by decide) ?_
        refine lv_aload_n hx hb dL_act_128 rfl (lv_at hl 2 rfl) ?_
        refine lv_iload_n hx hb dL_act_129 rfl (lv_at hl 1 rfl) ?_
        refine lv_iload hx hb dL_act_130 (lv_at hl 0 rfl) ?_
        refine lv_sipush (v := (nI 320)) hx hb dL_act_132 (by decide) ?_
        refine lv_icmp_ge (tgt := 143) hx hb dL_act_135 (by decide) (fun c135 => ?_) (fun c135 => ?_)
        · skip
          replace c135 : 320 ≤ (j4 + j29) := by rw [nI_leI (by omega) (by omega)] at c135; exact c135
          refine lv_sipush (v := (nI 319)) hx hb dL_act_143 (by decide) ?_
          refine cl_VA (b := x0) (As := [.int (nI j4), .int (nI 319)]) (rest := []) F hK hA hP hD hS (c_X3_giveBack hX) (cwV 2 hts gL_act_X3_giveBack rfl rfl rfl (by decide +kernel) ⟨Nat.le_of_ble_eq_true rfl, Nat.le_of_ble_eq_true rfl⟩) rfl rfl rfl hl.1 rfl (Nat.le_of_ble_eq_true rfl) ⟨Nat.zero_le _, Nat.zero_le _⟩ dL_act_146 (fun r146 u3 H locs hw146 hP hD hS => ?_)
          try dsimp only at hw146 hP hD
          obtain rfl : r146 = ((gbA now (nI j4) (nI 319)).1) := hw146.1
          have hq3 := hw146.2
          have hq4 : K3 (gbA now (nI j4) (nI 319)).2 := K3_gb hK3
          exact RETN _ _ ((gbA now (nI j4) (nI 319)).1) (u3.1, u3.2, (gbA now (nI j4) (nI 319)).1, (gbA now (nI j4) (nI 319)).2) _ _ dL_act_149 rfl (⟨rfl, hq4, hq3⟩) hP hD hS
        · skip
          replace c135 : ¬ (320 ≤ (j4 + j29)) := by rw [nI_leI (by omega) (by omega)] at c135; exact c135
          refine lv_iload hx hb dL_act_138 (lv_at hl 0 rfl) ?_
          refine lv_goto (tgt := 146) hx hb dL_act_140 (by decide) ?_
          refine cl_VA (b := x0) (As := [.int (nI j4), .int (nI (j4 + j29))]) (rest := []) F hK hA hP hD hS (c_X3_giveBack hX) (cwV 2 hts gL_act_X3_giveBack rfl rfl rfl (by decide +kernel) ⟨Nat.le_of_ble_eq_true rfl, Nat.le_of_ble_eq_true rfl⟩) rfl rfl rfl hl.1 rfl (Nat.le_of_ble_eq_true rfl) ⟨Nat.zero_le _, Nat.zero_le _⟩ dL_act_146 (fun r146 u3 H locs hw146 hP hD hS => ?_)
          try dsimp only at hw146 hP hD
          obtain rfl : r146 = ((gbA now (nI j4) (nI (j4 + j29))).1) := hw146.1
          have hq3 := hw146.2
          have hq4 : K3 (gbA now (nI j4) (nI (j4 + j29))).2 := K3_gb hK3
          exact RETN _ _ ((gbA now (nI j4) (nI (j4 + j29))).1) (u3.1, u3.2, (gbA now (nI j4) (nI (j4 + j29))).1, (gbA now (nI j4) (nI (j4 + j29))).2) _ _ dL_act_149 rfl (⟨rfl, hq4, hq3⟩) hP hD hS
      · skip
        refine lv_tableIn (off := 87) (tgt := 128) hx hb dL_act_41 (by decide) (by decide) rfl (by decide) ?_
        refine lv_aload_n hx hb dL_act_128 rfl (lv_at hl 2 rfl) ?_
        refine lv_iload_n hx hb dL_act_129 rfl (lv_at hl 1 rfl) ?_
        refine lv_iload hx hb dL_act_130 (lv_at hl 0 rfl) ?_
        refine lv_sipush (v := (nI 320)) hx hb dL_act_132 (by decide) ?_
        refine lv_icmp_ge (tgt := 143) hx hb dL_act_135 (by decide) (fun c135 => ?_) (fun c135 => ?_)
        · skip
          replace c135 : 320 ≤ (j4 + j29) := by rw [nI_leI (by omega) (by omega)] at c135; exact c135
          refine lv_sipush (v := (nI 319)) hx hb dL_act_143 (by decide) ?_
          refine cl_VA (b := x0) (As := [.int (nI j4), .int (nI 319)]) (rest := []) F hK hA hP hD hS (c_X3_giveBack hX) (cwV 2 hts gL_act_X3_giveBack rfl rfl rfl (by decide +kernel) ⟨Nat.le_of_ble_eq_true rfl, Nat.le_of_ble_eq_true rfl⟩) rfl rfl rfl hl.1 rfl (Nat.le_of_ble_eq_true rfl) ⟨Nat.zero_le _, Nat.zero_le _⟩ dL_act_146 (fun r146 u3 H locs hw146 hP hD hS => ?_)
          try dsimp only at hw146 hP hD
          obtain rfl : r146 = ((gbA now (nI j4) (nI 319)).1) := hw146.1
          have hq3 := hw146.2
          have hq4 : K3 (gbA now (nI j4) (nI 319)).2 := K3_gb hK3
          exact RETN _ _ ((gbA now (nI j4) (nI 319)).1) (u3.1, u3.2, (gbA now (nI j4) (nI 319)).1, (gbA now (nI j4) (nI 319)).2) _ _ dL_act_149 rfl (⟨rfl, hq4, hq3⟩) hP hD hS
        · skip
          replace c135 : ¬ (320 ≤ (j4 + j29)) := by rw [nI_leI (by omega) (by omega)] at c135; exact c135
          refine lv_iload hx hb dL_act_138 (lv_at hl 0 rfl) ?_
          refine lv_goto (tgt := 146) hx hb dL_act_140 (by decide) ?_
          refine cl_VA (b := x0) (As := [.int (nI j4), .int (nI (j4 + j29))]) (rest := []) F hK hA hP hD hS (c_X3_giveBack hX) (cwV 2 hts gL_act_X3_giveBack rfl rfl rfl (by decide +kernel) ⟨Nat.le_of_ble_eq_true rfl, Nat.le_of_ble_eq_true rfl⟩) rfl rfl rfl hl.1 rfl (Nat.le_of_ble_eq_true rfl) ⟨Nat.zero_le _, Nat.zero_le _⟩ dL_act_146 (fun r146 u3 H locs hw146 hP hD hS => ?_)
          try dsimp only at hw146 hP hD
          obtain rfl : r146 = ((gbA now (nI j4) (nI (j4 + j29))).1) := hw146.1
          have hq3 := hw146.2
          have hq4 : K3 (gbA now (nI j4) (nI (j4 + j29))).2 := K3_gb hK3
          exact RETN _ _ ((gbA now (nI j4) (nI (j4 + j29))).1) (u3.1, u3.2, (gbA now (nI j4) (nI (j4 + j29))).1, (gbA now (nI j4) (nI (j4 + j29))).2) _ _ dL_act_149 rfl (⟨rfl, hq4, hq3⟩) hP hD hS
      · skip
        refine lv_tableIn (off := 109) (tgt := 150) hx hb dL_act_41 (by decide) (by decide) rfl (by decide) ?_
        refine lv_aload_n hx hb dL_act_150 rfl (lv_at hl 2 rfl) ?_
        refine lv_iconst (v := (nI 1)) hx hb dL_act_151 (by decide) ?_
        refine lv_iload_n hx hb dL_act_152 rfl (lv_at hl 3 rfl) ?_
        refine lv_iconst (v := (nI 4)) hx hb dL_act_153 (by decide) ?_
        refine lv_ishr hx hb dL_act_154 ?_
        refine lv_bipush (v := (nI 10)) hx hb dL_act_155 (by decide) ?_
        refine cl_S0 (As := [.int (q9 >>> ((nI 4) &&& 31)), .int (nI 10)]) (rest := [.int (nI 1), .ref x0]) F hK hA hP hD hS (c_L_up (by decide) (by decide)) (va_cwS 2 hts gL_act_L_up rfl rfl rfl (by decide +kernel) ⟨Nat.le_of_ble_eq_true rfl, Nat.le_of_ble_eq_true rfl⟩) rfl hl.1 rfl (Nat.le_of_ble_eq_true rfl) ⟨Nat.zero_le _, Nat.zero_le _⟩ dL_act_157 (fun r157 H locs hw157 hP hS => ?_)
        try dsimp only at hw157
        obtain ⟨j157, hj_j157, rfl⟩ := hw157
        refine lv_iadd hx hb dL_act_160 ?_
        refine n_as (x' := nI (1 + j157)) (nI_add _ _) ?_
        refine cl_VA (b := x0) (As := [.int (nI (1 + j157))]) (rest := []) F hK hA hP hD hS (c_X3_clear hX) (cwV 1 hts gL_act_X3_clear rfl rfl rfl (by decide +kernel) ⟨Nat.le_of_ble_eq_true rfl, Nat.le_of_ble_eq_true rfl⟩) rfl rfl rfl hl.1 rfl (Nat.le_of_ble_eq_true rfl) ⟨Nat.zero_le _, Nat.zero_le _⟩ dL_act_161 (fun r161 u3 H locs hw161 hP hD hS => ?_)
        try dsimp only at hw161 hP hD
        obtain rfl : r161 = ((clA now (nI (1 + j157))).1) := hw161.1
        have hq3 := hw161.2
        have hq4 : K3 (clA now (nI (1 + j157))).2 := K3_cl hK3
        exact RETN _ _ ((clA now (nI (1 + j157))).1) (u3.1, u3.2, (clA now (nI (1 + j157))).1, (clA now (nI (1 + j157))).2) _ _ dL_act_164 rfl (⟨rfl, hq4, hq3⟩) hP hD hS
      · skip
        refine lv_tableIn (off := 124) (tgt := 165) hx hb dL_act_41 (by decide) (by decide) rfl (by decide) ?_
        refine lv_aload_n hx hb dL_act_165 rfl (lv_at hl 2 rfl) ?_
        refine lv_iconst (v := (nI 4)) hx hb dL_act_166 (by decide) ?_
        refine lv_iload_n hx hb dL_act_167 rfl (lv_at hl 3 rfl) ?_
        refine lv_iconst (v := (nI 4)) hx hb dL_act_168 (by decide) ?_
        refine lv_ishr hx hb dL_act_169 ?_
        refine lv_iconst (v := (nI 4)) hx hb dL_act_170 (by decide) ?_
        refine cl_S0 (As := [.int (q9 >>> ((nI 4) &&& 31)), .int (nI 4)]) (rest := [.int (nI 4), .ref x0]) F hK hA hP hD hS (c_L_up (by decide) (by decide)) (va_cwS 2 hts gL_act_L_up rfl rfl rfl (by decide +kernel) ⟨Nat.le_of_ble_eq_true rfl, Nat.le_of_ble_eq_true rfl⟩) rfl hl.1 rfl (Nat.le_of_ble_eq_true rfl) ⟨Nat.zero_le _, Nat.zero_le _⟩ dL_act_171 (fun r171 H locs hw171 hP hS => ?_)
        try dsimp only at hw171
        obtain ⟨j171, hj_j171, rfl⟩ := hw171
        refine lv_ishl hx hb dL_act_174 ?_
        refine cl_VA (b := x0) (As := [.int ((nI 4) <<< ((nI j171) &&& 31))]) (rest := []) F hK hA hP hD hS (c_X3_reserve hX) (cwV 1 hts gL_act_X3_reserve rfl rfl rfl (by decide +kernel) ⟨Nat.le_of_ble_eq_true rfl, Nat.le_of_ble_eq_true rfl⟩) rfl rfl rfl hl.1 rfl (Nat.le_of_ble_eq_true rfl) ⟨Nat.zero_le _, Nat.zero_le _⟩ dL_act_175 (fun r175 u3 H locs hw175 hP hD hS => ?_)
        try dsimp only at hw175 hP hD
        obtain rfl : r175 = ((rsA now ((nI 4) <<< ((nI j171) &&& 31))).1) := hw175.1
        have hq3 := hw175.2
        have hq4 : K3 (rsA now ((nI 4) <<< ((nI j171) &&& 31))).2 := K3_rs hK3
        exact RETN _ _ ((rsA now ((nI 4) <<< ((nI j171) &&& 31))).1) (u3.1, u3.2, (rsA now ((nI 4) <<< ((nI j171) &&& 31))).1, (rsA now ((nI 4) <<< ((nI j171) &&& 31))).2) _ _ dL_act_178 rfl (⟨rfl, hq4, hq3⟩) hP hD hS
      · skip
        refine lv_tableIn (off := 124) (tgt := 165) hx hb dL_act_41 (by decide) (by decide) rfl (by decide) ?_
        refine lv_aload_n hx hb dL_act_165 rfl (lv_at hl 2 rfl) ?_
        refine lv_iconst (v := (nI 4)) hx hb dL_act_166 (by decide) ?_
        refine lv_iload_n hx hb dL_act_167 rfl (lv_at hl 3 rfl) ?_
        refine lv_iconst (v := (nI 4)) hx hb dL_act_168 (by decide) ?_
        refine lv_ishr hx hb dL_act_169 ?_
        refine lv_iconst (v := (nI 4)) hx hb dL_act_170 (by decide) ?_
        refine cl_S0 (As := [.int (q9 >>> ((nI 4) &&& 31)), .int (nI 4)]) (rest := [.int (nI 4), .ref x0]) F hK hA hP hD hS (c_L_up (by decide) (by decide)) (va_cwS 2 hts gL_act_L_up rfl rfl rfl (by decide +kernel) ⟨Nat.le_of_ble_eq_true rfl, Nat.le_of_ble_eq_true rfl⟩) rfl hl.1 rfl (Nat.le_of_ble_eq_true rfl) ⟨Nat.zero_le _, Nat.zero_le _⟩ dL_act_171 (fun r171 H locs hw171 hP hS => ?_)
        try dsimp only at hw171
        obtain ⟨j171, hj_j171, rfl⟩ := hw171
        refine lv_ishl hx hb dL_act_174 ?_
        refine cl_VA (b := x0) (As := [.int ((nI 4) <<< ((nI j171) &&& 31))]) (rest := []) F hK hA hP hD hS (c_X3_reserve hX) (cwV 1 hts gL_act_X3_reserve rfl rfl rfl (by decide +kernel) ⟨Nat.le_of_ble_eq_true rfl, Nat.le_of_ble_eq_true rfl⟩) rfl rfl rfl hl.1 rfl (Nat.le_of_ble_eq_true rfl) ⟨Nat.zero_le _, Nat.zero_le _⟩ dL_act_175 (fun r175 u3 H locs hw175 hP hD hS => ?_)
        try dsimp only at hw175 hP hD
        obtain rfl : r175 = ((rsA now ((nI 4) <<< ((nI j171) &&& 31))).1) := hw175.1
        have hq3 := hw175.2
        have hq4 : K3 (rsA now ((nI 4) <<< ((nI j171) &&& 31))).2 := K3_rs hK3
        exact RETN _ _ ((rsA now ((nI 4) <<< ((nI j171) &&& 31))).1) (u3.1, u3.2, (rsA now ((nI 4) <<< ((nI j171) &&& 31))).1, (rsA now ((nI 4) <<< ((nI j171) &&& 31))).2) _ _ dL_act_178 rfl (⟨rfl, hq4, hq3⟩) hP hD hS
      · skip
        refine lv_tableIn (off := 138) (tgt := 179) hx hb dL_act_41 (by decide) (by decide) rfl (by decide) ?_
        refine lv_aload_n hx hb dL_act_179 rfl (lv_at hl 2 rfl) ?_
        refine lv_iload_n hx hb dL_act_180 rfl (lv_at hl 3 rfl) ?_
        refine lv_iconst (v := (nI 4)) hx hb dL_act_181 (by decide) ?_
        refine lv_ishr hx hb dL_act_182 ?_
        refine lv_bipush (v := (nI 8)) hx hb dL_act_183 (by decide) ?_
        refine cl_S0 (As := [.int (q9 >>> ((nI 4) &&& 31)), .int (nI 8)]) (rest := [.ref x0]) F hK hA hP hD hS (c_L_up (by decide) (by decide)) (va_cwS 2 hts gL_act_L_up rfl rfl rfl (by decide +kernel) ⟨Nat.le_of_ble_eq_true rfl, Nat.le_of_ble_eq_true rfl⟩) rfl hl.1 rfl (Nat.le_of_ble_eq_true rfl) ⟨Nat.zero_le _, Nat.zero_le _⟩ dL_act_185 (fun r185 H locs hw185 hP hS => ?_)
        try dsimp only at hw185
        obtain ⟨j185, hj_j185, rfl⟩ := hw185
        refine cl_VA (b := x0) (As := [.int (nI j185)]) (rest := []) F hK hA hP hD hS (c_X3_takeIn hX) (cwV 1 hts gL_act_X3_takeIn rfl rfl rfl (by decide +kernel) ⟨Nat.le_of_ble_eq_true rfl, Nat.le_of_ble_eq_true rfl⟩) rfl rfl rfl hl.1 rfl (Nat.le_of_ble_eq_true rfl) ⟨Nat.zero_le _, Nat.zero_le _⟩ dL_act_188 (fun r188 u3 H locs hw188 hP hD hS => ?_)
        try dsimp only at hw188 hP hD
        obtain rfl : r188 = ((tiA now (nI j185)).1) := hw188.1
        have hq3 := hw188.2
        have hq4 : K3 (tiA now (nI j185)).2 := K3_ti hI hK3
        exact RETN _ _ ((tiA now (nI j185)).1) (u3.1, u3.2, (tiA now (nI j185)).1, (tiA now (nI j185)).2) _ _ dL_act_191 rfl (⟨rfl, hq4, hq3⟩) hP hD hS
      · skip
        refine lv_tableIn (off := 151) (tgt := 192) hx hb dL_act_41 (by decide) (by decide) rfl (by decide) ?_
        refine lv_aload_n hx hb dL_act_192 rfl (lv_at hl 2 rfl) ?_
        refine lv_iload_n hx hb dL_act_193 rfl (lv_at hl 3 rfl) ?_
        refine lv_iconst (v := (nI 4)) hx hb dL_act_194 (by decide) ?_
        refine lv_ishr hx hb dL_act_195 ?_
        refine lv_bipush (v := (nI 8)) hx hb dL_act_196 (by decide) ?_
        refine cl_S0 (As := [.int (q9 >>> ((nI 4) &&& 31)), .int (nI 8)]) (rest := [.ref x0]) F hK hA hP hD hS (c_L_up (by decide) (by decide)) (va_cwS 2 hts gL_act_L_up rfl rfl rfl (by decide +kernel) ⟨Nat.le_of_ble_eq_true rfl, Nat.le_of_ble_eq_true rfl⟩) rfl hl.1 rfl (Nat.le_of_ble_eq_true rfl) ⟨Nat.zero_le _, Nat.zero_le _⟩ dL_act_198 (fun r198 H locs hw198 hP hS => ?_)
        try dsimp only at hw198
        obtain ⟨j198, hj_j198, rfl⟩ := hw198
        refine cl_VA (b := x0) (As := [.int (nI j198)]) (rest := []) F hK hA hP hD hS (c_X3_giveUp hX) (cwV 1 hts gL_act_X3_giveUp rfl rfl rfl (by decide +kernel) ⟨Nat.le_of_ble_eq_true rfl, Nat.le_of_ble_eq_true rfl⟩) rfl rfl rfl hl.1 rfl (Nat.le_of_ble_eq_true rfl) ⟨Nat.zero_le _, Nat.zero_le _⟩ dL_act_201 (fun r201 u3 H locs hw201 hP hD hS => ?_)
        try dsimp only at hw201 hP hD
        obtain rfl : r201 = ((guA now (nI j198)).1) := hw201.1
        have hq3 := hw201.2
        have hq4 : K3 (guA now (nI j198)).2 := K3_gu hI hK3
        exact RETN _ _ ((guA now (nI j198)).1) (u3.1, u3.2, (guA now (nI j198)).1, (guA now (nI j198)).2) _ _ dL_act_204 rfl (⟨rfl, hq4, hq3⟩) hP hD hS
      · skip
        refine lv_tableIn (off := 164) (tgt := 205) hx hb dL_act_41 (by decide) (by decide) rfl (by decide) ?_
        refine lv_aload_n hx hb dL_act_205 rfl (lv_at hl 2 rfl) ?_
        refine lv_iload_n hx hb dL_act_206 rfl (lv_at hl 3 rfl) ?_
        refine lv_iconst (v := (nI 4)) hx hb dL_act_207 (by decide) ?_
        refine lv_ishr hx hb dL_act_208 ?_
        refine lv_bipush (v := (nI 10)) hx hb dL_act_209 (by decide) ?_
        refine cl_S0 (As := [.int (q9 >>> ((nI 4) &&& 31)), .int (nI 10)]) (rest := [.ref x0]) F hK hA hP hD hS (c_L_up (by decide) (by decide)) (va_cwS 2 hts gL_act_L_up rfl rfl rfl (by decide +kernel) ⟨Nat.le_of_ble_eq_true rfl, Nat.le_of_ble_eq_true rfl⟩) rfl hl.1 rfl (Nat.le_of_ble_eq_true rfl) ⟨Nat.zero_le _, Nat.zero_le _⟩ dL_act_211 (fun r211 H locs hw211 hP hS => ?_)
        try dsimp only at hw211
        obtain ⟨j211, hj_j211, rfl⟩ := hw211
        refine cl_VA (b := x0) (As := [.int (nI j211)]) (rest := []) F hK hA hP hD hS (c_X3_damage hX) (cwV 1 hts gL_act_X3_damage rfl rfl rfl (by decide +kernel) ⟨Nat.le_of_ble_eq_true rfl, Nat.le_of_ble_eq_true rfl⟩) rfl rfl rfl hl.1 rfl (Nat.le_of_ble_eq_true rfl) ⟨Nat.zero_le _, Nat.zero_le _⟩ dL_act_214 (fun r214 u3 H locs hw214 hP hD hS => ?_)
        try dsimp only at hw214 hP hD
        obtain rfl : r214 = ((dmA now (nI j211)).1) := hw214.1
        have hq3 := hw214.2
        have hq4 : K3 (dmA now (nI j211)).2 := K3_dm hK3
        exact RETN _ _ ((dmA now (nI j211)).1) (u3.1, u3.2, (dmA now (nI j211)).1, (dmA now (nI j211)).2) _ _ dL_act_217 rfl (⟨rfl, hq4, hq3⟩) hP hD hS
  · skip
    replace c19 : ((p9 >>> ((nI 20) &&& 31)) &&& (nI 1)) = nI 0 := c19
    refine lv_bipush (v := (nI 8)) hx hb dL_act_22 (by decide) ?_
    refine lv_goto (tgt := 29) hx hb dL_act_24 (by decide) ?_
    refine cl_S0 (As := [.int (p9 >>> ((nI 9) &&& 31)), .int (nI 8)]) (rest := [.int (nI j4)]) F hK hA hP hD hS (c_L_up (by decide) (by decide)) (va_cwS 2 hts gL_act_L_up rfl rfl rfl (by decide +kernel) ⟨Nat.le_of_ble_eq_true rfl, Nat.le_of_ble_eq_true rfl⟩) rfl hl.1 rfl (Nat.le_of_ble_eq_true rfl) ⟨Nat.zero_le _, Nat.zero_le _⟩ dL_act_29 (fun r29 H locs hw29 hP hS => ?_)
    try dsimp only at hw29
    obtain ⟨j29, hj_j29, rfl⟩ := hw29
    refine lv_iadd hx hb dL_act_32 ?_
    refine n_as (x' := nI (j4 + j29)) (nI_add _ _) ?_
    refine lv_istore (lv' := [(4, .int (nI (j4 + j29))), (3, .int (nI j4)), (0, .ref x0), (1, .int q9), (2, .int p9)]) hx hb dL_act_33 hl (by decide) rfl (fun ls hl => ?_)
    refine lv_iload_n hx hb dL_act_35 rfl (lv_at hl 3 rfl) ?_
    refine lv_bipush (v := (nI 14)) hx hb dL_act_36 (by decide) ?_
    refine cl_S0 (As := [.int q9, .int (nI 14)]) (rest := []) F hK hA hP hD hS (c_L_up (by decide) (by decide)) (va_cwS 2 hts gL_act_L_up rfl rfl rfl (by decide +kernel) ⟨Nat.le_of_ble_eq_true rfl, Nat.le_of_ble_eq_true rfl⟩) rfl hl.1 rfl (Nat.le_of_ble_eq_true rfl) ⟨Nat.zero_le _, Nat.zero_le _⟩ dL_act_38 (fun r38 H locs hw38 hP hS => ?_)
    try dsimp only at hw38
    obtain ⟨j38, hj_j38, rfl⟩ := hw38
    rcases (show (j38 < 0 ∨ 12 < j38) ∨ (0 ≤ j38 ∧ j38 ≤ 12) by omega) with hsw | hsw
    · skip
      refine lv_tableOut (tgt := 218) hx hb dL_act_41 (by rw [nI_toInt (by omega)]; omega) (by decide) ?_
      refine lv_iload_n hx hb dL_act_218 rfl (lv_at hl 3 rfl) ?_
      refine lv_iconst (v := (nI 4)) hx hb dL_act_219 (by decide) ?_
      refine lv_ishr hx hb dL_act_220 ?_
      refine lv_iconst (v := (nI 1)) hx hb dL_act_221 (by decide) ?_
      refine lv_iand hx hb dL_act_222 ?_
      refine lv_if_ne (tgt := 233) hx hb dL_act_223 (by decide) (fun c223 => ?_) (fun c223 => ?_)
      · skip
        replace c223 : ¬ ((q9 >>> ((nI 4) &&& 31)) &&& (nI 1)) = nI 0 := c223
        refine lv_aload_n hx hb dL_act_233 rfl (lv_at hl 2 rfl) ?_
        refine lv_iload_n hx hb dL_act_234 rfl (lv_at hl 3 rfl) ?_
        refine lv_iconst (v := (nI 5)) hx hb dL_act_235 (by decide) ?_
        refine lv_ishr hx hb dL_act_236 ?_
        refine lv_iconst (v := (nI 3)) hx hb dL_act_237 (by decide) ?_
        refine cl_S0 (As := [.int (q9 >>> ((nI 5) &&& 31)), .int (nI 3)]) (rest := [.ref x0]) F hK hA hP hD hS (c_L_up (by decide) (by decide)) (va_cwS 2 hts gL_act_L_up rfl rfl rfl (by decide +kernel) ⟨Nat.le_of_ble_eq_true rfl, Nat.le_of_ble_eq_true rfl⟩) rfl hl.1 rfl (Nat.le_of_ble_eq_true rfl) ⟨Nat.zero_le _, Nat.zero_le _⟩ dL_act_238 (fun r238 H locs hw238 hP hS => ?_)
        try dsimp only at hw238
        obtain ⟨j238, hj_j238, rfl⟩ := hw238
        refine cl_VA (b := x0) (As := [.int (nI j238)]) (rest := []) F hK hA hP hD hS (c_X3_damage hX) (cwV 1 hts gL_act_X3_damage rfl rfl rfl (by decide +kernel) ⟨Nat.le_of_ble_eq_true rfl, Nat.le_of_ble_eq_true rfl⟩) rfl rfl rfl hl.1 rfl (Nat.le_of_ble_eq_true rfl) ⟨Nat.zero_le _, Nat.zero_le _⟩ dL_act_241 (fun r241 u3 H locs hw241 hP hD hS => ?_)
        try dsimp only at hw241 hP hD
        obtain rfl : r241 = ((dmA now (nI j238)).1) := hw241.1
        have hq3 := hw241.2
        have hq4 : K3 (dmA now (nI j238)).2 := K3_dm hK3
        exact RETN _ _ ((dmA now (nI j238)).1) (u3.1, u3.2, (dmA now (nI j238)).1, (dmA now (nI j238)).2) _ _ dL_act_244 rfl (⟨rfl, hq4, hq3⟩) hP hD hS
      · skip
        replace c223 : ((q9 >>> ((nI 4) &&& 31)) &&& (nI 1)) = nI 0 := c223
        refine lv_aload_n hx hb dL_act_226 rfl (lv_at hl 2 rfl) ?_
        refine cl_VA (b := x0) (As := []) (rest := []) F hK hA hP hD hS (c_X3_repair hX) (cwV 0 hts gL_act_X3_repair rfl rfl rfl (by decide +kernel) ⟨Nat.le_of_ble_eq_true rfl, Nat.le_of_ble_eq_true rfl⟩) rfl rfl rfl hl.1 rfl (Nat.le_of_ble_eq_true rfl) ⟨Nat.zero_le _, Nat.zero_le _⟩ dL_act_227 (fun r227 u3 H locs hw227 hP hD hS => ?_)
        try dsimp only at hw227 hP hD
        obtain rfl : r227 = ((rpA now).1) := hw227.1
        have hq3 := hw227.2
        have hq4 : K3 (rpA now).2 := K3_rp hK3
        refine lv_goto (tgt := 244) hx hb dL_act_230 (by decide) ?_
        exact RETN _ _ ((rpA now).1) (u3.1, u3.2, (rpA now).1, (rpA now).2) _ _ dL_act_244 rfl (⟨rfl, hq4, hq3⟩) hP hD hS
    · skip
      rcases (show j38 = 0 ∨ j38 = 1 ∨ j38 = 2 ∨ j38 = 3 ∨ j38 = 4 ∨ j38 = 5 ∨ j38 = 6 ∨ j38 = 7 ∨ j38 = 8 ∨ j38 = 9 ∨ j38 = 10 ∨ j38 = 11 ∨ j38 = 12 by omega) with rfl | rfl | rfl | rfl | rfl | rfl | rfl | rfl | rfl | rfl | rfl | rfl | rfl
      · skip
        refine lv_tableIn (off := 67) (tgt := 108) hx hb dL_act_41 (by decide) (by decide) rfl (by decide) ?_
        refine lv_aload_n hx hb dL_act_108 rfl (lv_at hl 2 rfl) ?_
        refine cl_VA (b := x0) (As := []) (rest := []) F hK hA hP hD hS (c_X3_take hX) (cwV 0 hts gL_act_X3_take rfl rfl rfl (by decide +kernel) ⟨Nat.le_of_ble_eq_true rfl, Nat.le_of_ble_eq_true rfl⟩) rfl rfl rfl hl.1 rfl (Nat.le_of_ble_eq_true rfl) ⟨Nat.zero_le _, Nat.zero_le _⟩ dL_act_109 (fun r109 u3 H locs hw109 hP hD hS => ?_)
        try dsimp only at hw109 hP hD
        obtain rfl : r109 = ((tkA now).1) := hw109.1
        have hq3 := hw109.2
        have hq4 : K3 (tkA now).2 := K3_tk hK3
        exact RETN _ _ ((tkA now).1) (u3.1, u3.2, (tkA now).1, (tkA now).2) _ _ dL_act_112 rfl (⟨rfl, hq4, hq3⟩) hP hD hS
      · skip
        refine lv_tableIn (off := 67) (tgt := 108) hx hb dL_act_41 (by decide) (by decide) rfl (by decide) ?_
        refine lv_aload_n hx hb dL_act_108 rfl (lv_at hl 2 rfl) ?_
        refine cl_VA (b := x0) (As := []) (rest := []) F hK hA hP hD hS (c_X3_take hX) (cwV 0 hts gL_act_X3_take rfl rfl rfl (by decide +kernel) ⟨Nat.le_of_ble_eq_true rfl, Nat.le_of_ble_eq_true rfl⟩) rfl rfl rfl hl.1 rfl (Nat.le_of_ble_eq_true rfl) ⟨Nat.zero_le _, Nat.zero_le _⟩ dL_act_109 (fun r109 u3 H locs hw109 hP hD hS => ?_)
        try dsimp only at hw109 hP hD
        obtain rfl : r109 = ((tkA now).1) := hw109.1
        have hq3 := hw109.2
        have hq4 : K3 (tkA now).2 := K3_tk hK3
        exact RETN _ _ ((tkA now).1) (u3.1, u3.2, (tkA now).1, (tkA now).2) _ _ dL_act_112 rfl (⟨rfl, hq4, hq3⟩) hP hD hS
      · skip
        refine lv_tableIn (off := 72) (tgt := 113) hx hb dL_act_41 (by decide) (by decide) rfl (by decide) ?_
        refine lv_aload_n hx hb dL_act_113 rfl (lv_at hl 2 rfl) ?_
        refine lv_iconst (v := (nI 1)) hx hb dL_act_114 (by decide) ?_
        refine lv_iload_n hx hb dL_act_115 rfl (lv_at hl 3 rfl) ?_
        refine lv_iconst (v := (nI 4)) hx hb dL_act_116 (by decide) ?_
        refine lv_ishr hx hb dL_act_117 ?_
        refine lv_bipush (v := (nI 64)) hx hb dL_act_118 (by decide) ?_
        refine cl_S0 (As := [.int (q9 >>> ((nI 4) &&& 31)), .int (nI 64)]) (rest := [.int (nI 1), .ref x0]) F hK hA hP hD hS (c_L_up (by decide) (by decide)) (va_cwS 2 hts gL_act_L_up rfl rfl rfl (by decide +kernel) ⟨Nat.le_of_ble_eq_true rfl, Nat.le_of_ble_eq_true rfl⟩) rfl hl.1 rfl (Nat.le_of_ble_eq_true rfl) ⟨Nat.zero_le _, Nat.zero_le _⟩ dL_act_120 (fun r120 H locs hw120 hP hS => ?_)
        try dsimp only at hw120
        obtain ⟨j120, hj_j120, rfl⟩ := hw120
        refine lv_iadd hx hb dL_act_123 ?_
        refine n_as (x' := nI (1 + j120)) (nI_add _ _) ?_
        refine cl_VA (b := x0) (As := [.int (nI (1 + j120))]) (rest := []) F hK hA hP hD hS (c_X3_takeRun hX) (cwV 1 hts gL_act_X3_takeRun rfl rfl rfl (by decide +kernel) ⟨Nat.le_of_ble_eq_true rfl, Nat.le_of_ble_eq_true rfl⟩) rfl rfl rfl hl.1 rfl (Nat.le_of_ble_eq_true rfl) ⟨Nat.zero_le _, Nat.zero_le _⟩ dL_act_124 (fun r124 u3 H locs hw124 hP hD hS => ?_)
        try dsimp only at hw124 hP hD
        obtain rfl : r124 = ((trA now (nI (1 + j120))).1) := hw124.1
        have hq3 := hw124.2
        have hq4 : K3 (trA now (nI (1 + j120))).2 := K3_tr hK3
        exact RETN _ _ ((trA now (nI (1 + j120))).1) (u3.1, u3.2, (trA now (nI (1 + j120))).1, (trA now (nI (1 + j120))).2) _ _ dL_act_127 rfl (⟨rfl, hq4, hq3⟩) hP hD hS
      · skip
        refine lv_tableIn (off := 72) (tgt := 113) hx hb dL_act_41 (by decide) (by decide) rfl (by decide) ?_
        refine lv_aload_n hx hb dL_act_113 rfl (lv_at hl 2 rfl) ?_
        refine lv_iconst (v := (nI 1)) hx hb dL_act_114 (by decide) ?_
        refine lv_iload_n hx hb dL_act_115 rfl (lv_at hl 3 rfl) ?_
        refine lv_iconst (v := (nI 4)) hx hb dL_act_116 (by decide) ?_
        refine lv_ishr hx hb dL_act_117 ?_
        refine lv_bipush (v := (nI 64)) hx hb dL_act_118 (by decide) ?_
        refine cl_S0 (As := [.int (q9 >>> ((nI 4) &&& 31)), .int (nI 64)]) (rest := [.int (nI 1), .ref x0]) F hK hA hP hD hS (c_L_up (by decide) (by decide)) (va_cwS 2 hts gL_act_L_up rfl rfl rfl (by decide +kernel) ⟨Nat.le_of_ble_eq_true rfl, Nat.le_of_ble_eq_true rfl⟩) rfl hl.1 rfl (Nat.le_of_ble_eq_true rfl) ⟨Nat.zero_le _, Nat.zero_le _⟩ dL_act_120 (fun r120 H locs hw120 hP hS => ?_)
        try dsimp only at hw120
        obtain ⟨j120, hj_j120, rfl⟩ := hw120
        refine lv_iadd hx hb dL_act_123 ?_
        refine n_as (x' := nI (1 + j120)) (nI_add _ _) ?_
        refine cl_VA (b := x0) (As := [.int (nI (1 + j120))]) (rest := []) F hK hA hP hD hS (c_X3_takeRun hX) (cwV 1 hts gL_act_X3_takeRun rfl rfl rfl (by decide +kernel) ⟨Nat.le_of_ble_eq_true rfl, Nat.le_of_ble_eq_true rfl⟩) rfl rfl rfl hl.1 rfl (Nat.le_of_ble_eq_true rfl) ⟨Nat.zero_le _, Nat.zero_le _⟩ dL_act_124 (fun r124 u3 H locs hw124 hP hD hS => ?_)
        try dsimp only at hw124 hP hD
        obtain rfl : r124 = ((trA now (nI (1 + j120))).1) := hw124.1
        have hq3 := hw124.2
        have hq4 : K3 (trA now (nI (1 + j120))).2 := K3_tr hK3
        exact RETN _ _ ((trA now (nI (1 + j120))).1) (u3.1, u3.2, (trA now (nI (1 + j120))).1, (trA now (nI (1 + j120))).2) _ _ dL_act_127 rfl (⟨rfl, hq4, hq3⟩) hP hD hS
      · skip
        refine lv_tableIn (off := 72) (tgt := 113) hx hb dL_act_41 (by decide) (by decide) rfl (by decide) ?_
        refine lv_aload_n hx hb dL_act_113 rfl (lv_at hl 2 rfl) ?_
        refine lv_iconst (v := (nI 1)) hx hb dL_act_114 (by decide) ?_
        refine lv_iload_n hx hb dL_act_115 rfl (lv_at hl 3 rfl) ?_
        refine lv_iconst (v := (nI 4)) hx hb dL_act_116 (by decide) ?_
        refine lv_ishr hx hb dL_act_117 ?_
        refine lv_bipush (v := (nI 64)) hx hb dL_act_118 (by decide) ?_
        refine cl_S0 (As := [.int (q9 >>> ((nI 4) &&& 31)), .int (nI 64)]) (rest := [.int (nI 1), .ref x0]) F hK hA hP hD hS (c_L_up (by decide) (by decide)) (va_cwS 2 hts gL_act_L_up rfl rfl rfl (by decide +kernel) ⟨Nat.le_of_ble_eq_true rfl, Nat.le_of_ble_eq_true rfl⟩) rfl hl.1 rfl (Nat.le_of_ble_eq_true rfl) ⟨Nat.zero_le _, Nat.zero_le _⟩ dL_act_120 (fun r120 H locs hw120 hP hS => ?_)
        try dsimp only at hw120
        obtain ⟨j120, hj_j120, rfl⟩ := hw120
        refine lv_iadd hx hb dL_act_123 ?_
        refine n_as (x' := nI (1 + j120)) (nI_add _ _) ?_
        refine cl_VA (b := x0) (As := [.int (nI (1 + j120))]) (rest := []) F hK hA hP hD hS (c_X3_takeRun hX) (cwV 1 hts gL_act_X3_takeRun rfl rfl rfl (by decide +kernel) ⟨Nat.le_of_ble_eq_true rfl, Nat.le_of_ble_eq_true rfl⟩) rfl rfl rfl hl.1 rfl (Nat.le_of_ble_eq_true rfl) ⟨Nat.zero_le _, Nat.zero_le _⟩ dL_act_124 (fun r124 u3 H locs hw124 hP hD hS => ?_)
        try dsimp only at hw124 hP hD
        obtain rfl : r124 = ((trA now (nI (1 + j120))).1) := hw124.1
        have hq3 := hw124.2
        have hq4 : K3 (trA now (nI (1 + j120))).2 := K3_tr hK3
        exact RETN _ _ ((trA now (nI (1 + j120))).1) (u3.1, u3.2, (trA now (nI (1 + j120))).1, (trA now (nI (1 + j120))).2) _ _ dL_act_127 rfl (⟨rfl, hq4, hq3⟩) hP hD hS
      · skip
        refine lv_tableIn (off := 87) (tgt := 128) hx hb dL_act_41 (by decide) (by decide) rfl (by decide) ?_
        refine lv_aload_n hx hb dL_act_128 rfl (lv_at hl 2 rfl) ?_
        refine lv_iload_n hx hb dL_act_129 rfl (lv_at hl 1 rfl) ?_
        refine lv_iload hx hb dL_act_130 (lv_at hl 0 rfl) ?_
        refine lv_sipush (v := (nI 320)) hx hb dL_act_132 (by decide) ?_
        refine lv_icmp_ge (tgt := 143) hx hb dL_act_135 (by decide) (fun c135 => ?_) (fun c135 => ?_)
        · skip
          replace c135 : 320 ≤ (j4 + j29) := by rw [nI_leI (by omega) (by omega)] at c135; exact c135
          refine lv_sipush (v := (nI 319)) hx hb dL_act_143 (by decide) ?_
          refine cl_VA (b := x0) (As := [.int (nI j4), .int (nI 319)]) (rest := []) F hK hA hP hD hS (c_X3_giveBack hX) (cwV 2 hts gL_act_X3_giveBack rfl rfl rfl (by decide +kernel) ⟨Nat.le_of_ble_eq_true rfl, Nat.le_of_ble_eq_true rfl⟩) rfl rfl rfl hl.1 rfl (Nat.le_of_ble_eq_true rfl) ⟨Nat.zero_le _, Nat.zero_le _⟩ dL_act_146 (fun r146 u3 H locs hw146 hP hD hS => ?_)
          try dsimp only at hw146 hP hD
          obtain rfl : r146 = ((gbA now (nI j4) (nI 319)).1) := hw146.1
          have hq3 := hw146.2
          have hq4 : K3 (gbA now (nI j4) (nI 319)).2 := K3_gb hK3
          exact RETN _ _ ((gbA now (nI j4) (nI 319)).1) (u3.1, u3.2, (gbA now (nI j4) (nI 319)).1, (gbA now (nI j4) (nI 319)).2) _ _ dL_act_149 rfl (⟨rfl, hq4, hq3⟩) hP hD hS
        · skip
          replace c135 : ¬ (320 ≤ (j4 + j29)) := by rw [nI_leI (by omega) (by omega)] at c135; exact c135
          refine lv_iload hx hb dL_act_138 (lv_at hl 0 rfl) ?_
          refine lv_goto (tgt := 146) hx hb dL_act_140 (by decide) ?_
          refine cl_VA (b := x0) (As := [.int (nI j4), .int (nI (j4 + j29))]) (rest := []) F hK hA hP hD hS (c_X3_giveBack hX) (cwV 2 hts gL_act_X3_giveBack rfl rfl rfl (by decide +kernel) ⟨Nat.le_of_ble_eq_true rfl, Nat.le_of_ble_eq_true rfl⟩) rfl rfl rfl hl.1 rfl (Nat.le_of_ble_eq_true rfl) ⟨Nat.zero_le _, Nat.zero_le _⟩ dL_act_146 (fun r146 u3 H locs hw146 hP hD hS => ?_)
          try dsimp only at hw146 hP hD
          obtain rfl : r146 = ((gbA now (nI j4) (nI (j4 + j29))).1) := hw146.1
          have hq3 := hw146.2
          have hq4 : K3 (gbA now (nI j4) (nI (j4 + j29))).2 := K3_gb hK3
          exact RETN _ _ ((gbA now (nI j4) (nI (j4 + j29))).1) (u3.1, u3.2, (gbA now (nI j4) (nI (j4 + j29))).1, (gbA now (nI j4) (nI (j4 + j29))).2) _ _ dL_act_149 rfl (⟨rfl, hq4, hq3⟩) hP hD hS
      · skip
        refine lv_tableIn (off := 87) (tgt := 128) hx hb dL_act_41 (by decide) (by decide) rfl (by decide) ?_
        refine lv_aload_n hx hb dL_act_128 rfl (lv_at hl 2 rfl) ?_
        refine lv_iload_n hx hb dL_act_129 rfl (lv_at hl 1 rfl) ?_
        refine lv_iload hx hb dL_act_130 (lv_at hl 0 rfl) ?_
        refine lv_sipush (v := (nI 320)) hx hb dL_act_132 (by decide) ?_
        refine lv_icmp_ge (tgt := 143) hx hb dL_act_135 (by decide) (fun c135 => ?_) (fun c135 => ?_)
        · skip
          replace c135 : 320 ≤ (j4 + j29) := by rw [nI_leI (by omega) (by omega)] at c135; exact c135
          refine lv_sipush (v := (nI 319)) hx hb dL_act_143 (by decide) ?_
          refine cl_VA (b := x0) (As := [.int (nI j4), .int (nI 319)]) (rest := []) F hK hA hP hD hS (c_X3_giveBack hX) (cwV 2 hts gL_act_X3_giveBack rfl rfl rfl (by decide +kernel) ⟨Nat.le_of_ble_eq_true rfl, Nat.le_of_ble_eq_true rfl⟩) rfl rfl rfl hl.1 rfl (Nat.le_of_ble_eq_true rfl) ⟨Nat.zero_le _, Nat.zero_le _⟩ dL_act_146 (fun r146 u3 H locs hw146 hP hD hS => ?_)
          try dsimp only at hw146 hP hD
          obtain rfl : r146 = ((gbA now (nI j4) (nI 319)).1) := hw146.1
          have hq3 := hw146.2
          have hq4 : K3 (gbA now (nI j4) (nI 319)).2 := K3_gb hK3
          exact RETN _ _ ((gbA now (nI j4) (nI 319)).1) (u3.1, u3.2, (gbA now (nI j4) (nI 319)).1, (gbA now (nI j4) (nI 319)).2) _ _ dL_act_149 rfl (⟨rfl, hq4, hq3⟩) hP hD hS
        · skip
          replace c135 : ¬ (320 ≤ (j4 + j29)) := by rw [nI_leI (by omega) (by omega)] at c135; exact c135
          refine lv_iload hx hb dL_act_138 (lv_at hl 0 rfl) ?_
          refine lv_goto (tgt := 146) hx hb dL_act_140 (by decide) ?_
          refine cl_VA (b := x0) (As := [.int (nI j4), .int (nI (j4 + j29))]) (rest := []) F hK hA hP hD hS (c_X3_giveBack hX) (cwV 2 hts gL_act_X3_giveBack rfl rfl rfl (by decide +kernel) ⟨Nat.le_of_ble_eq_true rfl, Nat.le_of_ble_eq_true rfl⟩) rfl rfl rfl hl.1 rfl (Nat.le_of_ble_eq_true rfl) ⟨Nat.zero_le _, Nat.zero_le _⟩ dL_act_146 (fun r146 u3 H locs hw146 hP hD hS => ?_)
          try dsimp only at hw146 hP hD
          obtain rfl : r146 = ((gbA now (nI j4) (nI (j4 + j29))).1) := hw146.1
          have hq3 := hw146.2
          have hq4 : K3 (gbA now (nI j4) (nI (j4 + j29))).2 := K3_gb hK3
          exact RETN _ _ ((gbA now (nI j4) (nI (j4 + j29))).1) (u3.1, u3.2, (gbA now (nI j4) (nI (j4 + j29))).1, (gbA now (nI j4) (nI (j4 + j29))).2) _ _ dL_act_149 rfl (⟨rfl, hq4, hq3⟩) hP hD hS
      · skip
        refine lv_tableIn (off := 109) (tgt := 150) hx hb dL_act_41 (by decide) (by decide) rfl (by decide) ?_
        refine lv_aload_n hx hb dL_act_150 rfl (lv_at hl 2 rfl) ?_
        refine lv_iconst (v := (nI 1)) hx hb dL_act_151 (by decide) ?_
        refine lv_iload_n hx hb dL_act_152 rfl (lv_at hl 3 rfl) ?_
        refine lv_iconst (v := (nI 4)) hx hb dL_act_153 (by decide) ?_
        refine lv_ishr hx hb dL_act_154 ?_
        refine lv_bipush (v := (nI 10)) hx hb dL_act_155 (by decide) ?_
        refine cl_S0 (As := [.int (q9 >>> ((nI 4) &&& 31)), .int (nI 10)]) (rest := [.int (nI 1), .ref x0]) F hK hA hP hD hS (c_L_up (by decide) (by decide)) (va_cwS 2 hts gL_act_L_up rfl rfl rfl (by decide +kernel) ⟨Nat.le_of_ble_eq_true rfl, Nat.le_of_ble_eq_true rfl⟩) rfl hl.1 rfl (Nat.le_of_ble_eq_true rfl) ⟨Nat.zero_le _, Nat.zero_le _⟩ dL_act_157 (fun r157 H locs hw157 hP hS => ?_)
        try dsimp only at hw157
        obtain ⟨j157, hj_j157, rfl⟩ := hw157
        refine lv_iadd hx hb dL_act_160 ?_
        refine n_as (x' := nI (1 + j157)) (nI_add _ _) ?_
        refine cl_VA (b := x0) (As := [.int (nI (1 + j157))]) (rest := []) F hK hA hP hD hS (c_X3_clear hX) (cwV 1 hts gL_act_X3_clear rfl rfl rfl (by decide +kernel) ⟨Nat.le_of_ble_eq_true rfl, Nat.le_of_ble_eq_true rfl⟩) rfl rfl rfl hl.1 rfl (Nat.le_of_ble_eq_true rfl) ⟨Nat.zero_le _, Nat.zero_le _⟩ dL_act_161 (fun r161 u3 H locs hw161 hP hD hS => ?_)
        try dsimp only at hw161 hP hD
        obtain rfl : r161 = ((clA now (nI (1 + j157))).1) := hw161.1
        have hq3 := hw161.2
        have hq4 : K3 (clA now (nI (1 + j157))).2 := K3_cl hK3
        exact RETN _ _ ((clA now (nI (1 + j157))).1) (u3.1, u3.2, (clA now (nI (1 + j157))).1, (clA now (nI (1 + j157))).2) _ _ dL_act_164 rfl (⟨rfl, hq4, hq3⟩) hP hD hS
      · skip
        refine lv_tableIn (off := 124) (tgt := 165) hx hb dL_act_41 (by decide) (by decide) rfl (by decide) ?_
        refine lv_aload_n hx hb dL_act_165 rfl (lv_at hl 2 rfl) ?_
        refine lv_iconst (v := (nI 4)) hx hb dL_act_166 (by decide) ?_
        refine lv_iload_n hx hb dL_act_167 rfl (lv_at hl 3 rfl) ?_
        refine lv_iconst (v := (nI 4)) hx hb dL_act_168 (by decide) ?_
        refine lv_ishr hx hb dL_act_169 ?_
        refine lv_iconst (v := (nI 4)) hx hb dL_act_170 (by decide) ?_
        refine cl_S0 (As := [.int (q9 >>> ((nI 4) &&& 31)), .int (nI 4)]) (rest := [.int (nI 4), .ref x0]) F hK hA hP hD hS (c_L_up (by decide) (by decide)) (va_cwS 2 hts gL_act_L_up rfl rfl rfl (by decide +kernel) ⟨Nat.le_of_ble_eq_true rfl, Nat.le_of_ble_eq_true rfl⟩) rfl hl.1 rfl (Nat.le_of_ble_eq_true rfl) ⟨Nat.zero_le _, Nat.zero_le _⟩ dL_act_171 (fun r171 H locs hw171 hP hS => ?_)
        try dsimp only at hw171
        obtain ⟨j171, hj_j171, rfl⟩ := hw171
        refine lv_ishl hx hb dL_act_174 ?_
        refine cl_VA (b := x0) (As := [.int ((nI 4) <<< ((nI j171) &&& 31))]) (rest := []) F hK hA hP hD hS (c_X3_reserve hX) (cwV 1 hts gL_act_X3_reserve rfl rfl rfl (by decide +kernel) ⟨Nat.le_of_ble_eq_true rfl, Nat.le_of_ble_eq_true rfl⟩) rfl rfl rfl hl.1 rfl (Nat.le_of_ble_eq_true rfl) ⟨Nat.zero_le _, Nat.zero_le _⟩ dL_act_175 (fun r175 u3 H locs hw175 hP hD hS => ?_)
        try dsimp only at hw175 hP hD
        obtain rfl : r175 = ((rsA now ((nI 4) <<< ((nI j171) &&& 31))).1) := hw175.1
        have hq3 := hw175.2
        have hq4 : K3 (rsA now ((nI 4) <<< ((nI j171) &&& 31))).2 := K3_rs hK3
        exact RETN _ _ ((rsA now ((nI 4) <<< ((nI j171) &&& 31))).1) (u3.1, u3.2, (rsA now ((nI 4) <<< ((nI j171) &&& 31))).1, (rsA now ((nI 4) <<< ((nI j171) &&& 31))).2) _ _ dL_act_178 rfl (⟨rfl, hq4, hq3⟩) hP hD hS
      · skip
        refine lv_tableIn (off := 124) (tgt := 165) hx hb dL_act_41 (by decide) (by decide) rfl (by decide) ?_
        refine lv_aload_n hx hb dL_act_165 rfl (lv_at hl 2 rfl) ?_
        refine lv_iconst (v := (nI 4)) hx hb dL_act_166 (by decide) ?_
        refine lv_iload_n hx hb dL_act_167 rfl (lv_at hl 3 rfl) ?_
        refine lv_iconst (v := (nI 4)) hx hb dL_act_168 (by decide) ?_
        refine lv_ishr hx hb dL_act_169 ?_
        refine lv_iconst (v := (nI 4)) hx hb dL_act_170 (by decide) ?_
        refine cl_S0 (As := [.int (q9 >>> ((nI 4) &&& 31)), .int (nI 4)]) (rest := [.int (nI 4), .ref x0]) F hK hA hP hD hS (c_L_up (by decide) (by decide)) (va_cwS 2 hts gL_act_L_up rfl rfl rfl (by decide +kernel) ⟨Nat.le_of_ble_eq_true rfl, Nat.le_of_ble_eq_true rfl⟩) rfl hl.1 rfl (Nat.le_of_ble_eq_true rfl) ⟨Nat.zero_le _, Nat.zero_le _⟩ dL_act_171 (fun r171 H locs hw171 hP hS => ?_)
        try dsimp only at hw171
        obtain ⟨j171, hj_j171, rfl⟩ := hw171
        refine lv_ishl hx hb dL_act_174 ?_
        refine cl_VA (b := x0) (As := [.int ((nI 4) <<< ((nI j171) &&& 31))]) (rest := []) F hK hA hP hD hS (c_X3_reserve hX) (cwV 1 hts gL_act_X3_reserve rfl rfl rfl (by decide +kernel) ⟨Nat.le_of_ble_eq_true rfl, Nat.le_of_ble_eq_true rfl⟩) rfl rfl rfl hl.1 rfl (Nat.le_of_ble_eq_true rfl) ⟨Nat.zero_le _, Nat.zero_le _⟩ dL_act_175 (fun r175 u3 H locs hw175 hP hD hS => ?_)
        try dsimp only at hw175 hP hD
        obtain rfl : r175 = ((rsA now ((nI 4) <<< ((nI j171) &&& 31))).1) := hw175.1
        have hq3 := hw175.2
        have hq4 : K3 (rsA now ((nI 4) <<< ((nI j171) &&& 31))).2 := K3_rs hK3
        exact RETN _ _ ((rsA now ((nI 4) <<< ((nI j171) &&& 31))).1) (u3.1, u3.2, (rsA now ((nI 4) <<< ((nI j171) &&& 31))).1, (rsA now ((nI 4) <<< ((nI j171) &&& 31))).2) _ _ dL_act_178 rfl (⟨rfl, hq4, hq3⟩) hP hD hS
      · skip
        refine lv_tableIn (off := 138) (tgt := 179) hx hb dL_act_41 (by decide) (by decide) rfl (by decide) ?_
        refine lv_aload_n hx hb dL_act_179 rfl (lv_at hl 2 rfl) ?_
        refine lv_iload_n hx hb dL_act_180 rfl (lv_at hl 3 rfl) ?_
        refine lv_iconst (v := (nI 4)) hx hb dL_act_181 (by decide) ?_
        refine lv_ishr hx hb dL_act_182 ?_
        refine lv_bipush (v := (nI 8)) hx hb dL_act_183 (by decide) ?_
        refine cl_S0 (As := [.int (q9 >>> ((nI 4) &&& 31)), .int (nI 8)]) (rest := [.ref x0]) F hK hA hP hD hS (c_L_up (by decide) (by decide)) (va_cwS 2 hts gL_act_L_up rfl rfl rfl (by decide +kernel) ⟨Nat.le_of_ble_eq_true rfl, Nat.le_of_ble_eq_true rfl⟩) rfl hl.1 rfl (Nat.le_of_ble_eq_true rfl) ⟨Nat.zero_le _, Nat.zero_le _⟩ dL_act_185 (fun r185 H locs hw185 hP hS => ?_)
        try dsimp only at hw185
        obtain ⟨j185, hj_j185, rfl⟩ := hw185
        refine cl_VA (b := x0) (As := [.int (nI j185)]) (rest := []) F hK hA hP hD hS (c_X3_takeIn hX) (cwV 1 hts gL_act_X3_takeIn rfl rfl rfl (by decide +kernel) ⟨Nat.le_of_ble_eq_true rfl, Nat.le_of_ble_eq_true rfl⟩) rfl rfl rfl hl.1 rfl (Nat.le_of_ble_eq_true rfl) ⟨Nat.zero_le _, Nat.zero_le _⟩ dL_act_188 (fun r188 u3 H locs hw188 hP hD hS => ?_)
        try dsimp only at hw188 hP hD
        obtain rfl : r188 = ((tiA now (nI j185)).1) := hw188.1
        have hq3 := hw188.2
        have hq4 : K3 (tiA now (nI j185)).2 := K3_ti hI hK3
        exact RETN _ _ ((tiA now (nI j185)).1) (u3.1, u3.2, (tiA now (nI j185)).1, (tiA now (nI j185)).2) _ _ dL_act_191 rfl (⟨rfl, hq4, hq3⟩) hP hD hS
      · skip
        refine lv_tableIn (off := 151) (tgt := 192) hx hb dL_act_41 (by decide) (by decide) rfl (by decide) ?_
        refine lv_aload_n hx hb dL_act_192 rfl (lv_at hl 2 rfl) ?_
        refine lv_iload_n hx hb dL_act_193 rfl (lv_at hl 3 rfl) ?_
        refine lv_iconst (v := (nI 4)) hx hb dL_act_194 (by decide) ?_
        refine lv_ishr hx hb dL_act_195 ?_
        refine lv_bipush (v := (nI 8)) hx hb dL_act_196 (by decide) ?_
        refine cl_S0 (As := [.int (q9 >>> ((nI 4) &&& 31)), .int (nI 8)]) (rest := [.ref x0]) F hK hA hP hD hS (c_L_up (by decide) (by decide)) (va_cwS 2 hts gL_act_L_up rfl rfl rfl (by decide +kernel) ⟨Nat.le_of_ble_eq_true rfl, Nat.le_of_ble_eq_true rfl⟩) rfl hl.1 rfl (Nat.le_of_ble_eq_true rfl) ⟨Nat.zero_le _, Nat.zero_le _⟩ dL_act_198 (fun r198 H locs hw198 hP hS => ?_)
        try dsimp only at hw198
        obtain ⟨j198, hj_j198, rfl⟩ := hw198
        refine cl_VA (b := x0) (As := [.int (nI j198)]) (rest := []) F hK hA hP hD hS (c_X3_giveUp hX) (cwV 1 hts gL_act_X3_giveUp rfl rfl rfl (by decide +kernel) ⟨Nat.le_of_ble_eq_true rfl, Nat.le_of_ble_eq_true rfl⟩) rfl rfl rfl hl.1 rfl (Nat.le_of_ble_eq_true rfl) ⟨Nat.zero_le _, Nat.zero_le _⟩ dL_act_201 (fun r201 u3 H locs hw201 hP hD hS => ?_)
        try dsimp only at hw201 hP hD
        obtain rfl : r201 = ((guA now (nI j198)).1) := hw201.1
        have hq3 := hw201.2
        have hq4 : K3 (guA now (nI j198)).2 := K3_gu hI hK3
        exact RETN _ _ ((guA now (nI j198)).1) (u3.1, u3.2, (guA now (nI j198)).1, (guA now (nI j198)).2) _ _ dL_act_204 rfl (⟨rfl, hq4, hq3⟩) hP hD hS
      · skip
        refine lv_tableIn (off := 164) (tgt := 205) hx hb dL_act_41 (by decide) (by decide) rfl (by decide) ?_
        refine lv_aload_n hx hb dL_act_205 rfl (lv_at hl 2 rfl) ?_
        refine lv_iload_n hx hb dL_act_206 rfl (lv_at hl 3 rfl) ?_
        refine lv_iconst (v := (nI 4)) hx hb dL_act_207 (by decide) ?_
        refine lv_ishr hx hb dL_act_208 ?_
        refine lv_bipush (v := (nI 10)) hx hb dL_act_209 (by decide) ?_
        refine cl_S0 (As := [.int (q9 >>> ((nI 4) &&& 31)), .int (nI 10)]) (rest := [.ref x0]) F hK hA hP hD hS (c_L_up (by decide) (by decide)) (va_cwS 2 hts gL_act_L_up rfl rfl rfl (by decide +kernel) ⟨Nat.le_of_ble_eq_true rfl, Nat.le_of_ble_eq_true rfl⟩) rfl hl.1 rfl (Nat.le_of_ble_eq_true rfl) ⟨Nat.zero_le _, Nat.zero_le _⟩ dL_act_211 (fun r211 H locs hw211 hP hS => ?_)
        try dsimp only at hw211
        obtain ⟨j211, hj_j211, rfl⟩ := hw211
        refine cl_VA (b := x0) (As := [.int (nI j211)]) (rest := []) F hK hA hP hD hS (c_X3_damage hX) (cwV 1 hts gL_act_X3_damage rfl rfl rfl (by decide +kernel) ⟨Nat.le_of_ble_eq_true rfl, Nat.le_of_ble_eq_true rfl⟩) rfl rfl rfl hl.1 rfl (Nat.le_of_ble_eq_true rfl) ⟨Nat.zero_le _, Nat.zero_le _⟩ dL_act_214 (fun r214 u3 H locs hw214 hP hD hS => ?_)
        try dsimp only at hw214 hP hD
        obtain rfl : r214 = ((dmA now (nI j211)).1) := hw214.1
        have hq3 := hw214.2
        have hq4 : K3 (dmA now (nI j211)).2 := K3_dm hK3
        exact RETN _ _ ((dmA now (nI j211)).1) (u3.1, u3.2, (dmA now (nI j211)).1, (dmA now (nI j211)).2) _ _ dL_act_217 rfl (⟨rfl, hq4, hq3⟩) hP hD hS
