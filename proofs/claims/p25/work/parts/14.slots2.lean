/-! the class's Slots: kinds, takes, clears, runs -/
theorem inB_c1 {v lo hi : Int32} (h1 : ¬ v < lo) (h2 : v ≤ hi) : inB v lo hi = true := inB_t h1 (by rw [Int32.lt_iff_toInt_lt]; rw [Int32.le_iff_toInt_le] at h2; omega)
theorem inB_c2 {v lo hi : Int32} (h : ¬ v ≤ hi) : inB v lo hi = false := inB_f2 (by rw [Int32.lt_iff_toInt_lt]; rw [Int32.le_iff_toInt_le] at h; omega)
theorem inB_e {v lo : Int32} {b : Nat} (hb : b + 1 < 2 ^ 31) (h : nI (b + 1) ≤ v) : inB v lo (nI b) = false := inB_f2 (by rw [Int32.lt_iff_toInt_lt, nI_toInt (by omega)]; rw [Int32.le_iff_toInt_le, nI_toInt hb] at h; omega)
theorem inB_el {v lo : Int32} {b : Nat} (hb : b + 1 < 2 ^ 31) (h1 : ¬ v < lo) (h : ¬ nI (b + 1) ≤ v) : inB v lo (nI b) = true := inB_t h1 (by rw [Int32.lt_iff_toInt_lt, nI_toInt (by omega)]; rw [Int32.le_iff_toInt_le, nI_toInt hb] at h; omega)
theorem and_b1 {x : Int32} {i : Nat} (hi : i < 32) : (x &&& b1 i) = nI 0 ↔ bt x i = false := by
  constructor
  · intro h
    have h2 : bt (x &&& b1 i) i = false := by rw [h]; exact b_0 i
    rw [b_and, b1_bt hi hi] at h2
    simpa using h2
  · intro h
    refine b_ext (fun j hj => ?_)
    rw [b_and, b1_bt hi hj, show bt (nI 0) j = false from b_0 j]
    by_cases e : j = i
    · rw [e, h]; rfl
    · simp [e]
theorem rep_and {f : Nat → Int32} {V : Nat → Nat → Int32} (R : RepK f V) {k s : Nat} (hk : k < 4) (hs : s < 320) : (V k (s / 32) &&& b1 (s % 32)) = nI 0 ↔ ¬ f s = nI k := by
  rw [and_b1 (by omega), R k (s / 32) (s % 32) hk (by omega) (by omega), show 32 * (s / 32) + s % 32 = s by omega, decide_eq_false_iff_not]
/-- the kinds are four -/
def KInv (f : Nat → Int32) : Prop := ∀ s, s < 320 → ∃ k, k < 4 ∧ f s = nI k
theorem fi_none {f : Nat → Int32} {w : Nat} (h : rt f w = nI 1) : fi f w = none := by
  refine ls1_out (fun j h1 h2 => ?_)
  have h3 : cw f w (nI 0) = 0 := by
    rw [rt_bI] at h
    by_cases e : cw f w (nI 0) = 0
    · exact e
    · rw [decide_eq_false e] at h
      exact absurd h (by decide)
  unfold cw at h3
  rw [fb_ct_zero] at h3
  have := h3 (j - 32 * w) (by omega)
  rw [show 32 * w + (j - 32 * w) = j by omega] at this
  exact this
theorem fi_some {f : Nat → Int32} {w : Nat} (h : rt f w = nI 0) : ∃ s, fi f w = some s := by
  cases e : fi f w with
  | some s => exact ⟨s, rfl⟩
  | none =>
    rw [rt_bI, cw_none e] at h
    exact absurd h (by decide)
theorem rep_look {f : Nat → Int32} {V V1 : Nat → Nat → Int32} (R : RepS f V) (h : V1 = vset V 6 (upd (V 6) 1 (V 6 1 + nI 1))) : RepS (lkP f) V1 := by
  obtain ⟨rk, ⟨rb1, rb2⟩, rl, rz⟩ := R
  have e0 : V1 6 0 = V 6 0 := by rw [h, vset_s, upd_n _ _ (by decide)]
  refine ⟨fun k w i hk hw hi => ?_, ⟨fun w hw => ?_, fun i hi => ?_⟩, ?_, ?_⟩
  · rw [h, vset_n _ _ (by omega), lkP_n _ (by omega)]
    exact rk k w i hk hw hi
  · rw [e0, lkP_n _ (by omega)]
    exact rb1 w hw
  · rw [e0]
    exact rb2 i hi
  · rw [h, vset_s, upd_s, rl]
    unfold lkP
    rw [upd_s]
  · exact RepZ_of (by rw [h, vset_n _ _ (by decide)]) (by rw [h, vset_n _ _ (by decide)]) (fun j h1 h2 => lkP_n _ (by omega)) rz
theorem rep_sum {f g : Nat → Int32} {V V1 : Nat → Nat → Int32} {x : Int32} (R : RepS f V) (h : V1 = vset V 6 (upd (V 6) 0 x)) (hg : ∀ j, (j < 640 ∨ 650 ≤ j) → g j = f j) (hx : ∀ w, w < 10 → bt x w = decide (g (640 + w) = nI 1)) (hx2 : ∀ i, 10 ≤ i → bt x i = false) : RepS g V1 := by
  obtain ⟨rk, -, rl, rz⟩ := R
  have e0 : V1 6 0 = x := by rw [h, vset_s, upd_s]
  refine ⟨fun k w i hk hw hi => ?_, ⟨fun w hw => ?_, fun i hi => ?_⟩, ?_, ?_⟩
  · rw [h, vset_n _ _ (by omega), hg _ (by omega)]
    exact rk k w i hk hw hi
  · rw [e0]
    exact hx w hw
  · rw [e0]
    exact hx2 i hi
  · rw [h, vset_s, upd_n _ _ (by decide), rl, hg _ (by omega)]
  · exact RepZ_of (by rw [h, vset_n _ _ (by decide)]) (by rw [h, vset_n _ _ (by decide)]) (fun j h1 h2 => hg _ (by omega)) rz
theorem rep_mark {f : Nat → Int32} {V V1 : Nat → Nat → Int32} {w : Nat} (R : RepS f V) (hw : w < 10) (h : V1 = vset V 6 (upd (V 6) 0 (V 6 0 ||| b1 w))) : RepS (upd f (640 + w) (nI 1)) V1 := by
  refine rep_sum R h (fun j hj => upd_n _ _ (by omega)) (fun x hx => ?_) (fun i hi => ?_)
  · rw [or_bit (by omega) (by omega)]
    by_cases e : x = w
    · rw [if_pos e, e, upd_s]; rfl
    · rw [if_neg e, upd_n _ _ (by omega)]
      exact R.2.1.1 x hx
  · by_cases h32 : i < 32
    · rw [or_bit (by omega) h32, if_neg (by omega)]
      exact R.2.1.2 i hi
    · exact b_big (by omega)
theorem mP_one {f : Nat → Int32} {w s : Nat} {x : Int32} (hs : s < 320) (hw : s / 32 = w) : bec f (mP w (b1 (s % 32))) (fun _ => x) = bc1 f s x := by
  rw [bc1_bec hs]
  refine bec_cong (fun j hj => ?_) (fun _ _ _ => rfl)
  unfold mP
  rw [b1_bt (by omega) (by omega), Bool.eq_iff_iff, Bool.and_eq_true, decide_eq_true_iff, decide_eq_true_iff, decide_eq_true_iff]
  omega
theorem rt_bits (f : Nat → Int32) (P : Nat → Bool) (v : Nat → Int32) (h : Bits f) : Bits (bec f P v) := by
  intro w hw
  rw [bec_bit hw]
  split
  · exact rt_01 _ _
  · exact h w hw
theorem Bits_bc1 {f : Nat → Int32} {s : Nat} {x : Int32} (hs : s < 320) (h : Bits f) : Bits (bc1 f s x) := by
  rw [bc1_bec hs]
  exact rt_bits _ _ _ h
theorem Bits_lk {f : Nat → Int32} (h : Bits f) : Bits (lkP f) := fun w hw => by
  rw [lkP_n _ (by omega)]
  exact h w hw
theorem Bits_mark {f : Nat → Int32} {w : Nat} (h : Bits f) : Bits (upd f (640 + w) (nI 1)) := fun x hx => by
  by_cases e : x = w
  · rw [e, upd_s]; exact Or.inr rfl
  · rw [upd_n _ _ (by omega)]; exact h x hx
theorem Bits_gt : ∀ {n w : Nat} {f : Nat → Int32}, w + n ≤ 10 → Bits f → Bits (gt n w f).2
  | 0, _, _, _, h => h
  | n + 1, w, f, hw, h => by
    rw [gt]
    by_cases c : f (640 + w) = nI 0
    · rw [if_pos c]
      cases ho : fi (lkP f) w with
      | none => exact Bits_gt (by omega) (Bits_mark (Bits_lk h))
      | some s =>
        have := fi_lt ho
        exact Bits_bc1 (by omega) (Bits_lk h)
    · rw [if_neg c]
      exact Bits_gt (by omega) h
theorem Bits_clF {f : Nat → Int32} {n : Nat} (h : Bits f) : Bits (clF f n) := rt_bits _ _ _ h
theorem Bits_tk {f : Nat → Int32} (h : Bits f) : Bits (tk f).2 := by
  have h0 : Bits (gt 10 0 f).2 := Bits_gt (by omega) h
  cases h1 : (gt 10 0 f).1 with
  | some s => rw [tk_1 h1]; exact h0
  | none =>
    by_cases h2 : 0 < clN (gt 10 0 f).2 10
    · rw [tk_2 h1 h2]; exact Bits_gt (by omega) (Bits_clF h0)
    · rw [tk_3 h1 h2]; exact Bits_clF h0
theorem sum_0 {f : Nat → Int32} {V : Nat → Nat → Int32} {w : Nat} (R : RepS f V) (hb : Bits f) (hw : w < 10) (h : bI (bt (V 6 0) w) = nI 0) : f (640 + w) = nI 0 := by
  have h1 := bI_cf h
  rw [R.2.1.1 w hw, decide_eq_false_iff_not] at h1
  exact (hb w hw).resolve_right h1
theorem sum_1 {f : Nat → Int32} {V : Nat → Nat → Int32} {w : Nat} (R : RepS f V) (hw : w < 10) (h : ¬ bI (bt (V 6 0) w) = nI 0) : f (640 + w) = nI 1 := by
  have h1 := bI_ct h
  rw [R.2.1.1 w hw, decide_eq_true_iff] at h1
  exact h1
theorem ne10 {x : Int32} (h : x = nI 1) : ¬ x = nI 0 := by rw [h]; decide
theorem cl_nolazy {f g : Nat → Int32} {n w : Nat} (hg : g = bec f (clP f n w (32 * w)) (fun _ => nI 0)) (h : cw f w (nI 2) = 0) : g = bec f (clP f n w (32 * w + 32)) (fun _ => nI 0) := by
  rw [hg]
  refine bec_cong (fun j hj => ?_) (fun _ _ _ => rfl)
  by_cases e : j / 32 = w
  · rw [clP_at e, clP_at e]
    by_cases e2 : f j = nI 2
    · have := cw_pos e e2
      omega
    · simp [e2]
  · unfold clP
    simp [e]
theorem cl_lazy {f g : Nat → Int32} {V : Nat → Nat → Int32} {n w : Nat} (hg : g = bec f (clP f n w (32 * w)) (fun _ => nI 0)) (hw : w < 10) (R : RepK g V) : bec g (mP w (V 2 w)) (fun _ => nI 0) = bec f (clP f n w (32 * w + 32)) (fun _ => nI 0) := by
  have hgj : ∀ j, j < 320 → j / 32 = w → g j = f j := fun j hj e => by
    rw [hg]
    exact bec_slot_n hj (by rw [clP_at e]; simp; omega)
  have hm : ∀ j, j < 320 → mP w (V 2 w) j = (decide (j / 32 = w) && decide (f j = nI 2)) := fun j hj => by
    unfold mP
    by_cases e : j / 32 = w
    · rw [R 2 w (j % 32) (by decide) hw (by omega), show 32 * w + j % 32 = j by omega, hgj j hj e]
    · simp [e]
  rw [hg, bec_bec (w := fun _ => nI 0) (fun _ _ _ => rfl) (fun _ _ _ _ => rfl)]
  refine bec_cong (fun j hj => ?_) (fun _ _ _ => rfl)
  rw [hm j hj]
  by_cases e : j / 32 = w
  · rw [clP_at e, clP_at e, decide_eq_true e]
    simp [show ¬ j < 32 * w by omega, show j < 32 * w + 32 by omega]
  · rw [decide_eq_false e]
    unfold clP
    simp [e]
theorem cl_kind {g : Nat → Int32} {V : Nat → Nat → Int32} {w : Nat} (hw : w < 10) (R : RepK g V) : ∀ i, i < 32 → bt (V 2 w) i = true → g (32 * w + i) = nI 2 := fun i hi h => by
  rw [R 2 w i (by decide) hw hi] at h
  exact of_decide_eq_true h
theorem o3_neg {o : Option Nat} (h : ∀ k, o = some k → k < 1000) : o3 o < 0 ↔ o = none := by
  cases o with
  | none => exact ⟨fun _ => rfl, fun _ => by decide⟩
  | some k =>
    have hk := h k rfl
    exact ⟨fun q => absurd q (nI_pos (by omega)), fun q => by cases q⟩
/-- sizes of blocks are not negative -/
def BZ (f : Nat → Int32) : Prop := ∀ b, b < 8 → f (650 + 2 * b + 1) = nI 0 ∨ 0 < f (650 + 2 * b + 1)
theorem mxN {a b : Nat} (ha : a < 2 ^ 31) (hb : b < 2 ^ 31) : (if nI a < nI b then nI b else nI a) = nI (if a < b then b else a) := by
  by_cases h : a < b
  · rw [if_pos (nI_lt h hb), if_pos h]
  · rw [if_neg (nI_nlt (by omega) ha), if_neg h]
set_option maxHeartbeats 4000000 in
set_option maxRecDepth 100000 in
theorem c_X2_kindOf {l : Launch} {D : va_G} {cI cG cC cR : ClassId} {a : Nat → Nat} {f : Nat → Int32} {V : Nat → Nat → Int32} {sl : Nat} (R : RepK f V) (hs : sl < 320) (hKi : KInv f) : CtI l yX2_kindOf wsX2_kindOf { frames := 1, cells := 0, slots := 0, locals := 20 } D (TY cI cG cC cR) [.ref (a 0), .int (nI sl)] (SW a cI cG V) (fun (_ : Unit) => SW a cI cG V) (fun (r : Int32) (_ : Unit) => r = f sl) := by
  refine CtI.of (cc := cX2_kindOf) (maxL := 3) (ty := .int) (by decide) rfl (Nat.le_of_ble_eq_true rfl) ?_
  intro P0 e0 s0 m0 a0 b0 t0 c0 A0 Q0 ls F hK hP hD hA RETN hl
  obtain ⟨hx, hb, hml, hown, hts⟩ := id F
  have hS : va_S A0 s0.heap s0.heap [] := va_S.rf
  have hl : lv_has ls 3 [(0, .ref (a 0)), (1, .int (nI sl))] := hl
  have lk11 := hts (.fieldLink RX2 11 "SlotMaps$Slots" "bits" "[[I") (by decide +kernel)
  have hI2 : ∀ w ∈ u_ws RX2 TX2 5, w ∈ wsX2_kindOf := by decide +kernel
  refine lv_iconst (v := (nI 0)) hx hb dX2_kindOf_0 (by decide) ?_
  refine lv_istore_n (lv' := [(2, .int (nI 0)), (0, .ref (a 0)), (1, .int (nI sl))]) hx hb dX2_kindOf_1 rfl hl (by decide) rfl (fun ls hl => ?_)
  have LP2 : ∀ (nn : Nat) (kd : Nat) (H : Heap) (locs : List Loc) (ls : Array Slot), (kd ≤ 4) → (∀ j, j < kd → ¬ f sl = nI j) → 4 - kd < nn → va_P D vwCl (SW a cI cG V) H → va_D A0 (SW a cI cG V) → va_S A0 s0.heap H locs → lv_has ls 3 [(2, .int (nI kd)), (0, .ref (a 0)), (1, .int (nI sl))] → W P0 l e0 { frames := 1, cells := 0, slots := 0, locals := 20 } s0 m0 a0 b0 t0 c0 H locs 0 0 Q0 (F0 m0 2 ls []) := by
    intro nn
    induction nn with
    | zero => intro kd H locs ls hkd hno hmu; exact absurd hmu (Nat.not_lt_zero _)
    | succ nn ih2 =>
      intro kd H locs ls hkd hno hmu2 hP hD hS hl
      refine lv_iload_n hx hb dX2_kindOf_2 rfl (lv_at hl 0 rfl) ?_
      refine lv_iconst (v := (nI 4)) hx hb dX2_kindOf_3 (by decide) ?_
      refine lv_icmp_ge (tgt := 34) hx hb dX2_kindOf_4 (by decide) (fun c4 => ?_) (fun c4 => ?_)
      · skip
        replace c4 : 4 ≤ kd := by rw [nI_leI (by omega) (by omega)] at c4; exact c4
        exfalso
        obtain ⟨k9, hk9, e9⟩ := hKi sl hs
        exact hno k9 (by omega) e9
      · skip
        replace c4 : ¬ (4 ≤ kd) := by rw [nI_leI (by omega) (by omega)] at c4; exact c4
        refine lv_aload_n hx hb dX2_kindOf_7 rfl (lv_at hl 1 rfl) ?_
        refine va_get (D := D) (ci := 2) (v := .ref (a 1)) (C := RX2) (T := TX2) (N := 5) hx hb hts hI2 hown hK.1 hP 0 rfl rfl 0 (by decide) lk11 (fun _ h9 => h9) rfl dX2_kindOf_8 ?_
        refine lv_iload_n hx hb dX2_kindOf_11 rfl (lv_at hl 0 rfl) ?_
        refine n_aald (b := a (4 + kd)) hx hb hK hP 1 1 rfl rfl (by decide) (by omega) (if_pos (by omega)) dX2_kindOf_12 ?_
        refine lv_iload_n hx hb dX2_kindOf_13 rfl (lv_at hl 2 rfl) ?_
        refine cl_N0 (As := [.int (nI sl)]) (rest := [.ref (a (4 + kd))]) F hK hA hP hD hS (c_X3_wordOf (by omega)) (⟨va_cnB 1 hts gX2_kindOf_X3_wordOf_n70 rfl rfl rfl (hK.2 (.methodLinkNest RX2 70 yX3_wordOf RX3) (by decide +kernel)) (hts (.initialized RX3) (by decide +kernel)) (by decide +kernel) ⟨Nat.le_of_ble_eq_true rfl, Nat.le_of_ble_eq_true rfl⟩, hts (.static yX3_wordOf) (by decide +kernel), trivial⟩) rfl hl.1 rfl (Nat.le_of_ble_eq_true rfl) ⟨Nat.zero_le _, Nat.zero_le _⟩ dX2_kindOf_14 (fun r_1 H locs hw_2 hP hS => ?_)
        try dsimp only at hw_2
        obtain rfl : r_1 = (nI (sl / 32)) := hw_2
        refine n_iald hx hb hK hP (4 + kd) 0 (sw_at (by omega)) rfl (by decide) (by omega) dX2_kindOf_17 ?_
        refine lv_iload_n hx hb dX2_kindOf_18 rfl (lv_at hl 2 rfl) ?_
        refine cl_N0 (As := [.int (nI sl)]) (rest := [.int (V kd (sl / 32))]) F hK hA hP hD hS (c_X3_bitOf (by omega)) (⟨va_cnB 1 hts gX2_kindOf_X3_bitOf_n54 rfl rfl rfl (hK.2 (.methodLinkNest RX2 54 yX3_bitOf RX3) (by decide +kernel)) (hts (.initialized RX3) (by decide +kernel)) (by decide +kernel) ⟨Nat.le_of_ble_eq_true rfl, Nat.le_of_ble_eq_true rfl⟩, hts (.static yX3_bitOf) (by decide +kernel), trivial⟩) rfl hl.1 rfl (Nat.le_of_ble_eq_true rfl) ⟨Nat.zero_le _, Nat.zero_le _⟩ dX2_kindOf_19 (fun r_3 H locs hw_4 hP hS => ?_)
        try dsimp only at hw_4
        obtain rfl : r_3 = (b1 (sl % 32)) := hw_4
        refine lv_iand hx hb dX2_kindOf_22 ?_
        refine lv_if_eq (tgt := 28) hx hb dX2_kindOf_23 (by decide) (fun c23 => ?_) (fun c23 => ?_)
        · skip
          replace c23 : ((V kd (sl / 32)) &&& (b1 (sl % 32))) = nI 0 := c23
          refine lv_iinc (v := (nI (kd + 1))) (lv' := [(2, .int (nI (kd + 1))), (0, .ref (a 0)), (1, .int (nI sl))]) hx hb dX2_kindOf_28 hl (k := 0) rfl (n_inc1 _) (by decide) rfl (fun ls hl => ?_)
          refine lv_goto (tgt := 2) hx hb dX2_kindOf_31 (by decide) ?_
          exact ih2 (kd + 1) _ _ _ (by omega) (fun j hj q => (Nat.lt_or_ge j kd).elim (fun h => hno j h q) (fun h => (rep_and R (by omega) hs).mp c23 (by rw [q, show j = kd by omega]))) (by omega) hP hD hS (lv_sub hl [0, 1, 2] rfl)
        · skip
          replace c23 : ¬ ((V kd (sl / 32)) &&& (b1 (sl % 32))) = nI 0 := c23
          refine lv_iload_n hx hb dX2_kindOf_26 rfl (lv_at hl 0 rfl) ?_
          exact RETN _ _ (nI kd) () _ _ dX2_kindOf_27 (rfl) (by have q := fun z => c23 ((rep_and R (by omega) hs).mpr z); exact (Decidable.not_not.mp q).symm) hP hD hS
  exact LP2 _ 0 _ _ _ (by omega) (fun j hj => absurd hj (Nat.not_lt_zero j)) (Nat.lt_succ_self _) hP hD hS (lv_sub hl [0, 1, 2] rfl)
set_option maxHeartbeats 4000000 in
set_option maxRecDepth 100000 in
theorem c_X2_isFree {l : Launch} {D : va_G} {cI cG cC cR : ClassId} {a : Nat → Nat} {f : Nat → Int32} {V : Nat → Nat → Int32} {sl : Nat} (R : RepK f V) (hs : sl < 320) : CtI l yX2_isFree wsX2_isFree { frames := 1, cells := 0, slots := 0, locals := 20 } D (TY cI cG cC cR) [.ref (a 0), .int (nI sl)] (SW a cI cG V) (fun (_ : Unit) => SW a cI cG V) (fun (r : Int32) (_ : Unit) => r = bI (fr f sl)) := by
  refine CtI.of (cc := cX2_isFree) (maxL := 2) (ty := .boolean) (by decide) rfl (Nat.le_of_ble_eq_true rfl) ?_
  intro P0 e0 s0 m0 a0 b0 t0 c0 A0 Q0 ls F hK hP hD hA RETN hl
  obtain ⟨hx, hb, hml, hown, hts⟩ := id F
  have hS : va_S A0 s0.heap s0.heap [] := va_S.rf
  have hl : lv_has ls 2 [(0, .ref (a 0)), (1, .int (nI sl))] := hl
  have lk11 := hts (.fieldLink RX2 11 "SlotMaps$Slots" "bits" "[[I") (by decide +kernel)
  have hI2 : ∀ w ∈ u_ws RX2 TX2 5, w ∈ wsX2_isFree := by decide +kernel
  refine lv_aload_n hx hb dX2_isFree_0 rfl (lv_at hl 0 rfl) ?_
  refine va_get (D := D) (ci := 2) (v := .ref (a 1)) (C := RX2) (T := TX2) (N := 5) hx hb hts hI2 hown hK.1 hP 0 rfl rfl 0 (by decide) lk11 (fun _ h9 => h9) rfl dX2_isFree_1 ?_
  refine lv_iconst (v := (nI 0)) hx hb dX2_isFree_4 (by decide) ?_
  refine n_aald (b := a 4) hx hb hK hP 1 1 rfl rfl (by decide) (by decide) rfl dX2_isFree_5 ?_
  refine lv_iload_n hx hb dX2_isFree_6 rfl (lv_at hl 1 rfl) ?_
  refine cl_N0 (As := [.int (nI sl)]) (rest := [.ref (a 4)]) F hK hA hP hD hS (c_X3_wordOf (by omega)) (⟨va_cnB 1 hts gX2_isFree_X3_wordOf_n70 rfl rfl rfl (hK.2 (.methodLinkNest RX2 70 yX3_wordOf RX3) (by decide +kernel)) (hts (.initialized RX3) (by decide +kernel)) (by decide +kernel) ⟨Nat.le_of_ble_eq_true rfl, Nat.le_of_ble_eq_true rfl⟩, hts (.static yX3_wordOf) (by decide +kernel), trivial⟩) rfl hl.1 rfl (Nat.le_of_ble_eq_true rfl) ⟨Nat.zero_le _, Nat.zero_le _⟩ dX2_isFree_7 (fun r_1 H locs hw_2 hP hS => ?_)
  try dsimp only at hw_2
  obtain rfl : r_1 = (nI (sl / 32)) := hw_2
  refine n_iald hx hb hK hP 4 0 rfl rfl (by decide) (by omega) dX2_isFree_10 ?_
  refine lv_iload_n hx hb dX2_isFree_11 rfl (lv_at hl 1 rfl) ?_
  refine cl_N0 (As := [.int (nI sl)]) (rest := [.int ((V 0) (sl / 32))]) F hK hA hP hD hS (c_X3_bitOf (by omega)) (⟨va_cnB 1 hts gX2_isFree_X3_bitOf_n54 rfl rfl rfl (hK.2 (.methodLinkNest RX2 54 yX3_bitOf RX3) (by decide +kernel)) (hts (.initialized RX3) (by decide +kernel)) (by decide +kernel) ⟨Nat.le_of_ble_eq_true rfl, Nat.le_of_ble_eq_true rfl⟩, hts (.static yX3_bitOf) (by decide +kernel), trivial⟩) rfl hl.1 rfl (Nat.le_of_ble_eq_true rfl) ⟨Nat.zero_le _, Nat.zero_le _⟩ dX2_isFree_12 (fun r_3 H locs hw_4 hP hS => ?_)
  try dsimp only at hw_4
  obtain rfl : r_3 = (b1 (sl % 32)) := hw_4
  refine lv_iand hx hb dX2_isFree_15 ?_
  refine lv_if_eq (tgt := 23) hx hb dX2_isFree_16 (by decide) (fun c16 => ?_) (fun c16 => ?_)
  · skip
    replace c16 : (((V 0) (sl / 32)) &&& (b1 (sl % 32))) = nI 0 := c16
    refine lv_iconst (v := (nI 0)) hx hb dX2_isFree_23 (by decide) ?_
    exact RETN _ _ (nI 0) () _ _ dX2_isFree_24 (rfl) (bI_f (decide_eq_false ((rep_and R (k := 0) (by decide) hs).mp c16))) hP hD hS
  · skip
    replace c16 : ¬ (((V 0) (sl / 32)) &&& (b1 (sl % 32))) = nI 0 := c16
    refine lv_iconst (v := (nI 1)) hx hb dX2_isFree_19 (by decide) ?_
    refine lv_goto (tgt := 24) hx hb dX2_isFree_20 (by decide) ?_
    exact RETN _ _ (nI 1) () _ _ dX2_isFree_24 (rfl) (bI_t (decide_eq_true (Decidable.not_not.mp (fun z => c16 ((rep_and R (k := 0) (by decide) hs).mpr z))))) hP hD hS
set_option maxHeartbeats 4000000 in
set_option maxRecDepth 100000 in
theorem c_X2_firstFree {l : Launch} {D : va_G} {cI cG cC cR : ClassId} {a : Nat → Nat} {f : Nat → Int32} {V : Nat → Nat → Int32} {w : Nat} (R : RepK f V) (hw : w < 10) : CtI l yX2_firstFree wsX2_firstFree { frames := 2, cells := 0, slots := 0, locals := 40 } D (TY cI cG cC cR) [.ref (a 0), .int (nI w)] (SW a cI cG V) (fun (_ : Unit) => SW a cI cG V) (fun (r : Int32) (_ : Unit) => r = oI (fi f w)) := by
  refine CtI.of (cc := cX2_firstFree) (maxL := 2) (ty := .int) (by decide) rfl (Nat.le_of_ble_eq_true rfl) ?_
  intro P0 e0 s0 m0 a0 b0 t0 c0 A0 Q0 ls F hK hP hD hA RETN hl
  obtain ⟨hx, hb, hml, hown, hts⟩ := id F
  have hS : va_S A0 s0.heap s0.heap [] := va_S.rf
  have hl : lv_has ls 2 [(0, .ref (a 0)), (1, .int (nI w))] := hl
  have lk11 := hts (.fieldLink RX2 11 "SlotMaps$Slots" "bits" "[[I") (by decide +kernel)
  have hI2 : ∀ w ∈ u_ws RX2 TX2 5, w ∈ wsX2_firstFree := by decide +kernel
  refine lv_aload_n hx hb dX2_firstFree_0 rfl (lv_at hl 0 rfl) ?_
  refine lv_iload_n hx hb dX2_firstFree_1 rfl (lv_at hl 1 rfl) ?_
  refine cl_Vi (b := (a 0)) (As := [.int (nI w)]) (rest := []) (wc := SW a cI cG V) (wsN := fun (_ : Unit) => SW a cI cG V) F hK hA hP hD hS (c_X2_isFull R hw) (cwV 1 hts gX2_firstFree_X2_isFull rfl rfl rfl (by decide +kernel) ⟨Nat.le_of_ble_eq_true rfl, Nat.le_of_ble_eq_true rfl⟩) [0, 1, 2, 3, 4, 5, 6, 7] [] [0, 1, 2, 3, 4, 5, 6, 7] ([]) rfl rfl (fun _ => rfl) (by decide) (by decide) 0 rfl rfl rfl hl.1 rfl (Nat.le_of_ble_eq_true rfl) ⟨Nat.zero_le _, Nat.zero_le _⟩ dX2_firstFree_2 (fun r_2 _ H locs hw_1 hP hD hS => ?_)
  try dsimp only at hw_1 hP hD
  obtain rfl : r_2 = (rt f w) := hw_1
  refine lv_if_eq (tgt := 13) hx hb dX2_firstFree_5 (by decide) (fun c5 => ?_) (fun c5 => ?_)
  · skip
    replace c5 : (rt f w) = nI 0 := c5
    obtain ⟨sl, hsl⟩ := fi_some c5
    have hsl2 := fi_lt hsl
    refine lv_iload_n hx hb dX2_firstFree_13 rfl (lv_at hl 1 rfl) ?_
    refine lv_bipush (v := (nI 32)) hx hb dX2_firstFree_14 (by decide) ?_
    refine lv_imul hx hb dX2_firstFree_16 ?_
    refine n_as (x' := nI (w * 32)) (pk_mul _ _) ?_
    refine lv_aload_n hx hb dX2_firstFree_17 rfl (lv_at hl 0 rfl) ?_
    refine va_get (D := D) (ci := 2) (v := .ref (a 1)) (C := RX2) (T := TX2) (N := 5) hx hb hts hI2 hown hK.1 hP 0 rfl rfl 0 (by decide) lk11 (fun _ h9 => h9) rfl dX2_firstFree_18 ?_
    refine lv_iconst (v := (nI 0)) hx hb dX2_firstFree_21 (by decide) ?_
    refine n_aald (b := a 4) hx hb hK hP 1 1 rfl rfl (by decide) (by decide) rfl dX2_firstFree_22 ?_
    refine lv_iload_n hx hb dX2_firstFree_23 rfl (lv_at hl 1 rfl) ?_
    refine n_iald hx hb hK hP 4 0 rfl rfl (by decide) (by omega) dX2_firstFree_24 ?_
    refine cl_N0 (As := [.int ((V 0) w)]) (rest := [.int (nI (w * 32))]) F hK hA hP hD hS (c_X3_lowestBit) (⟨va_cnB 1 hts gX2_firstFree_X3_lowestBit_n51 rfl rfl rfl (hK.2 (.methodLinkNest RX2 51 yX3_lowestBit RX3) (by decide +kernel)) (hts (.initialized RX3) (by decide +kernel)) (by decide +kernel) ⟨Nat.le_of_ble_eq_true rfl, Nat.le_of_ble_eq_true rfl⟩, hts (.static yX3_lowestBit) (by decide +kernel), trivial⟩) rfl hl.1 rfl (Nat.le_of_ble_eq_true rfl) ⟨Nat.zero_le _, Nat.zero_le _⟩ dX2_firstFree_25 (fun r_3 H locs hw_4 hP hS => ?_)
    try dsimp only at hw_4
    obtain rfl : r_3 = (nI (sl - 32 * w)) := by rw [hw_4]; exact congrArg nI (rep_low R (k := 0) (by decide) (by omega) hsl).1
    refine lv_iadd hx hb dX2_firstFree_28 ?_
    refine n_as (x' := nI ((w * 32) + (sl - 32 * w))) (nI_add _ _) ?_
    exact RETN _ _ (nI ((w * 32) + (sl - 32 * w))) () _ _ dX2_firstFree_29 (rfl) (by rw [hsl]; exact congrArg nI (by omega)) hP hD hS
  · skip
    replace c5 : ¬ (rt f w) = nI 0 := c5
    have hr1 := rt_1 c5
    refine lv_bipush (v := (-9)) hx hb dX2_firstFree_8 (by decide) ?_
    refine lv_goto (tgt := 29) hx hb dX2_firstFree_10 (by decide) ?_
    exact RETN _ _ (-9) () _ _ dX2_firstFree_29 (rfl) (by rw [fi_none hr1]; rfl) hP hD hS
set_option maxHeartbeats 4000000 in
set_option maxRecDepth 100000 in
theorem c_X2_rightSummary {l : Launch} {D : va_G} {cI cG cC cR : ClassId} {a : Nat → Nat} {f : Nat → Int32} {V : Nat → Nat → Int32} (R : RepK f V) : CtI l yX2_rightSummary wsX2_rightSummary { frames := 1, cells := 0, slots := 0, locals := 21 } D (TY cI cG cC cR) [.ref (a 0)] (SW a cI cG V) (fun (_ : Unit) => SW a cI cG V) (fun (r : Int32) (_ : Unit) => ∀ i, i < 32 → bt r i = decide (i < 10 ∧ rt f i = nI 1)) := by
  refine CtI.of (cc := cX2_rightSummary) (maxL := 3) (ty := .int) (by decide) rfl (Nat.le_of_ble_eq_true rfl) ?_
  intro P0 e0 s0 m0 a0 b0 t0 c0 A0 Q0 ls F hK hP hD hA RETN hl
  obtain ⟨hx, hb, hml, hown, hts⟩ := id F
  have hS : va_S A0 s0.heap s0.heap [] := va_S.rf
  have hl : lv_has ls 3 [(0, .ref (a 0))] := hl
  refine lv_iconst (v := (nI 0)) hx hb dX2_rightSummary_0 (by decide) ?_
  refine lv_istore_n (lv' := [(1, .int (nI 0)), (0, .ref (a 0))]) hx hb dX2_rightSummary_1 rfl hl (by decide) rfl (fun ls hl => ?_)
  refine lv_iconst (v := (nI 0)) hx hb dX2_rightSummary_2 (by decide) ?_
  refine lv_istore_n (lv' := [(2, .int (nI 0)), (1, .int (nI 0)), (0, .ref (a 0))]) hx hb dX2_rightSummary_3 rfl hl (by decide) rfl (fun ls hl => ?_)
  have LP4 : ∀ (nn : Nat) (w : Nat) (x : Int32) (H : Heap) (locs : List Loc) (ls : Array Slot), (w ≤ 10) → (∀ i, i < 32 → bt x i = decide (i < w ∧ rt f i = nI 1)) → 10 - w < nn → va_P D vwCl (SW a cI cG V) H → va_D A0 (SW a cI cG V) → va_S A0 s0.heap H locs → lv_has ls 3 [(2, .int (nI w)), (1, .int x), (0, .ref (a 0))] → W P0 l e0 { frames := 1, cells := 0, slots := 0, locals := 21 } s0 m0 a0 b0 t0 c0 H locs 0 0 Q0 (F0 m0 4 ls []) := by
    intro nn
    induction nn with
    | zero => intro w x H locs ls hw hx1 hmu; exact absurd hmu (Nat.not_lt_zero _)
    | succ nn ih4 =>
      intro w x H locs ls hw hx1 hmu4 hP hD hS hl
      refine lv_iload_n hx hb dX2_rightSummary_4 rfl (lv_at hl 0 rfl) ?_
      refine lv_bipush (v := (nI 10)) hx hb dX2_rightSummary_5 (by decide) ?_
      refine lv_icmp_ge (tgt := 30) hx hb dX2_rightSummary_7 (by decide) (fun c7 => ?_) (fun c7 => ?_)
      · skip
        replace c7 : 10 ≤ w := by rw [nI_leI (by omega) (by omega)] at c7; exact c7
        refine lv_iload_n hx hb dX2_rightSummary_30 rfl (lv_at hl 1 rfl) ?_
        exact RETN _ _ x () _ _ dX2_rightSummary_31 (rfl) (fun i hi => by rw [hx1 i hi, show w = 10 by omega]) hP hD hS
      · skip
        replace c7 : ¬ (10 ≤ w) := by rw [nI_leI (by omega) (by omega)] at c7; exact c7
        refine lv_aload_n hx hb dX2_rightSummary_10 rfl (lv_at hl 2 rfl) ?_
        refine lv_iload_n hx hb dX2_rightSummary_11 rfl (lv_at hl 0 rfl) ?_
        refine cl_Vi (b := (a 0)) (As := [.int (nI w)]) (rest := []) (wc := SW a cI cG V) (wsN := fun (_ : Unit) => SW a cI cG V) F hK hA hP hD hS (c_X2_isFull R (by omega)) (cwV 1 hts gX2_rightSummary_X2_isFull rfl rfl rfl (by decide +kernel) ⟨Nat.le_of_ble_eq_true rfl, Nat.le_of_ble_eq_true rfl⟩) [0, 1, 2, 3, 4, 5, 6, 7] [] [0, 1, 2, 3, 4, 5, 6, 7] ([]) rfl rfl (fun _ => rfl) (by decide) (by decide) 0 rfl rfl rfl hl.1 rfl (Nat.le_of_ble_eq_true rfl) ⟨Nat.zero_le _, Nat.zero_le _⟩ dX2_rightSummary_12 (fun r_2 _ H locs hw_1 hP hD hS => ?_)
        try dsimp only at hw_1 hP hD
        obtain rfl : r_2 = (rt f w) := hw_1
        refine lv_if_eq (tgt := 24) hx hb dX2_rightSummary_15 (by decide) (fun c15 => ?_) (fun c15 => ?_)
        · skip
          replace c15 : (rt f w) = nI 0 := c15
          refine lv_iinc (v := (nI (w + 1))) (lv' := [(2, .int (nI (w + 1))), (1, .int x), (0, .ref (a 0))]) hx hb dX2_rightSummary_24 hl (k := 0) rfl (n_inc1 _) (by decide) rfl (fun ls hl => ?_)
          refine lv_goto (tgt := 4) hx hb dX2_rightSummary_27 (by decide) ?_
          exact ih4 (w + 1) x _ _ _ (by omega) (fun i hi => by first | (show bt (x ||| b1 w) i = _; rw [or_bit (by omega) hi, hx1 i hi]; by_cases e : i = w; (rw [if_pos e, e, hr1]; simp); (rw [if_neg e]; exact deq ⟨fun q => ⟨by omega, q.2⟩, fun q => ⟨by have := q.1; omega, q.2⟩⟩)) | (rw [hx1 i hi]; by_cases e : i = w; (rw [e]; simp [c15]; try decide); exact deq ⟨fun q => ⟨by omega, q.2⟩, fun q => ⟨by have := q.1; omega, q.2⟩⟩)) (by omega) hP hD hS (lv_sub hl [0, 1, 2] rfl)
        · skip
          replace c15 : ¬ (rt f w) = nI 0 := c15
          have hr1 := rt_1 c15
          refine lv_iload_n hx hb dX2_rightSummary_18 rfl (lv_at hl 1 rfl) ?_
          refine lv_iconst (v := (nI 1)) hx hb dX2_rightSummary_19 (by decide) ?_
          refine lv_iload_n hx hb dX2_rightSummary_20 rfl (lv_at hl 0 rfl) ?_
          refine lv_ishl hx hb dX2_rightSummary_21 ?_
          refine lv_ior hx hb dX2_rightSummary_22 ?_
          refine lv_istore_n (lv' := [(1, .int (x ||| ((nI 1) <<< ((nI w) &&& 31)))), (2, .int (nI w)), (0, .ref (a 0))]) hx hb dX2_rightSummary_23 rfl hl (by decide) rfl (fun ls hl => ?_)
          refine lv_iinc (v := (nI (w + 1))) (lv' := [(2, .int (nI (w + 1))), (1, .int (x ||| ((nI 1) <<< ((nI w) &&& 31)))), (0, .ref (a 0))]) hx hb dX2_rightSummary_24 hl (k := 1) rfl (n_inc1 _) (by decide) rfl (fun ls hl => ?_)
          refine lv_goto (tgt := 4) hx hb dX2_rightSummary_27 (by decide) ?_
          exact ih4 (w + 1) (x ||| ((nI 1) <<< ((nI w) &&& 31))) _ _ _ (by omega) (fun i hi => by first | (show bt (x ||| b1 w) i = _; rw [or_bit (by omega) hi, hx1 i hi]; by_cases e : i = w; (rw [if_pos e, e, hr1]; simp); (rw [if_neg e]; exact deq ⟨fun q => ⟨by omega, q.2⟩, fun q => ⟨by have := q.1; omega, q.2⟩⟩)) | (rw [hx1 i hi]; by_cases e : i = w; (rw [e]; simp [c15]; try decide); exact deq ⟨fun q => ⟨by omega, q.2⟩, fun q => ⟨by have := q.1; omega, q.2⟩⟩)) (by omega) hP hD hS (lv_sub hl [0, 1, 2] rfl)
  exact LP4 _ 0 (nI 0) _ _ _ (by omega) (fun i hi => by rw [show bt (nI 0) i = false from b_0 i]; simp) (Nat.lt_succ_self _) hP hD hS (lv_sub hl [0, 1, 2] rfl)
set_option maxHeartbeats 4000000 in
set_option maxRecDepth 100000 in
theorem c_X2_takeBySummaries {l : Launch} {D : va_G} {cI cG cC cR : ClassId} {a : Nat → Nat} {f : Nat → Int32} {V : Nat → Nat → Int32} (R : RepS f V) (hbt : Bits f) : CtI l yX2_takeBySummaries wsX2_takeBySummaries { frames := 2, cells := 0, slots := 0, locals := 45 } D (TY cI cG cC cR) [.ref (a 0)] (SW a cI cG V) (fun (u : Nat → Nat → Int32) => SW a cI cG u) (fun (r : Int32) (u : Nat → Nat → Int32) => r = oI (gt 10 0 f).1 ∧ RepS (gt 10 0 f).2 u) := by
  refine CtI.of (cc := cX2_takeBySummaries) (maxL := 3) (ty := .int) (by decide) rfl (Nat.le_of_ble_eq_true rfl) ?_
  intro P0 e0 s0 m0 a0 b0 t0 c0 A0 Q0 ls F hK hP hD hA RETN hl
  obtain ⟨hx, hb, hml, hown, hts⟩ := id F
  have hS : va_S A0 s0.heap s0.heap [] := va_S.rf
  have hl : lv_has ls 3 [(0, .ref (a 0))] := hl
  have lk11 := hts (.fieldLink RX2 11 "SlotMaps$Slots" "bits" "[[I") (by decide +kernel)
  have lk23 := hts (.fieldLink RX2 23 "SlotMaps$Slots" "summary" "I") (by decide +kernel)
  have lk27 := hts (.fieldLink RX2 27 "SlotMaps$Slots" "looks" "I") (by decide +kernel)
  have hI2 : ∀ w ∈ u_ws RX2 TX2 5, w ∈ wsX2_takeBySummaries := by decide +kernel
  refine lv_iconst (v := (nI 0)) hx hb dX2_takeBySummaries_0 (by decide) ?_
  refine lv_istore_n (lv' := [(1, .int (nI 0)), (0, .ref (a 0))]) hx hb dX2_takeBySummaries_1 rfl hl (by decide) rfl (fun ls hl => ?_)
  have LP2 : ∀ (nn : Nat) (w : Nat) (g : Nat → Int32) (VV : Nat → Nat → Int32) (H : Heap) (locs : List Loc) (ls : Array Slot), (w ≤ 10) → (RepS g VV) → (Bits g) → (gt 10 0 f = gt (10 - w) w g) → 10 - w < nn → va_P D vwCl (SW a cI cG VV) H → va_D A0 (SW a cI cG VV) → va_S A0 s0.heap H locs → lv_has ls 3 [(1, .int (nI w)), (0, .ref (a 0))] → W P0 l e0 { frames := 2, cells := 0, slots := 0, locals := 45 } s0 m0 a0 b0 t0 c0 H locs 0 0 Q0 (F0 m0 2 ls []) := by
    intro nn
    induction nn with
    | zero => intro w g VV H locs ls hw R1 hbt1 hg hmu; exact absurd hmu (Nat.not_lt_zero _)
    | succ nn ih2 =>
      intro w g VV H locs ls hw R1 hbt1 hg hmu2 hP hD hS hl
      refine lv_iload_n hx hb dX2_takeBySummaries_2 rfl (lv_at hl 0 rfl) ?_
      refine lv_bipush (v := (nI 10)) hx hb dX2_takeBySummaries_3 (by decide) ?_
      refine lv_icmp_ge (tgt := 82) hx hb dX2_takeBySummaries_5 (by decide) (fun c5 => ?_) (fun c5 => ?_)
      · skip
        replace c5 : 10 ≤ w := by rw [nI_leI (by omega) (by omega)] at c5; exact c5
        refine lv_bipush (v := (-9)) hx hb dX2_takeBySummaries_82 (by decide) ?_
        exact RETN _ _ (-9) VV _ _ dX2_takeBySummaries_84 (rfl) (by rw [hg, gt_end (by omega)]; exact ⟨rfl, R1⟩) hP hD hS
      · skip
        replace c5 : ¬ (10 ≤ w) := by rw [nI_leI (by omega) (by omega)] at c5; exact c5
        refine lv_aload_n hx hb dX2_takeBySummaries_8 rfl (lv_at hl 1 rfl) ?_
        refine lv_iload_n hx hb dX2_takeBySummaries_9 rfl (lv_at hl 0 rfl) ?_
        refine cl_Vi (b := (a 0)) (As := [.int (nI w)]) (rest := []) (wc := SW a cI cG VV) (wsN := fun (_ : Unit) => SW a cI cG VV) F hK hA hP hD hS (c_X2_summaryBit (by omega)) (cwV 1 hts gX2_takeBySummaries_X2_summaryBit rfl rfl rfl (by decide +kernel) ⟨Nat.le_of_ble_eq_true rfl, Nat.le_of_ble_eq_true rfl⟩) [0, 1, 2, 3, 4, 5, 6, 7] [] [0, 1, 2, 3, 4, 5, 6, 7] ([]) rfl rfl (fun _ => rfl) (by decide) (by decide) 0 rfl rfl rfl hl.1 rfl (Nat.le_of_ble_eq_true rfl) ⟨Nat.zero_le _, Nat.zero_le _⟩ dX2_takeBySummaries_10 (fun r_2 _ H locs hw_1 hP hD hS => ?_)
        try dsimp only at hw_1 hP hD
        obtain rfl : r_2 = (bI (bt (VV 6 0) w)) := hw_1
        refine lv_if_ne (tgt := 76) hx hb dX2_takeBySummaries_13 (by decide) (fun c13 => ?_) (fun c13 => ?_)
        · skip
          replace c13 : ¬ (bI (bt (VV 6 0) w)) = nI 0 := c13
          have hb1 := ne10 (sum_1 R1 (by omega) c13)
          refine lv_iinc (v := (nI (w + 1))) (lv' := [(1, .int (nI (w + 1))), (0, .ref (a 0))]) hx hb dX2_takeBySummaries_76 hl (k := 0) rfl (n_inc1 _) (by decide) rfl (fun ls hl => ?_)
          refine lv_goto (tgt := 2) hx hb dX2_takeBySummaries_79 (by decide) ?_
          exact ih2 (w + 1) g VV _ _ _ (by omega) (by first | exact R3 | exact R1) (by first | exact Bits_mark (Bits_lk hbt1) | exact hbt1) (by rw [hg]; first | exact gt_hid (by omega) hb1 | exact gt_full (by omega) hb0 ho) (by omega) hP hD hS (lv_sub hl [0, 1] rfl)
        · skip
          replace c13 : (bI (bt (VV 6 0) w)) = nI 0 := c13
          have hb0 := sum_0 R1 hbt1 (by omega) c13
          refine lv_aload_n hx hb dX2_takeBySummaries_16 rfl (lv_at hl 1 rfl) ?_
          refine lv_dup hx hb dX2_takeBySummaries_17 rfl ?_
          refine va_get (D := D) (ci := 2) (v := .int (VV 6 1)) (C := RX2) (T := TX2) (N := 5) hx hb hts hI2 hown hK.1 hP 0 rfl rfl 4 (by decide) lk27 (fun _ h9 => h9) rfl dX2_takeBySummaries_18 ?_
          refine lv_iconst (v := (nI 1)) hx hb dX2_takeBySummaries_21 (by decide) ?_
          refine lv_iadd hx hb dX2_takeBySummaries_22 ?_
          refine va_put (D := D) (ci := 2) (v := .int ((VV 6 1) + (nI 1))) (ty := .int) (C := RX2) (T := TX2) (N := 5) hx hb hts hI2 tyX2 tyX2_ok nmX2 hown hK.1 hP hD hS 0 rfl rfl 4 (by decide) lk27 (fun _ h9 => h9) rfl (by decide +kernel) rfl rfl (Nat.le_of_ble_eq_true rfl) dX2_takeBySummaries_23 (fun H locs hP hD hS => ?_)
          have hP : va_P D vwCl (SW a cI cG (vset VV 6 (upd (VV 6) 1 ((VV 6 1) + (nI 1))))) H := hP
          have hD : va_D A0 (SW a cI cG (vset VV 6 (upd (VV 6) 1 ((VV 6 1) + (nI 1))))) := hD
          obtain ⟨V_3, hV_3⟩ : ∃ z, z = (vset VV 6 (upd (VV 6) 1 ((VV 6 1) + (nI 1)))) := ⟨_, rfl⟩
          rw [← hV_3] at hP hD
          have R2 : RepS (lkP g) V_3 := rep_look R1 hV_3
          refine lv_aload_n hx hb dX2_takeBySummaries_26 rfl (lv_at hl 1 rfl) ?_
          refine lv_iload_n hx hb dX2_takeBySummaries_27 rfl (lv_at hl 0 rfl) ?_
          refine cl_Vi (b := (a 0)) (As := [.int (nI w)]) (rest := []) (wc := SW a cI cG V_3) (wsN := fun (_ : Unit) => SW a cI cG V_3) F hK hA hP hD hS (c_X2_isFull R2.1 (by omega)) (cwV 1 hts gX2_takeBySummaries_X2_isFull rfl rfl rfl (by decide +kernel) ⟨Nat.le_of_ble_eq_true rfl, Nat.le_of_ble_eq_true rfl⟩) [0, 1, 2, 3, 4, 5, 6, 7] [] [0, 1, 2, 3, 4, 5, 6, 7] ([]) rfl rfl (fun _ => rfl) (by decide) (by decide) 0 rfl rfl rfl hl.1 rfl (Nat.le_of_ble_eq_true rfl) ⟨Nat.zero_le _, Nat.zero_le _⟩ dX2_takeBySummaries_28 (fun r_5 _ H locs hw_4 hP hD hS => ?_)
          try dsimp only at hw_4 hP hD
          obtain rfl : r_5 = (rt (lkP g) w) := hw_4
          refine lv_if_ne (tgt := 64) hx hb dX2_takeBySummaries_31 (by decide) (fun c31 => ?_) (fun c31 => ?_)
          · skip
            replace c31 : ¬ (rt (lkP g) w) = nI 0 := c31
            have ho := fi_none (rt_1 c31)
            refine lv_aload_n hx hb dX2_takeBySummaries_64 rfl (lv_at hl 1 rfl) ?_
            refine lv_dup hx hb dX2_takeBySummaries_65 rfl ?_
            refine va_get (D := D) (ci := 2) (v := .int (V_3 6 0)) (C := RX2) (T := TX2) (N := 5) hx hb hts hI2 hown hK.1 hP 0 rfl rfl 3 (by decide) lk23 (fun _ h9 => h9) rfl dX2_takeBySummaries_66 ?_
            refine lv_iconst (v := (nI 1)) hx hb dX2_takeBySummaries_69 (by decide) ?_
            refine lv_iload_n hx hb dX2_takeBySummaries_70 rfl (lv_at hl 0 rfl) ?_
            refine lv_ishl hx hb dX2_takeBySummaries_71 ?_
            refine lv_ior hx hb dX2_takeBySummaries_72 ?_
            refine va_put (D := D) (ci := 2) (v := .int ((V_3 6 0) ||| ((nI 1) <<< ((nI w) &&& 31)))) (ty := .int) (C := RX2) (T := TX2) (N := 5) hx hb hts hI2 tyX2 tyX2_ok nmX2 hown hK.1 hP hD hS 0 rfl rfl 3 (by decide) lk23 (fun _ h9 => h9) rfl (by decide +kernel) rfl rfl (Nat.le_of_ble_eq_true rfl) dX2_takeBySummaries_73 (fun H locs hP hD hS => ?_)
            have hP : va_P D vwCl (SW a cI cG (vset V_3 6 (upd (V_3 6) 0 ((V_3 6 0) ||| ((nI 1) <<< ((nI w) &&& 31)))))) H := hP
            have hD : va_D A0 (SW a cI cG (vset V_3 6 (upd (V_3 6) 0 ((V_3 6 0) ||| ((nI 1) <<< ((nI w) &&& 31)))))) := hD
            obtain ⟨V_6, hV_6⟩ : ∃ z, z = (vset V_3 6 (upd (V_3 6) 0 ((V_3 6 0) ||| ((nI 1) <<< ((nI w) &&& 31))))) := ⟨_, rfl⟩
            rw [← hV_6] at hP hD
            have R3 : RepS (upd (lkP g) (640 + w) (nI 1)) V_6 := rep_mark R2 (by omega) hV_6
            refine lv_iinc (v := (nI (w + 1))) (lv' := [(1, .int (nI (w + 1))), (0, .ref (a 0))]) hx hb dX2_takeBySummaries_76 hl (k := 0) rfl (n_inc1 _) (by decide) rfl (fun ls hl => ?_)
            refine lv_goto (tgt := 2) hx hb dX2_takeBySummaries_79 (by decide) ?_
            exact ih2 (w + 1) (upd (lkP g) (640 + w) (nI 1)) V_6 _ _ _ (by omega) (by first | exact R3 | exact R1) (by first | exact Bits_mark (Bits_lk hbt1) | exact hbt1) (by rw [hg]; first | exact gt_hid (by omega) hb1 | exact gt_full (by omega) hb0 ho) (by omega) hP hD hS (lv_sub hl [0, 1] rfl)
          · skip
            replace c31 : (rt (lkP g) w) = nI 0 := c31
            obtain ⟨sl, ho⟩ := fi_some c31
            have hsl := fi_lt ho
            refine lv_iload_n hx hb dX2_takeBySummaries_34 rfl (lv_at hl 0 rfl) ?_
            refine lv_bipush (v := (nI 32)) hx hb dX2_takeBySummaries_35 (by decide) ?_
            refine lv_imul hx hb dX2_takeBySummaries_37 ?_
            refine n_as (x' := nI (w * 32)) (pk_mul _ _) ?_
            refine lv_aload_n hx hb dX2_takeBySummaries_38 rfl (lv_at hl 1 rfl) ?_
            refine va_get (D := D) (ci := 2) (v := .ref (a 1)) (C := RX2) (T := TX2) (N := 5) hx hb hts hI2 hown hK.1 hP 0 rfl rfl 0 (by decide) lk11 (fun _ h9 => h9) rfl dX2_takeBySummaries_39 ?_
            refine lv_iconst (v := (nI 0)) hx hb dX2_takeBySummaries_42 (by decide) ?_
            refine n_aald (b := a 4) hx hb hK hP 1 1 rfl rfl (by decide) (by decide) rfl dX2_takeBySummaries_43 ?_
            refine lv_iload_n hx hb dX2_takeBySummaries_44 rfl (lv_at hl 0 rfl) ?_
            refine n_iald hx hb hK hP 4 0 rfl rfl (by decide) (by omega) dX2_takeBySummaries_45 ?_
            refine cl_N0 (As := [.int ((V_3 0) w)]) (rest := [.int (nI (w * 32))]) F hK hA hP hD hS (c_X3_lowestBit) (⟨va_cnB 1 hts gX2_takeBySummaries_X3_lowestBit_n51 rfl rfl rfl (hK.2 (.methodLinkNest RX2 51 yX3_lowestBit RX3) (by decide +kernel)) (hts (.initialized RX3) (by decide +kernel)) (by decide +kernel) ⟨Nat.le_of_ble_eq_true rfl, Nat.le_of_ble_eq_true rfl⟩, hts (.static yX3_lowestBit) (by decide +kernel), trivial⟩) rfl hl.1 rfl (Nat.le_of_ble_eq_true rfl) ⟨Nat.zero_le _, Nat.zero_le _⟩ dX2_takeBySummaries_46 (fun r_7 H locs hw_8 hP hS => ?_)
            try dsimp only at hw_8
            obtain rfl : r_7 = (nI (sl - 32 * w)) := by rw [hw_8]; exact congrArg nI (rep_low R2.1 (k := 0) (by decide) (by omega) ho).1
            refine lv_iadd hx hb dX2_takeBySummaries_49 ?_
            refine n_as (x' := (nI sl)) (by rw [nI_add]; exact congrArg nI (by omega)) ?_
            refine lv_istore_n (lv' := [(2, .int (nI sl)), (1, .int (nI w)), (0, .ref (a 0))]) hx hb dX2_takeBySummaries_50 rfl hl (by decide) rfl (fun ls hl => ?_)
            refine lv_aload_n hx hb dX2_takeBySummaries_51 rfl (lv_at hl 2 rfl) ?_
            refine lv_iload_n hx hb dX2_takeBySummaries_52 rfl (lv_at hl 1 rfl) ?_
            refine lv_iload_n hx hb dX2_takeBySummaries_53 rfl (lv_at hl 0 rfl) ?_
            refine cl_N0 (As := [.int (nI sl)]) (rest := [.int (nI w), .ref (a 0)]) F hK hA hP hD hS (c_X3_bitOf (by omega)) (⟨va_cnB 1 hts gX2_takeBySummaries_X3_bitOf_n54 rfl rfl rfl (hK.2 (.methodLinkNest RX2 54 yX3_bitOf RX3) (by decide +kernel)) (hts (.initialized RX3) (by decide +kernel)) (by decide +kernel) ⟨Nat.le_of_ble_eq_true rfl, Nat.le_of_ble_eq_true rfl⟩, hts (.static yX3_bitOf) (by decide +kernel), trivial⟩) rfl hl.1 rfl (Nat.le_of_ble_eq_true rfl) ⟨Nat.zero_le _, Nat.zero_le _⟩ dX2_takeBySummaries_54 (fun r_9 H locs hw_10 hP hS => ?_)
            try dsimp only at hw_10
            obtain rfl : r_9 = (b1 (sl % 32)) := hw_10
            refine lv_iconst (v := (nI 0)) hx hb dX2_takeBySummaries_57 (by decide) ?_
            refine lv_iconst (v := (nI 1)) hx hb dX2_takeBySummaries_58 (by decide) ?_
            refine cl_Vv (b := (a 0)) (As := [.int (nI w), .int (b1 (sl % 32)), .int (nI 0), .int (nI 1)]) (rest := []) (wc := SW a cI cG V_3) (wsN := fun (V9 : Nat → Nat → Int32) => SW a cI cG V9) F hK hA hP hD hS (c_X2_change R2 (by omega) (by decide) (by decide) (by decide) (fun i hi h => by rw [b1_bt (by omega) hi, decide_eq_true_iff] at h; rw [h, show 32 * w + sl % 32 = sl by omega]; exact hsl.2.2)) (cwV 4 hts gX2_takeBySummaries_X2_change rfl rfl rfl (by decide +kernel) ⟨Nat.le_of_ble_eq_true rfl, Nat.le_of_ble_eq_true rfl⟩) [0, 1, 2, 3, 4, 5, 6, 7] [] [0, 1, 2, 3, 4, 5, 6, 7] ([]) rfl rfl (fun _ => rfl) (by decide) (by decide) 0 rfl rfl rfl hl.1 rfl (Nat.le_of_ble_eq_true rfl) ⟨Nat.zero_le _, Nat.zero_le _⟩ dX2_takeBySummaries_59 (fun V9 H locs hw_11 hP hD hS => ?_)
            try dsimp only at hw_11 hP hD
            have R3 : RepS (bc1 (lkP g) sl (nI 1)) V9 := by rw [← mP_one (w := w) (by omega) (by omega)]; exact hw_11
            refine lv_iload_n hx hb dX2_takeBySummaries_62 rfl (lv_at hl 0 rfl) ?_
            exact RETN _ _ (nI sl) V9 _ _ dX2_takeBySummaries_63 (rfl) (by rw [hg, gt_found (by omega) hb0 ho]; exact ⟨rfl, R3⟩) hP hD hS
  exact LP2 _ 0 f V _ _ _ (by omega) (R) (hbt) (rfl) (Nat.lt_succ_self _) hP hD hS (lv_sub hl [0, 1] rfl)
set_option maxHeartbeats 4000000 in
set_option maxRecDepth 100000 in
theorem c_X2_clearWords {l : Launch} {D : va_G} {cI cG cC cR : ClassId} {a : Nat → Nat} {f : Nat → Int32} {V : Nat → Nat → Int32} {v : Int32} (R : RepS f V) : CtI l yX2_clearWords wsX2_clearWords { frames := 2, cells := 0, slots := 0, locals := 45 } D (TY cI cG cC cR) [.ref (a 0), .int v] (SW a cI cG V) (fun (u : Nat → Nat → Int32) => SW a cI cG u) (fun (r : Int32) (u : Nat → Nat → Int32) => r = (clA f v).1 ∧ RepS (clA f v).2 u) := by
  refine CtI.of (cc := cX2_clearWords) (maxL := 6) (ty := .int) (by decide) rfl (Nat.le_of_ble_eq_true rfl) ?_
  intro P0 e0 s0 m0 a0 b0 t0 c0 A0 Q0 ls F hK hP hD hA RETN hl
  obtain ⟨hx, hb, hml, hown, hts⟩ := id F
  have hS : va_S A0 s0.heap s0.heap [] := va_S.rf
  have hl : lv_has ls 6 [(0, .ref (a 0)), (1, .int v)] := hl
  have lk11 := hts (.fieldLink RX2 11 "SlotMaps$Slots" "bits" "[[I") (by decide +kernel)
  have hI2 : ∀ w ∈ u_ws RX2 TX2 5, w ∈ wsX2_clearWords := by decide +kernel
  refine lv_iload_n hx hb dX2_clearWords_0 rfl (lv_at hl 1 rfl) ?_
  refine lv_iconst (v := (nI 1)) hx hb dX2_clearWords_1 (by decide) ?_
  refine lv_icmp_lt (tgt := 11) hx hb dX2_clearWords_2 (by decide) (fun c2 => ?_) (fun c2 => ?_)
  · skip
    refine lv_iconst (v := (-1)) hx hb dX2_clearWords_11 (by decide) ?_
    exact RETN _ _ (-1) V _ _ dX2_clearWords_12 (rfl) (by first | (rw [clA_n (inB_f1 c2)]; exact ⟨rfl, R⟩) | (rw [clA_n (inB_c2 c8)]; exact ⟨rfl, R⟩)) hP hD hS
  · skip
    refine lv_iload_n hx hb dX2_clearWords_5 rfl (lv_at hl 1 rfl) ?_
    refine lv_bipush (v := (nI 10)) hx hb dX2_clearWords_6 (by decide) ?_
    refine lv_icmp_le (tgt := 13) hx hb dX2_clearWords_8 (by decide) (fun c8 => ?_) (fun c8 => ?_)
    · skip
      obtain ⟨m, hlo_m, hhi_m, rfl⟩ := inB_nat (by decide) (by decide) (inB_c1 c2 c8)
      refine lv_iconst (v := (nI 0)) hx hb dX2_clearWords_13 (by decide) ?_
      refine lv_istore_n (lv' := [(2, .int (nI 0)), (0, .ref (a 0)), (1, .int (nI m))]) hx hb dX2_clearWords_14 rfl hl (by decide) rfl (fun ls hl => ?_)
      refine lv_iconst (v := (nI 0)) hx hb dX2_clearWords_15 (by decide) ?_
      refine lv_istore_n (lv' := [(3, .int (nI 0)), (2, .int (nI 0)), (0, .ref (a 0)), (1, .int (nI m))]) hx hb dX2_clearWords_16 rfl hl (by decide) rfl (fun ls hl => ?_)
      refine lv_iconst (v := (nI 0)) hx hb dX2_clearWords_17 (by decide) ?_
      refine lv_istore (lv' := [(4, .int (nI 0)), (3, .int (nI 0)), (2, .int (nI 0)), (0, .ref (a 0)), (1, .int (nI m))]) hx hb dX2_clearWords_18 hl (by decide) rfl (fun ls hl => ?_)
      have LP20 : ∀ (nn : Nat) (w : Nat) (c : Nat) (n : Nat) (g : Nat → Int32) (VV : Nat → Nat → Int32) (H : Heap) (locs : List Loc) (ls : Array Slot), (w ≤ 10) → (c = lzc f w ∧ c ≤ m) → (n = clS f m w) → (g = bec f (clP f m w (32 * w)) (fun _ => nI 0)) → (RepS g VV) → 10 - w < nn → va_P D vwCl (SW a cI cG VV) H → va_D A0 (SW a cI cG VV) → va_S A0 s0.heap H locs → lv_has ls 6 [(4, .int (nI w)), (3, .int (nI n)), (2, .int (nI c)), (0, .ref (a 0)), (1, .int (nI m))] → W P0 l e0 { frames := 2, cells := 0, slots := 0, locals := 45 } s0 m0 a0 b0 t0 c0 H locs 0 0 Q0 (F0 m0 20 ls []) := by
        intro nn
        induction nn with
        | zero => intro w c n g VV H locs ls hw hc hn hg R1 hmu; exact absurd hmu (Nat.not_lt_zero _)
        | succ nn ih20 =>
          intro w c n g VV H locs ls hw hc hn hg R1 hmu20 hP hD hS hl
          have hcl := clS_le f m w hw
          refine lv_iload hx hb dX2_clearWords_20 (lv_at hl 0 rfl) ?_
          refine lv_bipush (v := (nI 10)) hx hb dX2_clearWords_22 (by decide) ?_
          refine lv_icmp_ge (tgt := 75) hx hb dX2_clearWords_24 (by decide) (fun c24 => ?_) (fun c24 => ?_)
          · skip
            replace c24 : 10 ≤ w := by rw [nI_leI (by omega) (by omega)] at c24; exact c24
            refine lv_iload_n hx hb dX2_clearWords_75 rfl (lv_at hl 1 rfl) ?_
            exact RETN _ _ (nI n) VV _ _ dX2_clearWords_76 (rfl) (by have hd : w = 10 ∨ m ≤ lzc f w := (by omega); rw [clA_s (by omega) (by omega), ← cl_done hg hw hd]; exact ⟨by rw [hn, clN_done hw hd], R1⟩) hP hD hS
          · skip
            replace c24 : ¬ (10 ≤ w) := by rw [nI_leI (by omega) (by omega)] at c24; exact c24
            refine lv_iload_n hx hb dX2_clearWords_27 rfl (lv_at hl 2 rfl) ?_
            refine lv_iload_n hx hb dX2_clearWords_28 rfl (lv_at hl 4 rfl) ?_
            refine lv_icmp_ge (tgt := 75) hx hb dX2_clearWords_29 (by decide) (fun c29 => ?_) (fun c29 => ?_)
            · skip
              replace c29 : m ≤ c := by rw [nI_leI (by omega) (by omega)] at c29; exact c29
              refine lv_iload_n hx hb dX2_clearWords_75 rfl (lv_at hl 1 rfl) ?_
              exact RETN _ _ (nI n) VV _ _ dX2_clearWords_76 (rfl) (by have hd : w = 10 ∨ m ≤ lzc f w := (by omega); rw [clA_s (by omega) (by omega), ← cl_done hg hw hd]; exact ⟨by rw [hn, clN_done hw hd], R1⟩) hP hD hS
            · skip
              replace c29 : ¬ (m ≤ c) := by rw [nI_leI (by omega) (by omega)] at c29; exact c29
              refine lv_aload_n hx hb dX2_clearWords_32 rfl (lv_at hl 3 rfl) ?_
              refine va_get (D := D) (ci := 2) (v := .ref (a 1)) (C := RX2) (T := TX2) (N := 5) hx hb hts hI2 hown hK.1 hP 0 rfl rfl 0 (by decide) lk11 (fun _ h9 => h9) rfl dX2_clearWords_33 ?_
              refine lv_iconst (v := (nI 2)) hx hb dX2_clearWords_36 (by decide) ?_
              refine n_aald (b := a 6) hx hb hK hP 1 1 rfl rfl (by decide) (by decide) rfl dX2_clearWords_37 ?_
              refine lv_iload hx hb dX2_clearWords_38 (lv_at hl 0 rfl) ?_
              refine n_iald hx hb hK hP 6 0 rfl rfl (by decide) (by omega) dX2_clearWords_40 ?_
              refine lv_istore (lv' := [(5, .int ((VV 2) w)), (4, .int (nI w)), (3, .int (nI n)), (2, .int (nI c)), (0, .ref (a 0)), (1, .int (nI m))]) hx hb dX2_clearWords_41 hl (by decide) rfl (fun ls hl => ?_)
              refine lv_iload hx hb dX2_clearWords_43 (lv_at hl 0 rfl) ?_
              refine lv_if_eq (tgt := 69) hx hb dX2_clearWords_45 (by decide) (fun c45 => ?_) (fun c45 => ?_)
              · skip
                replace c45 : ((VV 2) w) = nI 0 := c45
                have hz : cw f w (nI 2) = 0 := by rw [← cl_cw hg (by omega)]; exact (rep_zero R1.1 (by decide) (by omega)).mp c45
                refine lv_iinc (v := (nI (w + 1))) (lv' := [(4, .int (nI (w + 1))), (5, .int ((VV 2) w)), (3, .int (nI n)), (2, .int (nI c)), (0, .ref (a 0)), (1, .int (nI m))]) hx hb dX2_clearWords_69 hl (k := 1) rfl (n_inc1 _) (by decide) rfl (fun ls hl => ?_)
                refine lv_goto (tgt := 20) hx hb dX2_clearWords_72 (by decide) ?_
                exact ih20 (w + 1) c n (bec f (clP f m w (32 * w + 32)) (fun _ => nI 0)) VV _ _ _ (by omega) (by rw [lzc_succ]; first | (rw [if_pos (by omega)]; omega) | (rw [if_neg (by omega)]; omega)) (by rw [clS_succ (by omega)]; omega) (cl_next rfl (by omega)) (by first | exact R3 | (rw [← cl_nolazy hg hz]; exact R1)) (by omega) hP hD hS (lv_sub hl [0, 2, 3, 4, 5] rfl)
              · skip
                replace c45 : ¬ ((VV 2) w) = nI 0 := c45
                have hz : ¬ cw f w (nI 2) = 0 := by rw [← cl_cw hg (by omega)]; exact fun q => c45 ((rep_zero R1.1 (by decide) (by omega)).mpr q)
                refine lv_aload_n hx hb dX2_clearWords_48 rfl (lv_at hl 4 rfl) ?_
                refine lv_iload hx hb dX2_clearWords_49 (lv_at hl 1 rfl) ?_
                refine lv_iload hx hb dX2_clearWords_51 (lv_at hl 0 rfl) ?_
                refine lv_iconst (v := (nI 2)) hx hb dX2_clearWords_53 (by decide) ?_
                refine lv_iconst (v := (nI 0)) hx hb dX2_clearWords_54 (by decide) ?_
                refine cl_Vv (b := (a 0)) (As := [.int (nI w), .int ((VV 2) w), .int (nI 2), .int (nI 0)]) (rest := []) (wc := SW a cI cG VV) (wsN := fun (V9 : Nat → Nat → Int32) => SW a cI cG V9) F hK hA hP hD hS (c_X2_change R1 (by omega) (by decide) (by decide) (by decide) (cl_kind (by omega) R1.1)) (cwV 4 hts gX2_clearWords_X2_change rfl rfl rfl (by decide +kernel) ⟨Nat.le_of_ble_eq_true rfl, Nat.le_of_ble_eq_true rfl⟩) [0, 1, 2, 3, 4, 5, 6, 7] [] [0, 1, 2, 3, 4, 5, 6, 7] ([]) rfl rfl (fun _ => rfl) (by decide) (by decide) 0 rfl rfl rfl hl.1 rfl (Nat.le_of_ble_eq_true rfl) ⟨Nat.zero_le _, Nat.zero_le _⟩ dX2_clearWords_55 (fun V9 H locs hw_1 hP hD hS => ?_)
                try dsimp only at hw_1 hP hD
                have R3 : RepS (bec g (mP w (VV 2 w)) (fun _ => nI 0)) V9 := hw_1
                rw [cl_lazy hg (by omega) R1.1] at R3
                refine lv_iload_n hx hb dX2_clearWords_58 rfl (lv_at hl 2 rfl) ?_
                refine lv_iload hx hb dX2_clearWords_59 (lv_at hl 0 rfl) ?_
                refine cl_S0 (As := [.int ((VV 2) w)]) (rest := [.int (nI n)]) F hK hA hP hD hS (c_J6_bitCount_0f7a4) (va_cwS 1 hts gX2_clearWords_J6_bitCount_0f7a4 rfl rfl rfl (by decide +kernel) ⟨Nat.le_of_ble_eq_true rfl, Nat.le_of_ble_eq_true rfl⟩) rfl hl.1 rfl (Nat.le_of_ble_eq_true rfl) ⟨Nat.zero_le _, Nat.zero_le _⟩ dX2_clearWords_61 (fun r_3 H locs hw_4 hP hS => ?_)
                try dsimp only at hw_4
                obtain rfl : r_3 = (nI (cw f w (nI 2))) := by rw [hw_4, rep_pc R1.1 (by decide) (by omega), cl_cw hg (by omega)]
                refine lv_iadd hx hb dX2_clearWords_64 ?_
                refine n_as (x' := nI (n + (cw f w (nI 2)))) (nI_add _ _) ?_
                refine lv_istore_n (lv' := [(3, .int (nI (n + (cw f w (nI 2))))), (5, .int ((VV 2) w)), (4, .int (nI w)), (2, .int (nI c)), (0, .ref (a 0)), (1, .int (nI m))]) hx hb dX2_clearWords_65 rfl hl (by decide) rfl (fun ls hl => ?_)
                refine lv_iinc (v := (nI (c + 1))) (lv' := [(2, .int (nI (c + 1))), (3, .int (nI (n + (cw f w (nI 2))))), (5, .int ((VV 2) w)), (4, .int (nI w)), (0, .ref (a 0)), (1, .int (nI m))]) hx hb dX2_clearWords_66 hl (k := 3) rfl (n_inc1 _) (by decide) rfl (fun ls hl => ?_)
                refine lv_iinc (v := (nI (w + 1))) (lv' := [(4, .int (nI (w + 1))), (2, .int (nI (c + 1))), (3, .int (nI (n + (cw f w (nI 2))))), (5, .int ((VV 2) w)), (0, .ref (a 0)), (1, .int (nI m))]) hx hb dX2_clearWords_69 hl (k := 3) rfl (n_inc1 _) (by decide) rfl (fun ls hl => ?_)
                refine lv_goto (tgt := 20) hx hb dX2_clearWords_72 (by decide) ?_
                exact ih20 (w + 1) (c + 1) (n + (cw f w (nI 2))) (bec f (clP f m w (32 * w + 32)) (fun _ => nI 0)) V9 _ _ _ (by omega) (by rw [lzc_succ]; first | (rw [if_pos (by omega)]; omega) | (rw [if_neg (by omega)]; omega)) (by rw [clS_succ (by omega)]; omega) (cl_next rfl (by omega)) (by first | exact R3 | (rw [← cl_nolazy hg hz]; exact R1)) (by omega) hP hD hS (lv_sub hl [0, 2, 1, 4, 5] rfl)
      exact LP20 _ 0 0 0 f V _ _ _ (by omega) (⟨rfl, Nat.zero_le _⟩) (rfl) (cl_0 f m) (R) (Nat.lt_succ_self _) hP hD hS (lv_sub hl [0, 1, 2, 3, 4] rfl)
    · skip
      refine lv_iconst (v := (-1)) hx hb dX2_clearWords_11 (by decide) ?_
      exact RETN _ _ (-1) V _ _ dX2_clearWords_12 (rfl) (by first | (rw [clA_n (inB_f1 c2)]; exact ⟨rfl, R⟩) | (rw [clA_n (inB_c2 c8)]; exact ⟨rfl, R⟩)) hP hD hS
set_option maxHeartbeats 4000000 in
set_option maxRecDepth 100000 in
theorem c_X2_takeOne {l : Launch} {D : va_G} {cI cG cC cR : ClassId} {a : Nat → Nat} {f : Nat → Int32} {V : Nat → Nat → Int32} (R : RepS f V) (hbt : Bits f) : CtI l yX2_takeOne wsX2_takeOne { frames := 3, cells := 0, slots := 0, locals := 70 } D (TY cI cG cC cR) [.ref (a 0)] (SW a cI cG V) (fun (u : Nat → Nat → Int32) => SW a cI cG u) (fun (r : Int32) (u : Nat → Nat → Int32) => r = o3 (tk f).1 ∧ RepS (tk f).2 u) := by
  refine CtI.of (cc := cX2_takeOne) (maxL := 2) (ty := .int) (by decide) rfl (Nat.le_of_ble_eq_true rfl) ?_
  intro P0 e0 s0 m0 a0 b0 t0 c0 A0 Q0 ls F hK hP hD hA RETN hl
  obtain ⟨hx, hb, hml, hown, hts⟩ := id F
  have hS : va_S A0 s0.heap s0.heap [] := va_S.rf
  have hl : lv_has ls 2 [(0, .ref (a 0))] := hl
  refine lv_aload_n hx hb dX2_takeOne_0 rfl (lv_at hl 0 rfl) ?_
  refine cl_Vi (b := (a 0)) (As := []) (rest := []) (wc := SW a cI cG V) (wsN := fun (V1 : Nat → Nat → Int32) => SW a cI cG V1) F hK hA hP hD hS (c_X2_takeBySummaries R hbt) (cwV 0 hts gX2_takeOne_X2_takeBySummaries rfl rfl rfl (by decide +kernel) ⟨Nat.le_of_ble_eq_true rfl, Nat.le_of_ble_eq_true rfl⟩) [0, 1, 2, 3, 4, 5, 6, 7] [] [0, 1, 2, 3, 4, 5, 6, 7] ([]) rfl rfl (fun _ => rfl) (by decide) (by decide) 0 rfl rfl rfl hl.1 rfl (Nat.le_of_ble_eq_true rfl) ⟨Nat.zero_le _, Nat.zero_le _⟩ dX2_takeOne_1 (fun r1 V1 H locs hw_1 hP hD hS => ?_)
  try dsimp only at hw_1 hP hD
  obtain ⟨hr1, R1⟩ := hw_1
  have hbt1 : Bits (gt 10 0 f).2 := Bits_gt (by omega) hbt
  cases ho : (gt 10 0 f).1 with
  | none =>
    obtain rfl : r1 = -9 := by rw [hr1, ho]; rfl
    refine lv_istore_n (lv' := [(1, .int (-9)), (0, .ref (a 0))]) hx hb dX2_takeOne_4 rfl hl (by decide) rfl (fun ls hl => ?_)
    refine lv_iload_n hx hb dX2_takeOne_5 rfl (lv_at hl 0 rfl) ?_
    refine lv_bipush (v := (-9)) hx hb dX2_takeOne_6 (by decide) ?_
    refine lv_icmp_ne (tgt := 25) hx hb dX2_takeOne_8 (by decide) (fun c8 => ?_) (fun c8 => ?_)
    · skip
      exfalso
      exact c8 rfl
    · skip
      refine lv_aload_n hx hb dX2_takeOne_11 rfl (lv_at hl 1 rfl) ?_
      refine lv_bipush (v := (nI 10)) hx hb dX2_takeOne_12 (by decide) ?_
      refine cl_Vi (b := (a 0)) (As := [.int (nI 10)]) (rest := []) (wc := SW a cI cG V1) (wsN := fun (V2 : Nat → Nat → Int32) => SW a cI cG V2) F hK hA hP hD hS (c_X2_clearWords (v := nI 10) R1) (cwV 1 hts gX2_takeOne_X2_clearWords rfl rfl rfl (by decide +kernel) ⟨Nat.le_of_ble_eq_true rfl, Nat.le_of_ble_eq_true rfl⟩) [0, 1, 2, 3, 4, 5, 6, 7] [] [0, 1, 2, 3, 4, 5, 6, 7] ([]) rfl rfl (fun _ => rfl) (by decide) (by decide) 0 rfl rfl rfl hl.1 rfl (Nat.le_of_ble_eq_true rfl) ⟨Nat.zero_le _, Nat.zero_le _⟩ dX2_takeOne_14 (fun r2 V2 H locs hw_3 hP hD hS => ?_)
      try dsimp only at hw_3 hP hD
      have R2 : RepS (clF (gt 10 0 f).2 10) V2 := by have q := (hw_3).2; rw [clA_s (by decide) (by decide)] at q; exact q
      have hcn := clN_le (gt 10 0 f).2 10
      obtain rfl : r2 = (nI (clN (gt 10 0 f).2 10)) := by rw [(hw_3).1, clA_s (by decide) (by decide)]
      refine lv_if_le (tgt := 25) hx hb dX2_takeOne_17 (by decide) (fun c17 => ?_) (fun c17 => ?_)
      · skip
        replace c17 : (clN (gt 10 0 f).2 10) ≤ 0 := by rw [show (0 : Int32) = nI 0 from rfl, nI_leI (by omega) (by omega)] at c17; exact c17
        refine lv_iload_n hx hb dX2_takeOne_25 rfl (lv_at hl 0 rfl) ?_
        refine lv_bipush (v := (-9)) hx hb dX2_takeOne_26 (by decide) ?_
        refine lv_icmp_ne (tgt := 36) hx hb dX2_takeOne_28 (by decide) (fun c28 => ?_) (fun c28 => ?_)
        · skip
          exfalso
          exact c28 rfl
        · skip
          refine lv_bipush (v := (-3)) hx hb dX2_takeOne_31 (by decide) ?_
          refine lv_goto (tgt := 37) hx hb dX2_takeOne_33 (by decide) ?_
          exact RETN _ _ (-3) V2 _ _ dX2_takeOne_37 (rfl) (by first | (rw [tk_1 ho]; exact ⟨rfl, R1⟩) | (rw [tk_3 ho (by omega)]; exact ⟨rfl, R2⟩) | (rw [tk_2 ho (by omega)]; exact ⟨by rw [ho3]; rfl, R3⟩)) hP hD hS
      · skip
        replace c17 : ¬ ((clN (gt 10 0 f).2 10) ≤ 0) := by rw [show (0 : Int32) = nI 0 from rfl, nI_leI (by omega) (by omega)] at c17; exact c17
        refine lv_aload_n hx hb dX2_takeOne_20 rfl (lv_at hl 1 rfl) ?_
        refine cl_Vi (b := (a 0)) (As := []) (rest := []) (wc := SW a cI cG V2) (wsN := fun (V3 : Nat → Nat → Int32) => SW a cI cG V3) F hK hA hP hD hS (c_X2_takeBySummaries R2 (Bits_clF hbt1)) (cwV 0 hts gX2_takeOne_X2_takeBySummaries rfl rfl rfl (by decide +kernel) ⟨Nat.le_of_ble_eq_true rfl, Nat.le_of_ble_eq_true rfl⟩) [0, 1, 2, 3, 4, 5, 6, 7] [] [0, 1, 2, 3, 4, 5, 6, 7] ([]) rfl rfl (fun _ => rfl) (by decide) (by decide) 0 rfl rfl rfl hl.1 rfl (Nat.le_of_ble_eq_true rfl) ⟨Nat.zero_le _, Nat.zero_le _⟩ dX2_takeOne_21 (fun r3 V3 H locs hw_5 hP hD hS => ?_)
        try dsimp only at hw_5 hP hD
        obtain ⟨hr3, R3⟩ := hw_5
        cases ho3 : (gt 10 0 (clF (gt 10 0 f).2 10)).1 with
        | none =>
          obtain rfl : r3 = -9 := by rw [hr3, ho3]; rfl
          refine lv_istore_n (lv' := [(1, .int (-9)), (0, .ref (a 0))]) hx hb dX2_takeOne_24 rfl hl (by decide) rfl (fun ls hl => ?_)
          refine lv_iload_n hx hb dX2_takeOne_25 rfl (lv_at hl 0 rfl) ?_
          refine lv_bipush (v := (-9)) hx hb dX2_takeOne_26 (by decide) ?_
          refine lv_icmp_ne (tgt := 36) hx hb dX2_takeOne_28 (by decide) (fun c28 => ?_) (fun c28 => ?_)
          · skip
            exfalso
            exact c28 rfl
          · skip
            refine lv_bipush (v := (-3)) hx hb dX2_takeOne_31 (by decide) ?_
            refine lv_goto (tgt := 37) hx hb dX2_takeOne_33 (by decide) ?_
            exact RETN _ _ (-3) V3 _ _ dX2_takeOne_37 (rfl) (by first | (rw [tk_1 ho]; exact ⟨rfl, R1⟩) | (rw [tk_3 ho (by omega)]; exact ⟨rfl, R2⟩) | (rw [tk_2 ho (by omega)]; exact ⟨by rw [ho3]; rfl, R3⟩)) hP hD hS
        | some sl3 =>
          obtain rfl : r3 = nI sl3 := by rw [hr3, ho3]; rfl
          have hsl := gt_lt ho3
          refine lv_istore_n (lv' := [(1, .int (nI sl3)), (0, .ref (a 0))]) hx hb dX2_takeOne_24 rfl hl (by decide) rfl (fun ls hl => ?_)
          refine lv_iload_n hx hb dX2_takeOne_25 rfl (lv_at hl 0 rfl) ?_
          refine lv_bipush (v := (-9)) hx hb dX2_takeOne_26 (by decide) ?_
          refine lv_icmp_ne (tgt := 36) hx hb dX2_takeOne_28 (by decide) (fun c28 => ?_) (fun c28 => ?_)
          · skip
            refine lv_iload_n hx hb dX2_takeOne_36 rfl (lv_at hl 0 rfl) ?_
            exact RETN _ _ (nI sl3) V3 _ _ dX2_takeOne_37 (rfl) (by first | (rw [tk_1 ho]; exact ⟨rfl, R1⟩) | (rw [tk_3 ho (by omega)]; exact ⟨rfl, R2⟩) | (rw [tk_2 ho (by omega)]; exact ⟨by rw [ho3]; rfl, R3⟩)) hP hD hS
          · skip
            exfalso
            exact ne9 (by omega) c28
  | some sl =>
    obtain rfl : r1 = nI sl := by rw [hr1, ho]; rfl
    have hsl := gt_lt ho
    refine lv_istore_n (lv' := [(1, .int (nI sl)), (0, .ref (a 0))]) hx hb dX2_takeOne_4 rfl hl (by decide) rfl (fun ls hl => ?_)
    refine lv_iload_n hx hb dX2_takeOne_5 rfl (lv_at hl 0 rfl) ?_
    refine lv_bipush (v := (-9)) hx hb dX2_takeOne_6 (by decide) ?_
    refine lv_icmp_ne (tgt := 25) hx hb dX2_takeOne_8 (by decide) (fun c8 => ?_) (fun c8 => ?_)
    · skip
      refine lv_iload_n hx hb dX2_takeOne_25 rfl (lv_at hl 0 rfl) ?_
      refine lv_bipush (v := (-9)) hx hb dX2_takeOne_26 (by decide) ?_
      refine lv_icmp_ne (tgt := 36) hx hb dX2_takeOne_28 (by decide) (fun c28 => ?_) (fun c28 => ?_)
      · skip
        refine lv_iload_n hx hb dX2_takeOne_36 rfl (lv_at hl 0 rfl) ?_
        exact RETN _ _ (nI sl) V1 _ _ dX2_takeOne_37 (rfl) (by first | (rw [tk_1 ho]; exact ⟨rfl, R1⟩) | (rw [tk_3 ho (by omega)]; exact ⟨rfl, R2⟩) | (rw [tk_2 ho (by omega)]; exact ⟨by rw [ho3]; rfl, R3⟩)) hP hD hS
      · skip
        exfalso
        exact ne9 (by omega) c28
    · skip
      exfalso
      exact ne9 (by omega) c8
set_option maxHeartbeats 4000000 in
set_option maxRecDepth 100000 in
theorem c_X2_takeMany {l : Launch} {D : va_G} {cI cG cC cR : ClassId} {a : Nat → Nat} {f : Nat → Int32} {V : Nat → Nat → Int32} {v : Int32} (R : RepS f V) (hbt : Bits f) : CtI l yX2_takeMany wsX2_takeMany { frames := 4, cells := 0, slots := 0, locals := 91 } D (TY cI cG cC cR) [.ref (a 0), .int v] (SW a cI cG V) (fun (u : Nat → Nat → Int32) => SW a cI cG u) (fun (r : Int32) (u : Nat → Nat → Int32) => (r < 0 ↔ (tmA f v).1 < 0) ∧ RepS (tmA f v).2 u) := by
  refine CtI.of (cc := cX2_takeMany) (maxL := 3) (ty := .int) (by decide) rfl (Nat.le_of_ble_eq_true rfl) ?_
  intro P0 e0 s0 m0 a0 b0 t0 c0 A0 Q0 ls F hK hP hD hA RETN hl
  obtain ⟨hx, hb, hml, hown, hts⟩ := id F
  have hS : va_S A0 s0.heap s0.heap [] := va_S.rf
  have hl : lv_has ls 3 [(0, .ref (a 0)), (1, .int v)] := hl
  refine lv_iload_n hx hb dX2_takeMany_0 rfl (lv_at hl 1 rfl) ?_
  refine lv_iconst (v := (nI 1)) hx hb dX2_takeMany_1 (by decide) ?_
  refine lv_icmp_lt (tgt := 12) hx hb dX2_takeMany_2 (by decide) (fun c2 => ?_) (fun c2 => ?_)
  · skip
    refine lv_iconst (v := (-1)) hx hb dX2_takeMany_12 (by decide) ?_
    exact RETN _ _ (-1) V _ _ dX2_takeMany_13 (rfl) (by first | (rw [tmA_n (inB_f1 c2)]; exact ⟨Iff.rfl, R⟩) | (rw [tmA_n (inB_c2 c9)]; exact ⟨Iff.rfl, R⟩)) hP hD hS
  · skip
    refine lv_iload_n hx hb dX2_takeMany_5 rfl (lv_at hl 1 rfl) ?_
    refine lv_sipush (v := (nI 320)) hx hb dX2_takeMany_6 (by decide) ?_
    refine lv_icmp_le (tgt := 14) hx hb dX2_takeMany_9 (by decide) (fun c9 => ?_) (fun c9 => ?_)
    · skip
      obtain ⟨m, hlo_m, hhi_m, rfl⟩ := inB_nat (by decide) (by decide) (inB_c1 c2 c9)
      refine lv_iconst (v := (nI 0)) hx hb dX2_takeMany_14 (by decide) ?_
      refine lv_istore_n (lv' := [(2, .int (nI 0)), (0, .ref (a 0)), (1, .int (nI m))]) hx hb dX2_takeMany_15 rfl hl (by decide) rfl (fun ls hl => ?_)
      have LP16 : ∀ (nn : Nat) (k : Nat) (x : Int32) (g : Nat → Int32) (VV : Nat → Nat → Int32) (H : Heap) (locs : List Loc) (ls : Array Slot), (k ≤ m) → (¬ x < 0) → (tmA f (nI m) = tmR (m - k) x g) → (RepS g VV) → (Bits g) → m - k < nn → va_P D vwCl (SW a cI cG VV) H → va_D A0 (SW a cI cG VV) → va_S A0 s0.heap H locs → lv_has ls 3 [(2, .int (nI k)), (0, .ref (a 0)), (1, .int (nI m))] → W P0 l e0 { frames := 4, cells := 0, slots := 0, locals := 91 } s0 m0 a0 b0 t0 c0 H locs 0 0 Q0 (F0 m0 16 ls []) := by
        intro nn
        induction nn with
        | zero => intro k x g VV H locs ls hk hx1 ha R1 hbt1 hmu; exact absurd hmu (Nat.not_lt_zero _)
        | succ nn ih16 =>
          intro k x g VV H locs ls hk hx1 ha R1 hbt1 hmu16 hP hD hS hl
          refine lv_iload_n hx hb dX2_takeMany_16 rfl (lv_at hl 0 rfl) ?_
          refine lv_iload_n hx hb dX2_takeMany_17 rfl (lv_at hl 2 rfl) ?_
          refine lv_icmp_ge (tgt := 37) hx hb dX2_takeMany_18 (by decide) (fun c18 => ?_) (fun c18 => ?_)
          · skip
            replace c18 : m ≤ k := by rw [nI_leI (by omega) (by omega)] at c18; exact c18
            refine lv_iload_n hx hb dX2_takeMany_37 rfl (lv_at hl 2 rfl) ?_
            exact RETN _ _ (nI m) VV _ _ dX2_takeMany_38 (rfl) (by rw [ha, tmR_end (by omega)]; exact ⟨⟨fun q => absurd q (nI_pos (by omega)), fun q => absurd q hx1⟩, R1⟩) hP hD hS
          · skip
            replace c18 : ¬ (m ≤ k) := by rw [nI_leI (by omega) (by omega)] at c18; exact c18
            refine lv_aload_n hx hb dX2_takeMany_21 rfl (lv_at hl 1 rfl) ?_
            refine cl_Vi (b := (a 0)) (As := []) (rest := []) (wc := SW a cI cG VV) (wsN := fun (V1 : Nat → Nat → Int32) => SW a cI cG V1) F hK hA hP hD hS (c_X2_takeOne R1 hbt1) (cwV 0 hts gX2_takeMany_X2_takeOne rfl rfl rfl (by decide +kernel) ⟨Nat.le_of_ble_eq_true rfl, Nat.le_of_ble_eq_true rfl⟩) [0, 1, 2, 3, 4, 5, 6, 7] [] [0, 1, 2, 3, 4, 5, 6, 7] ([]) rfl rfl (fun _ => rfl) (by decide) (by decide) 0 rfl rfl rfl hl.1 rfl (Nat.le_of_ble_eq_true rfl) ⟨Nat.zero_le _, Nat.zero_le _⟩ dX2_takeMany_22 (fun r1 V1 H locs hw_1 hP hD hS => ?_)
            try dsimp only at hw_1 hP hD
            obtain rfl : r1 = (o3 (tk g).1) := (hw_1).1
            have R2 := (hw_1).2
            refine lv_if_ge (tgt := 31) hx hb dX2_takeMany_25 (by decide) (fun c25 => ?_) (fun c25 => ?_)
            · skip
              have hx2 := le0_t c25
              refine lv_iinc (v := (nI (k + 1))) (lv' := [(2, .int (nI (k + 1))), (0, .ref (a 0)), (1, .int (nI m))]) hx hb dX2_takeMany_31 hl (k := 0) rfl (n_inc1 _) (by decide) rfl (fun ls hl => ?_)
              refine lv_goto (tgt := 16) hx hb dX2_takeMany_34 (by decide) ?_
              exact ih16 (k + 1) (o3 (tk g).1) ((tk g).2) V1 _ _ _ (by omega) (hx2) (by rw [ha]; exact tmR_go (by omega) hx1) (R2) (Bits_tk hbt1) (by omega) hP hD hS (lv_sub hl [0, 1, 2] rfl)
            · skip
              have hx2 := le0_f c25
              refine lv_bipush (v := (-3)) hx hb dX2_takeMany_28 (by decide) ?_
              exact RETN _ _ (-3) V1 _ _ dX2_takeMany_30 (rfl) (by rw [ha, tmR_go (by omega) hx1, tmR_neg hx2]; exact ⟨⟨fun _ => hx2, fun _ => by decide⟩, R2⟩) hP hD hS
      exact LP16 _ 0 (nI 0) f V _ _ _ (by omega) (by decide) (tmA_m (by omega) (by omega)) (R) (hbt) (Nat.lt_succ_self _) hP hD hS (lv_sub hl [0, 1, 2] rfl)
    · skip
      refine lv_iconst (v := (-1)) hx hb dX2_takeMany_12 (by decide) ?_
      exact RETN _ _ (-1) V _ _ dX2_takeMany_13 (rfl) (by first | (rw [tmA_n (inB_f1 c2)]; exact ⟨Iff.rfl, R⟩) | (rw [tmA_n (inB_c2 c9)]; exact ⟨Iff.rfl, R⟩)) hP hD hS
set_option maxHeartbeats 4000000 in
set_option maxRecDepth 100000 in
theorem c_X2_runStart {l : Launch} {D : va_G} {cI cG cC cR : ClassId} {a : Nat → Nat} {f : Nat → Int32} {V : Nat → Nat → Int32} {m : Nat} (R : RepK f V) (h1 : 1 ≤ m) (h2 : m ≤ 64) : CtI l yX2_runStart wsX2_runStart { frames := 2, cells := 0, slots := 0, locals := 41 } D (TY cI cG cC cR) [.ref (a 0), .int (nI m)] (SW a cI cG V) (fun (_ : Unit) => SW a cI cG V) (fun (r : Int32) (_ : Unit) => r = oI (rn f m 320 0 0)) := by
  refine CtI.of (cc := cX2_runStart) (maxL := 4) (ty := .int) (by decide) rfl (Nat.le_of_ble_eq_true rfl) ?_
  intro P0 e0 s0 m0 a0 b0 t0 c0 A0 Q0 ls F hK hP hD hA RETN hl
  obtain ⟨hx, hb, hml, hown, hts⟩ := id F
  have hS : va_S A0 s0.heap s0.heap [] := va_S.rf
  have hl : lv_has ls 4 [(0, .ref (a 0)), (1, .int (nI m))] := hl
  refine lv_iconst (v := (nI 0)) hx hb dX2_runStart_0 (by decide) ?_
  refine lv_istore_n (lv' := [(2, .int (nI 0)), (0, .ref (a 0)), (1, .int (nI m))]) hx hb dX2_runStart_1 rfl hl (by decide) rfl (fun ls hl => ?_)
  refine lv_iconst (v := (nI 0)) hx hb dX2_runStart_2 (by decide) ?_
  refine lv_istore_n (lv' := [(3, .int (nI 0)), (2, .int (nI 0)), (0, .ref (a 0)), (1, .int (nI m))]) hx hb dX2_runStart_3 rfl hl (by decide) rfl (fun ls hl => ?_)
  have LP4 : ∀ (nn : Nat) (sl : Nat) (n : Nat) (H : Heap) (locs : List Loc) (ls : Array Slot), (sl ≤ 320) → (n ≤ sl) → (rn f m 320 0 0 = rn f m (320 - sl) sl n) → 320 - sl < nn → va_P D vwCl (SW a cI cG V) H → va_D A0 (SW a cI cG V) → va_S A0 s0.heap H locs → lv_has ls 4 [(3, .int (nI sl)), (2, .int (nI n)), (0, .ref (a 0)), (1, .int (nI m))] → W P0 l e0 { frames := 2, cells := 0, slots := 0, locals := 41 } s0 m0 a0 b0 t0 c0 H locs 0 0 Q0 (F0 m0 4 ls []) := by
    intro nn
    induction nn with
    | zero => intro sl n H locs ls hs hn ha hmu; exact absurd hmu (Nat.not_lt_zero _)
    | succ nn ih4 =>
      intro sl n H locs ls hs hn ha hmu4 hP hD hS hl
      refine lv_iload_n hx hb dX2_runStart_4 rfl (lv_at hl 0 rfl) ?_
      refine lv_sipush (v := (nI 320)) hx hb dX2_runStart_5 (by decide) ?_
      refine lv_icmp_ge (tgt := 44) hx hb dX2_runStart_8 (by decide) (fun c8 => ?_) (fun c8 => ?_)
      · skip
        replace c8 : 320 ≤ sl := by rw [nI_leI (by omega) (by omega)] at c8; exact c8
        refine lv_bipush (v := (-9)) hx hb dX2_runStart_44 (by decide) ?_
        exact RETN _ _ (-9) () _ _ dX2_runStart_46 (rfl) (by rw [ha, rn_end (by omega)]; rfl) hP hD hS
      · skip
        replace c8 : ¬ (320 ≤ sl) := by rw [nI_leI (by omega) (by omega)] at c8; exact c8
        refine lv_aload_n hx hb dX2_runStart_11 rfl (lv_at hl 2 rfl) ?_
        refine lv_iload_n hx hb dX2_runStart_12 rfl (lv_at hl 0 rfl) ?_
        refine cl_Vi (b := (a 0)) (As := [.int (nI sl)]) (rest := []) (wc := SW a cI cG V) (wsN := fun (_ : Unit) => SW a cI cG V) F hK hA hP hD hS (c_X2_isFree R (by omega)) (cwV 1 hts gX2_runStart_X2_isFree rfl rfl rfl (by decide +kernel) ⟨Nat.le_of_ble_eq_true rfl, Nat.le_of_ble_eq_true rfl⟩) [0, 1, 2, 3, 4, 5, 6, 7] [] [0, 1, 2, 3, 4, 5, 6, 7] ([]) rfl rfl (fun _ => rfl) (by decide) (by decide) 0 rfl rfl rfl hl.1 rfl (Nat.le_of_ble_eq_true rfl) ⟨Nat.zero_le _, Nat.zero_le _⟩ dX2_runStart_13 (fun r_2 _ H locs hw_1 hP hD hS => ?_)
        try dsimp only at hw_1 hP hD
        obtain rfl : r_2 = (bI (fr f sl)) := hw_1
        refine lv_if_eq (tgt := 25) hx hb dX2_runStart_16 (by decide) (fun c16 => ?_) (fun c16 => ?_)
        · skip
          replace c16 : (bI (fr f sl)) = nI 0 := c16
          have hn1 : (if f sl = nI 0 then n + 1 else 0) = 0 := if_neg (of_decide_eq_false (bI_cf c16))
          refine lv_iconst (v := (nI 0)) hx hb dX2_runStart_25 (by decide) ?_
          refine lv_istore_n (lv' := [(2, .int (nI 0)), (3, .int (nI sl)), (0, .ref (a 0)), (1, .int (nI m))]) hx hb dX2_runStart_26 rfl hl (by decide) rfl (fun ls hl => ?_)
          refine lv_iload_n hx hb dX2_runStart_27 rfl (lv_at hl 0 rfl) ?_
          refine lv_iload_n hx hb dX2_runStart_28 rfl (lv_at hl 3 rfl) ?_
          refine lv_icmp_ne (tgt := 38) hx hb dX2_runStart_29 (by decide) (fun c29 => ?_) (fun c29 => ?_)
          · skip
            replace c29 : ¬ 0 = m := by rw [nI_eq (by omega) (by omega)] at c29; exact c29
            refine lv_iinc (v := (nI (sl + 1))) (lv' := [(3, .int (nI (sl + 1))), (2, .int (nI 0)), (0, .ref (a 0)), (1, .int (nI m))]) hx hb dX2_runStart_38 hl (k := 1) rfl (n_inc1 _) (by decide) rfl (fun ls hl => ?_)
            refine lv_goto (tgt := 4) hx hb dX2_runStart_41 (by decide) ?_
            exact ih4 (sl + 1) 0 _ _ _ (by omega) (by omega) (by rw [ha, rn_no (by omega) hn1 c29]) (by omega) hP hD hS (lv_sub hl [0, 1, 2, 3] rfl)
          · skip
            replace c29 : 0 = m := by rw [nI_eq (by omega) (by omega)] at c29; exact c29
            refine lv_iload_n hx hb dX2_runStart_32 rfl (lv_at hl 1 rfl) ?_
            refine lv_iload_n hx hb dX2_runStart_33 rfl (lv_at hl 3 rfl) ?_
            refine lv_isub hx hb dX2_runStart_34 ?_
            refine lv_iconst (v := (nI 1)) hx hb dX2_runStart_35 (by decide) ?_
            refine lv_iadd hx hb dX2_runStart_36 ?_
            refine n_as (x' := (nI (sl + 1 - m))) (subadd (by omega)) ?_
            exact RETN _ _ (nI (sl + 1 - m)) () _ _ dX2_runStart_37 (rfl) (by rw [ha, rn_yes (by omega) hn1 c29]; rfl) hP hD hS
        · skip
          replace c16 : ¬ (bI (fr f sl)) = nI 0 := c16
          have hn1 : (if f sl = nI 0 then n + 1 else 0) = n + 1 := if_pos (of_decide_eq_true (bI_ct c16))
          refine lv_iload_n hx hb dX2_runStart_19 rfl (lv_at hl 1 rfl) ?_
          refine lv_iconst (v := (nI 1)) hx hb dX2_runStart_20 (by decide) ?_
          refine lv_iadd hx hb dX2_runStart_21 ?_
          refine n_as (x' := nI (n + 1)) (nI_add _ _) ?_
          refine lv_goto (tgt := 26) hx hb dX2_runStart_22 (by decide) ?_
          refine lv_istore_n (lv' := [(2, .int (nI (n + 1))), (3, .int (nI sl)), (0, .ref (a 0)), (1, .int (nI m))]) hx hb dX2_runStart_26 rfl hl (by decide) rfl (fun ls hl => ?_)
          refine lv_iload_n hx hb dX2_runStart_27 rfl (lv_at hl 0 rfl) ?_
          refine lv_iload_n hx hb dX2_runStart_28 rfl (lv_at hl 3 rfl) ?_
          refine lv_icmp_ne (tgt := 38) hx hb dX2_runStart_29 (by decide) (fun c29 => ?_) (fun c29 => ?_)
          · skip
            replace c29 : ¬ (n + 1) = m := by rw [nI_eq (by omega) (by omega)] at c29; exact c29
            refine lv_iinc (v := (nI (sl + 1))) (lv' := [(3, .int (nI (sl + 1))), (2, .int (nI (n + 1))), (0, .ref (a 0)), (1, .int (nI m))]) hx hb dX2_runStart_38 hl (k := 1) rfl (n_inc1 _) (by decide) rfl (fun ls hl => ?_)
            refine lv_goto (tgt := 4) hx hb dX2_runStart_41 (by decide) ?_
            exact ih4 (sl + 1) (n + 1) _ _ _ (by omega) (by omega) (by rw [ha, rn_no (by omega) hn1 c29]) (by omega) hP hD hS (lv_sub hl [0, 1, 2, 3] rfl)
          · skip
            replace c29 : (n + 1) = m := by rw [nI_eq (by omega) (by omega)] at c29; exact c29
            refine lv_iload_n hx hb dX2_runStart_32 rfl (lv_at hl 1 rfl) ?_
            refine lv_iload_n hx hb dX2_runStart_33 rfl (lv_at hl 3 rfl) ?_
            refine lv_isub hx hb dX2_runStart_34 ?_
            refine lv_iconst (v := (nI 1)) hx hb dX2_runStart_35 (by decide) ?_
            refine lv_iadd hx hb dX2_runStart_36 ?_
            refine n_as (x' := (nI (sl + 1 - m))) (subadd (by omega)) ?_
            exact RETN _ _ (nI (sl + 1 - m)) () _ _ dX2_runStart_37 (rfl) (by rw [ha, rn_yes (by omega) hn1 c29]; rfl) hP hD hS
  exact LP4 _ 0 0 _ _ _ (by omega) (by omega) (rfl) (Nat.lt_succ_self _) hP hD hS (lv_sub hl [0, 1, 2, 3] rfl)
set_option maxHeartbeats 4000000 in
set_option maxRecDepth 100000 in
theorem c_X2_freeRuns {l : Launch} {D : va_G} {cI cG cC cR : ClassId} {a : Nat → Nat} {f : Nat → Int32} {V : Nat → Nat → Int32} (R : RepK f V) : CtI l yX2_freeRuns wsX2_freeRuns { frames := 2, cells := 0, slots := 0, locals := 41 } D (TY cI cG cC cR) [.ref (a 0)] (SW a cI cG V) (fun (_ : Unit) => SW a cI cG V) (fun (r : Int32) (_ : Unit) => r = nI (rsg f 320 0 0 0 0).1) := by
  refine CtI.of (cc := cX2_freeRuns) (maxL := 5) (ty := .int) (by decide) rfl (Nat.le_of_ble_eq_true rfl) ?_
  intro P0 e0 s0 m0 a0 b0 t0 c0 A0 Q0 ls F hK hP hD hA RETN hl
  obtain ⟨hx, hb, hml, hown, hts⟩ := id F
  have hS : va_S A0 s0.heap s0.heap [] := va_S.rf
  have hl : lv_has ls 5 [(0, .ref (a 0))] := hl
  refine lv_iconst (v := (nI 0)) hx hb dX2_freeRuns_0 (by decide) ?_
  refine lv_istore_n (lv' := [(1, .int (nI 0)), (0, .ref (a 0))]) hx hb dX2_freeRuns_1 rfl hl (by decide) rfl (fun ls hl => ?_)
  refine lv_iconst (v := (nI 0)) hx hb dX2_freeRuns_2 (by decide) ?_
  refine lv_istore_n (lv' := [(2, .int (nI 0)), (1, .int (nI 0)), (0, .ref (a 0))]) hx hb dX2_freeRuns_3 rfl hl (by decide) rfl (fun ls hl => ?_)
  refine lv_iconst (v := (nI 0)) hx hb dX2_freeRuns_4 (by decide) ?_
  refine lv_istore_n (lv' := [(3, .int (nI 0)), (2, .int (nI 0)), (1, .int (nI 0)), (0, .ref (a 0))]) hx hb dX2_freeRuns_5 rfl hl (by decide) rfl (fun ls hl => ?_)
  have LP6 : ∀ (nn : Nat) (sl : Nat) (n : Nat) (x : Int32) (q : Nat) (mx : Nat) (H : Heap) (locs : List Loc) (ls : Array Slot), (sl ≤ 320) → (x = bI (decide (0 < q))) → (rsg f 320 0 0 0 0 = rsg f (320 - sl) sl q n mx) → 320 - sl < nn → va_P D vwCl (SW a cI cG V) H → va_D A0 (SW a cI cG V) → va_S A0 s0.heap H locs → lv_has ls 5 [(3, .int (nI sl)), (2, .int x), (1, .int (nI n)), (0, .ref (a 0))] → W P0 l e0 { frames := 2, cells := 0, slots := 0, locals := 41 } s0 m0 a0 b0 t0 c0 H locs 0 0 Q0 (F0 m0 6 ls []) := by
    intro nn
    induction nn with
    | zero => intro sl n x q mx H locs ls hs hx1 ha hmu; exact absurd hmu (Nat.not_lt_zero _)
    | succ nn ih6 =>
      intro sl n x q mx H locs ls hs hx1 ha hmu6 hP hD hS hl
      refine lv_iload_n hx hb dX2_freeRuns_6 rfl (lv_at hl 0 rfl) ?_
      refine lv_sipush (v := (nI 320)) hx hb dX2_freeRuns_7 (by decide) ?_
      refine lv_icmp_ge (tgt := 41) hx hb dX2_freeRuns_10 (by decide) (fun c10 => ?_) (fun c10 => ?_)
      · skip
        replace c10 : 320 ≤ sl := by rw [nI_leI (by omega) (by omega)] at c10; exact c10
        refine lv_iload_n hx hb dX2_freeRuns_41 rfl (lv_at hl 2 rfl) ?_
        exact RETN _ _ (nI n) () _ _ dX2_freeRuns_42 (rfl) (by rw [ha, rsg_e (by omega)]) hP hD hS
      · skip
        replace c10 : ¬ (320 ≤ sl) := by rw [nI_leI (by omega) (by omega)] at c10; exact c10
        refine lv_aload_n hx hb dX2_freeRuns_13 rfl (lv_at hl 3 rfl) ?_
        refine lv_iload_n hx hb dX2_freeRuns_14 rfl (lv_at hl 0 rfl) ?_
        refine cl_Vi (b := (a 0)) (As := [.int (nI sl)]) (rest := []) (wc := SW a cI cG V) (wsN := fun (_ : Unit) => SW a cI cG V) F hK hA hP hD hS (c_X2_isFree R (by omega)) (cwV 1 hts gX2_freeRuns_X2_isFree rfl rfl rfl (by decide +kernel) ⟨Nat.le_of_ble_eq_true rfl, Nat.le_of_ble_eq_true rfl⟩) [0, 1, 2, 3, 4, 5, 6, 7] [] [0, 1, 2, 3, 4, 5, 6, 7] ([]) rfl rfl (fun _ => rfl) (by decide) (by decide) 0 rfl rfl rfl hl.1 rfl (Nat.le_of_ble_eq_true rfl) ⟨Nat.zero_le _, Nat.zero_le _⟩ dX2_freeRuns_15 (fun r_2 _ H locs hw_1 hP hD hS => ?_)
        try dsimp only at hw_1 hP hD
        obtain rfl : r_2 = (bI (fr f sl)) := hw_1
        refine lv_istore (lv' := [(4, .int (bI (fr f sl))), (3, .int (nI sl)), (2, .int x), (1, .int (nI n)), (0, .ref (a 0))]) hx hb dX2_freeRuns_18 hl (by decide) rfl (fun ls hl => ?_)
        refine lv_iload hx hb dX2_freeRuns_20 (lv_at hl 0 rfl) ?_
        refine lv_if_eq (tgt := 32) hx hb dX2_freeRuns_22 (by decide) (fun c22 => ?_) (fun c22 => ?_)
        · skip
          replace c22 : (bI (fr f sl)) = nI 0 := c22
          refine lv_iload hx hb dX2_freeRuns_32 (lv_at hl 0 rfl) ?_
          refine lv_istore_n (lv' := [(2, .int (bI (fr f sl))), (4, .int (bI (fr f sl))), (3, .int (nI sl)), (1, .int (nI n)), (0, .ref (a 0))]) hx hb dX2_freeRuns_34 rfl hl (by decide) rfl (fun ls hl => ?_)
          refine lv_iinc (v := (nI (sl + 1))) (lv' := [(3, .int (nI (sl + 1))), (2, .int (bI (fr f sl))), (4, .int (bI (fr f sl))), (1, .int (nI n)), (0, .ref (a 0))]) hx hb dX2_freeRuns_35 hl (k := 2) rfl (n_inc1 _) (by decide) rfl (fun ls hl => ?_)
          refine lv_goto (tgt := 6) hx hb dX2_freeRuns_38 (by decide) ?_
          exact ih6 (sl + 1) n (bI (fr f sl)) (if f sl = nI 0 then q + 1 else 0) (if mx < (if f sl = nI 0 then q + 1 else 0) then (if f sl = nI 0 then q + 1 else 0) else mx) _ _ _ (by omega) (by congr 1; unfold fr; exact deq (by by_cases e : f sl = nI 0 <;> simp [e])) (by rw [ha]; exact rsg_s (by omega) rfl (by first | (rw [if_neg (of_decide_eq_false (bI_cf c22))]; rfl) | (rw [if_pos (of_decide_eq_true (bI_ct c22)), if_neg (by have z := of_decide_eq_true (bI_ct (hx1 ▸ c26)); omega)]; rfl) | (rw [if_pos (of_decide_eq_true (bI_ct c22)), if_pos (by have z := of_decide_eq_false (bI_cf (hx1 ▸ c26)); omega)])) rfl) (by omega) hP hD hS (lv_sub hl [0, 1, 3, 4] rfl)
        · skip
          replace c22 : ¬ (bI (fr f sl)) = nI 0 := c22
          refine lv_iload_n hx hb dX2_freeRuns_25 rfl (lv_at hl 2 rfl) ?_
          refine lv_if_ne (tgt := 32) hx hb dX2_freeRuns_26 (by decide) (fun c26 => ?_) (fun c26 => ?_)
          · skip
            replace c26 : ¬ x = nI 0 := c26
            refine lv_iload hx hb dX2_freeRuns_32 (lv_at hl 0 rfl) ?_
            refine lv_istore_n (lv' := [(2, .int (bI (fr f sl))), (4, .int (bI (fr f sl))), (3, .int (nI sl)), (1, .int (nI n)), (0, .ref (a 0))]) hx hb dX2_freeRuns_34 rfl hl (by decide) rfl (fun ls hl => ?_)
            refine lv_iinc (v := (nI (sl + 1))) (lv' := [(3, .int (nI (sl + 1))), (2, .int (bI (fr f sl))), (4, .int (bI (fr f sl))), (1, .int (nI n)), (0, .ref (a 0))]) hx hb dX2_freeRuns_35 hl (k := 2) rfl (n_inc1 _) (by decide) rfl (fun ls hl => ?_)
            refine lv_goto (tgt := 6) hx hb dX2_freeRuns_38 (by decide) ?_
            exact ih6 (sl + 1) n (bI (fr f sl)) (if f sl = nI 0 then q + 1 else 0) (if mx < (if f sl = nI 0 then q + 1 else 0) then (if f sl = nI 0 then q + 1 else 0) else mx) _ _ _ (by omega) (by congr 1; unfold fr; exact deq (by by_cases e : f sl = nI 0 <;> simp [e])) (by rw [ha]; exact rsg_s (by omega) rfl (by first | (rw [if_neg (of_decide_eq_false (bI_cf c22))]; rfl) | (rw [if_pos (of_decide_eq_true (bI_ct c22)), if_neg (by have z := of_decide_eq_true (bI_ct (hx1 ▸ c26)); omega)]; rfl) | (rw [if_pos (of_decide_eq_true (bI_ct c22)), if_pos (by have z := of_decide_eq_false (bI_cf (hx1 ▸ c26)); omega)])) rfl) (by omega) hP hD hS (lv_sub hl [0, 1, 3, 4] rfl)
          · skip
            replace c26 : x = nI 0 := c26
            refine lv_iinc (v := (nI (n + 1))) (lv' := [(1, .int (nI (n + 1))), (4, .int (bI (fr f sl))), (3, .int (nI sl)), (2, .int x), (0, .ref (a 0))]) hx hb dX2_freeRuns_29 hl (k := 3) rfl (n_inc1 _) (by decide) rfl (fun ls hl => ?_)
            refine lv_iload hx hb dX2_freeRuns_32 (lv_at hl 1 rfl) ?_
            refine lv_istore_n (lv' := [(2, .int (bI (fr f sl))), (1, .int (nI (n + 1))), (4, .int (bI (fr f sl))), (3, .int (nI sl)), (0, .ref (a 0))]) hx hb dX2_freeRuns_34 rfl hl (by decide) rfl (fun ls hl => ?_)
            refine lv_iinc (v := (nI (sl + 1))) (lv' := [(3, .int (nI (sl + 1))), (2, .int (bI (fr f sl))), (1, .int (nI (n + 1))), (4, .int (bI (fr f sl))), (0, .ref (a 0))]) hx hb dX2_freeRuns_35 hl (k := 3) rfl (n_inc1 _) (by decide) rfl (fun ls hl => ?_)
            refine lv_goto (tgt := 6) hx hb dX2_freeRuns_38 (by decide) ?_
            exact ih6 (sl + 1) (n + 1) (bI (fr f sl)) (if f sl = nI 0 then q + 1 else 0) (if mx < (if f sl = nI 0 then q + 1 else 0) then (if f sl = nI 0 then q + 1 else 0) else mx) _ _ _ (by omega) (by congr 1; unfold fr; exact deq (by by_cases e : f sl = nI 0 <;> simp [e])) (by rw [ha]; exact rsg_s (by omega) rfl (by first | (rw [if_neg (of_decide_eq_false (bI_cf c22))]; rfl) | (rw [if_pos (of_decide_eq_true (bI_ct c22)), if_neg (by have z := of_decide_eq_true (bI_ct (hx1 ▸ c26)); omega)]; rfl) | (rw [if_pos (of_decide_eq_true (bI_ct c22)), if_pos (by have z := of_decide_eq_false (bI_cf (hx1 ▸ c26)); omega)])) rfl) (by omega) hP hD hS (lv_sub hl [0, 1, 2, 4] rfl)
  exact LP6 _ 0 0 (nI 0) 0 0 _ _ _ (by omega) (rfl) (rfl) (Nat.lt_succ_self _) hP hD hS (lv_sub hl [0, 1, 2, 3] rfl)
set_option maxHeartbeats 4000000 in
set_option maxRecDepth 100000 in
theorem c_X2_longestFreeRun {l : Launch} {D : va_G} {cI cG cC cR : ClassId} {a : Nat → Nat} {f : Nat → Int32} {V : Nat → Nat → Int32} (R : RepK f V) : CtI l yX2_longestFreeRun wsX2_longestFreeRun { frames := 2, cells := 0, slots := 0, locals := 41 } D (TY cI cG cC cR) [.ref (a 0)] (SW a cI cG V) (fun (_ : Unit) => SW a cI cG V) (fun (r : Int32) (_ : Unit) => r = nI (rsg f 320 0 0 0 0).2) := by
  refine CtI.of (cc := cX2_longestFreeRun) (maxL := 4) (ty := .int) (by decide) rfl (Nat.le_of_ble_eq_true rfl) ?_
  intro P0 e0 s0 m0 a0 b0 t0 c0 A0 Q0 ls F hK hP hD hA RETN hl
  obtain ⟨hx, hb, hml, hown, hts⟩ := id F
  have hS : va_S A0 s0.heap s0.heap [] := va_S.rf
  have hl : lv_has ls 4 [(0, .ref (a 0))] := hl
  refine lv_iconst (v := (nI 0)) hx hb dX2_longestFreeRun_0 (by decide) ?_
  refine lv_istore_n (lv' := [(1, .int (nI 0)), (0, .ref (a 0))]) hx hb dX2_longestFreeRun_1 rfl hl (by decide) rfl (fun ls hl => ?_)
  refine lv_iconst (v := (nI 0)) hx hb dX2_longestFreeRun_2 (by decide) ?_
  refine lv_istore_n (lv' := [(2, .int (nI 0)), (1, .int (nI 0)), (0, .ref (a 0))]) hx hb dX2_longestFreeRun_3 rfl hl (by decide) rfl (fun ls hl => ?_)
  refine lv_iconst (v := (nI 0)) hx hb dX2_longestFreeRun_4 (by decide) ?_
  refine lv_istore_n (lv' := [(3, .int (nI 0)), (2, .int (nI 0)), (1, .int (nI 0)), (0, .ref (a 0))]) hx hb dX2_longestFreeRun_5 rfl hl (by decide) rfl (fun ls hl => ?_)
  have LP6 : ∀ (nn : Nat) (sl : Nat) (q : Nat) (mx : Nat) (n : Nat) (H : Heap) (locs : List Loc) (ls : Array Slot), (sl ≤ 320) → (q ≤ sl ∧ mx ≤ sl) → (rsg f 320 0 0 0 0 = rsg f (320 - sl) sl q n mx) → 320 - sl < nn → va_P D vwCl (SW a cI cG V) H → va_D A0 (SW a cI cG V) → va_S A0 s0.heap H locs → lv_has ls 4 [(3, .int (nI sl)), (2, .int (nI q)), (1, .int (nI mx)), (0, .ref (a 0))] → W P0 l e0 { frames := 2, cells := 0, slots := 0, locals := 41 } s0 m0 a0 b0 t0 c0 H locs 0 0 Q0 (F0 m0 6 ls []) := by
    intro nn
    induction nn with
    | zero => intro sl q mx n H locs ls hs hq ha hmu; exact absurd hmu (Nat.not_lt_zero _)
    | succ nn ih6 =>
      intro sl q mx n H locs ls hs hq ha hmu6 hP hD hS hl
      refine lv_iload_n hx hb dX2_longestFreeRun_6 rfl (lv_at hl 0 rfl) ?_
      refine lv_sipush (v := (nI 320)) hx hb dX2_longestFreeRun_7 (by decide) ?_
      refine lv_icmp_ge (tgt := 41) hx hb dX2_longestFreeRun_10 (by decide) (fun c10 => ?_) (fun c10 => ?_)
      · skip
        replace c10 : 320 ≤ sl := by rw [nI_leI (by omega) (by omega)] at c10; exact c10
        refine lv_iload_n hx hb dX2_longestFreeRun_41 rfl (lv_at hl 2 rfl) ?_
        exact RETN _ _ (nI mx) () _ _ dX2_longestFreeRun_42 (rfl) (by rw [ha, rsg_e (by omega)]) hP hD hS
      · skip
        replace c10 : ¬ (320 ≤ sl) := by rw [nI_leI (by omega) (by omega)] at c10; exact c10
        refine lv_aload_n hx hb dX2_longestFreeRun_13 rfl (lv_at hl 3 rfl) ?_
        refine lv_iload_n hx hb dX2_longestFreeRun_14 rfl (lv_at hl 0 rfl) ?_
        refine cl_Vi (b := (a 0)) (As := [.int (nI sl)]) (rest := []) (wc := SW a cI cG V) (wsN := fun (_ : Unit) => SW a cI cG V) F hK hA hP hD hS (c_X2_isFree R (by omega)) (cwV 1 hts gX2_longestFreeRun_X2_isFree rfl rfl rfl (by decide +kernel) ⟨Nat.le_of_ble_eq_true rfl, Nat.le_of_ble_eq_true rfl⟩) [0, 1, 2, 3, 4, 5, 6, 7] [] [0, 1, 2, 3, 4, 5, 6, 7] ([]) rfl rfl (fun _ => rfl) (by decide) (by decide) 0 rfl rfl rfl hl.1 rfl (Nat.le_of_ble_eq_true rfl) ⟨Nat.zero_le _, Nat.zero_le _⟩ dX2_longestFreeRun_15 (fun r_2 _ H locs hw_1 hP hD hS => ?_)
        try dsimp only at hw_1 hP hD
        obtain rfl : r_2 = (bI (fr f sl)) := hw_1
        refine lv_if_eq (tgt := 27) hx hb dX2_longestFreeRun_18 (by decide) (fun c18 => ?_) (fun c18 => ?_)
        · skip
          replace c18 : (bI (fr f sl)) = nI 0 := c18
          refine lv_iconst (v := (nI 0)) hx hb dX2_longestFreeRun_27 (by decide) ?_
          refine lv_istore_n (lv' := [(2, .int (nI 0)), (3, .int (nI sl)), (1, .int (nI mx)), (0, .ref (a 0))]) hx hb dX2_longestFreeRun_28 rfl hl (by decide) rfl (fun ls hl => ?_)
          refine lv_iload_n hx hb dX2_longestFreeRun_29 rfl (lv_at hl 2 rfl) ?_
          refine lv_iload_n hx hb dX2_longestFreeRun_30 rfl (lv_at hl 0 rfl) ?_
          refine va_mmax hx hb (hml.trans hl.1.symm) hown (hts (.methodLink RX2 106 Lib.Math.max.name) (by decide +kernel)) (hts (.static Lib.Math.max.name) (by decide +kernel)) (hts (.initialized "java/lang/Math") (by decide +kernel)) (hts (.code Lib.Math.max.name Lib.Math.max.code 2 (some .int)) (by decide +kernel)) (Nat.le_of_ble_eq_true rfl) (Nat.le_of_ble_eq_true rfl) (Nat.zero_le _) (Nat.zero_le _) dX2_longestFreeRun_31 ?_
          refine n_as (x' := (nI (if mx < 0 then 0 else mx))) (mxN (by omega) (by omega)) ?_
          refine lv_istore_n (lv' := [(1, .int (nI (if mx < 0 then 0 else mx))), (2, .int (nI 0)), (3, .int (nI sl)), (0, .ref (a 0))]) hx hb dX2_longestFreeRun_34 rfl hl (by decide) rfl (fun ls hl => ?_)
          refine lv_iinc (v := (nI (sl + 1))) (lv' := [(3, .int (nI (sl + 1))), (1, .int (nI (if mx < 0 then 0 else mx))), (2, .int (nI 0)), (0, .ref (a 0))]) hx hb dX2_longestFreeRun_35 hl (k := 2) rfl (n_inc1 _) (by decide) rfl (fun ls hl => ?_)
          refine lv_goto (tgt := 6) hx hb dX2_longestFreeRun_38 (by decide) ?_
          exact ih6 (sl + 1) 0 (if mx < 0 then 0 else mx) (n + (if (if f sl = nI 0 then q + 1 else 0) = 1 then 1 else 0)) _ _ _ (by omega) (by split <;> omega) (by rw [ha]; first | (rw [if_neg (of_decide_eq_false (bI_cf c18))]; exact rsg_s (by omega) (by rw [if_neg (of_decide_eq_false (bI_cf c18))]) rfl rfl) | (rw [if_pos (of_decide_eq_true (bI_ct c18))]; exact rsg_s (by omega) (by rw [if_pos (of_decide_eq_true (bI_ct c18))]) rfl rfl)) (by omega) hP hD hS (lv_sub hl [0, 2, 1, 3] rfl)
        · skip
          replace c18 : ¬ (bI (fr f sl)) = nI 0 := c18
          refine lv_iload_n hx hb dX2_longestFreeRun_21 rfl (lv_at hl 1 rfl) ?_
          refine lv_iconst (v := (nI 1)) hx hb dX2_longestFreeRun_22 (by decide) ?_
          refine lv_iadd hx hb dX2_longestFreeRun_23 ?_
          refine n_as (x' := nI (q + 1)) (nI_add _ _) ?_
          refine lv_goto (tgt := 28) hx hb dX2_longestFreeRun_24 (by decide) ?_
          refine lv_istore_n (lv' := [(2, .int (nI (q + 1))), (3, .int (nI sl)), (1, .int (nI mx)), (0, .ref (a 0))]) hx hb dX2_longestFreeRun_28 rfl hl (by decide) rfl (fun ls hl => ?_)
          refine lv_iload_n hx hb dX2_longestFreeRun_29 rfl (lv_at hl 2 rfl) ?_
          refine lv_iload_n hx hb dX2_longestFreeRun_30 rfl (lv_at hl 0 rfl) ?_
          refine va_mmax hx hb (hml.trans hl.1.symm) hown (hts (.methodLink RX2 106 Lib.Math.max.name) (by decide +kernel)) (hts (.static Lib.Math.max.name) (by decide +kernel)) (hts (.initialized "java/lang/Math") (by decide +kernel)) (hts (.code Lib.Math.max.name Lib.Math.max.code 2 (some .int)) (by decide +kernel)) (Nat.le_of_ble_eq_true rfl) (Nat.le_of_ble_eq_true rfl) (Nat.zero_le _) (Nat.zero_le _) dX2_longestFreeRun_31 ?_
          refine n_as (x' := (nI (if mx < (q + 1) then (q + 1) else mx))) (mxN (by omega) (by omega)) ?_
          refine lv_istore_n (lv' := [(1, .int (nI (if mx < (q + 1) then (q + 1) else mx))), (2, .int (nI (q + 1))), (3, .int (nI sl)), (0, .ref (a 0))]) hx hb dX2_longestFreeRun_34 rfl hl (by decide) rfl (fun ls hl => ?_)
          refine lv_iinc (v := (nI (sl + 1))) (lv' := [(3, .int (nI (sl + 1))), (1, .int (nI (if mx < (q + 1) then (q + 1) else mx))), (2, .int (nI (q + 1))), (0, .ref (a 0))]) hx hb dX2_longestFreeRun_35 hl (k := 2) rfl (n_inc1 _) (by decide) rfl (fun ls hl => ?_)
          refine lv_goto (tgt := 6) hx hb dX2_longestFreeRun_38 (by decide) ?_
          exact ih6 (sl + 1) (q + 1) (if mx < (q + 1) then (q + 1) else mx) (n + (if (if f sl = nI 0 then q + 1 else 0) = 1 then 1 else 0)) _ _ _ (by omega) (by split <;> omega) (by rw [ha]; first | (rw [if_neg (of_decide_eq_false (bI_cf c18))]; exact rsg_s (by omega) (by rw [if_neg (of_decide_eq_false (bI_cf c18))]) rfl rfl) | (rw [if_pos (of_decide_eq_true (bI_ct c18))]; exact rsg_s (by omega) (by rw [if_pos (of_decide_eq_true (bI_ct c18))]) rfl rfl)) (by omega) hP hD hS (lv_sub hl [0, 2, 1, 3] rfl)
  exact LP6 _ 0 0 0 0 _ _ _ (by omega) (by omega) (rfl) (Nat.lt_succ_self _) hP hD hS (lv_sub hl [0, 1, 2, 3] rfl)
set_option maxHeartbeats 4000000 in
set_option maxRecDepth 100000 in
theorem c_X2_hasBlock {l : Launch} {D : va_G} {cI cG cC cR : ClassId} {a : Nat → Nat} {f : Nat → Int32} {V : Nat → Nat → Int32} {v : Int32} (R : RepZ f V) (hz : BZ f) : CtI l yX2_hasBlock wsX2_hasBlock { frames := 0, cells := 0, slots := 0, locals := 0 } D (TY cI cG cC cR) [.ref (a 0), .int v] (SW a cI cG V) (fun (_ : Unit) => SW a cI cG V) (fun (r : Int32) (_ : Unit) => r = bI (isB f v)) := by
  refine CtI.of (cc := cX2_hasBlock) (maxL := 2) (ty := .boolean) (by decide) rfl (Nat.le_of_ble_eq_true rfl) ?_
  intro P0 e0 s0 m0 a0 b0 t0 c0 A0 Q0 ls F hK hP hD hA RETN hl
  obtain ⟨hx, hb, hml, hown, hts⟩ := id F
  have hS : va_S A0 s0.heap s0.heap [] := va_S.rf
  have hl : lv_has ls 2 [(0, .ref (a 0)), (1, .int v)] := hl
  have lk20 := hts (.fieldLink RX2 20 "SlotMaps$Slots" "blockSize" "[I") (by decide +kernel)
  have hI2 : ∀ w ∈ u_ws RX2 TX2 5, w ∈ wsX2_hasBlock := by decide +kernel
  refine lv_iload_n hx hb dX2_hasBlock_0 rfl (lv_at hl 1 rfl) ?_
  refine lv_if_lt (tgt := 23) hx hb dX2_hasBlock_1 (by decide) (fun c1 => ?_) (fun c1 => ?_)
  · skip
    refine lv_iconst (v := (nI 0)) hx hb dX2_hasBlock_23 (by decide) ?_
    exact RETN _ _ (nI 0) () _ _ dX2_hasBlock_24 (rfl) (bI_f (isB_n (inB_f1 c1))) hP hD hS
  · skip
    refine lv_iload_n hx hb dX2_hasBlock_4 rfl (lv_at hl 1 rfl) ?_
    refine lv_bipush (v := (nI 8)) hx hb dX2_hasBlock_5 (by decide) ?_
    refine lv_icmp_ge (tgt := 23) hx hb dX2_hasBlock_7 (by decide) (fun c7 => ?_) (fun c7 => ?_)
    · skip
      refine lv_iconst (v := (nI 0)) hx hb dX2_hasBlock_23 (by decide) ?_
      exact RETN _ _ (nI 0) () _ _ dX2_hasBlock_24 (rfl) (bI_f (isB_n (inB_e (b := 7) (by decide) c7))) hP hD hS
    · skip
      obtain ⟨kb, hlo_kb, hhi_kb, rfl⟩ := inB_nat (by decide) (by decide) (inB_el (b := 7) (by decide) c1 c7)
      have hv5 := (R kb (by omega)).1
      refine lv_aload_n hx hb dX2_hasBlock_10 rfl (lv_at hl 0 rfl) ?_
      refine va_get (D := D) (ci := 2) (v := .ref (a 3)) (C := RX2) (T := TX2) (N := 5) hx hb hts hI2 hown hK.1 hP 0 rfl rfl 2 (by decide) lk20 (fun _ h9 => h9) rfl dX2_hasBlock_11 ?_
      refine lv_iload_n hx hb dX2_hasBlock_14 rfl (lv_at hl 1 rfl) ?_
      refine n_iald hx hb hK hP 3 0 rfl rfl (by decide) (by omega) dX2_hasBlock_15 ?_
      refine lv_if_eq (tgt := 23) hx hb dX2_hasBlock_16 (by decide) (fun c16 => ?_) (fun c16 => ?_)
      · skip
        replace c16 : ((V 5) kb) = nI 0 := c16
        refine lv_iconst (v := (nI 0)) hx hb dX2_hasBlock_23 (by decide) ?_
        exact RETN _ _ (nI 0) () _ _ dX2_hasBlock_24 (rfl) (bI_f (by rw [isB_k hhi_kb]; exact decide_eq_false (by rw [← hv5, c16]; decide))) hP hD hS
      · skip
        replace c16 : ¬ ((V 5) kb) = nI 0 := c16
        refine lv_iconst (v := (nI 1)) hx hb dX2_hasBlock_19 (by decide) ?_
        refine lv_goto (tgt := 24) hx hb dX2_hasBlock_20 (by decide) ?_
        exact RETN _ _ (nI 1) () _ _ dX2_hasBlock_24 (rfl) (bI_t (by rw [isB_k hhi_kb]; exact decide_eq_true ((hz kb (by omega)).resolve_left (fun q => c16 (by rw [hv5, q]))))) hP hD hS
set_option maxHeartbeats 4000000 in
set_option maxRecDepth 100000 in
theorem c_X2_blockTotal {l : Launch} {D : va_G} {cI cG cC cR : ClassId} {a : Nat → Nat} {f : Nat → Int32} {V : Nat → Nat → Int32} (R : RepZ f V) (hz : BZ f) : CtI l yX2_blockTotal wsX2_blockTotal { frames := 1, cells := 0, slots := 0, locals := 21 } D (TY cI cG cC cR) [.ref (a 0)] (SW a cI cG V) (fun (_ : Unit) => SW a cI cG V) (fun (r : Int32) (_ : Unit) => r = nI (blN f 8)) := by
  refine CtI.of (cc := cX2_blockTotal) (maxL := 3) (ty := .int) (by decide) rfl (Nat.le_of_ble_eq_true rfl) ?_
  intro P0 e0 s0 m0 a0 b0 t0 c0 A0 Q0 ls F hK hP hD hA RETN hl
  obtain ⟨hx, hb, hml, hown, hts⟩ := id F
  have hS : va_S A0 s0.heap s0.heap [] := va_S.rf
  have hl : lv_has ls 3 [(0, .ref (a 0))] := hl
  refine lv_iconst (v := (nI 0)) hx hb dX2_blockTotal_0 (by decide) ?_
  refine lv_istore_n (lv' := [(1, .int (nI 0)), (0, .ref (a 0))]) hx hb dX2_blockTotal_1 rfl hl (by decide) rfl (fun ls hl => ?_)
  refine lv_iconst (v := (nI 0)) hx hb dX2_blockTotal_2 (by decide) ?_
  refine lv_istore_n (lv' := [(2, .int (nI 0)), (1, .int (nI 0)), (0, .ref (a 0))]) hx hb dX2_blockTotal_3 rfl hl (by decide) rfl (fun ls hl => ?_)
  have LP4 : ∀ (nn : Nat) (w : Nat) (n : Nat) (H : Heap) (locs : List Loc) (ls : Array Slot), (w ≤ 8) → (n = blN f w) → 8 - w < nn → va_P D vwCl (SW a cI cG V) H → va_D A0 (SW a cI cG V) → va_S A0 s0.heap H locs → lv_has ls 3 [(2, .int (nI w)), (1, .int (nI n)), (0, .ref (a 0))] → W P0 l e0 { frames := 1, cells := 0, slots := 0, locals := 21 } s0 m0 a0 b0 t0 c0 H locs 0 0 Q0 (F0 m0 4 ls []) := by
    intro nn
    induction nn with
    | zero => intro w n H locs ls hw hn hmu; exact absurd hmu (Nat.not_lt_zero _)
    | succ nn ih4 =>
      intro w n H locs ls hw hn hmu4 hP hD hS hl
      refine lv_iload_n hx hb dX2_blockTotal_4 rfl (lv_at hl 0 rfl) ?_
      refine lv_bipush (v := (nI 8)) hx hb dX2_blockTotal_5 (by decide) ?_
      refine lv_icmp_ge (tgt := 27) hx hb dX2_blockTotal_7 (by decide) (fun c7 => ?_) (fun c7 => ?_)
      · skip
        replace c7 : 8 ≤ w := by rw [nI_leI (by omega) (by omega)] at c7; exact c7
        refine lv_iload_n hx hb dX2_blockTotal_27 rfl (lv_at hl 1 rfl) ?_
        exact RETN _ _ (nI n) () _ _ dX2_blockTotal_28 (rfl) (by rw [hn, show w = 8 by omega]) hP hD hS
      · skip
        replace c7 : ¬ (8 ≤ w) := by rw [nI_leI (by omega) (by omega)] at c7; exact c7
        refine lv_aload_n hx hb dX2_blockTotal_10 rfl (lv_at hl 2 rfl) ?_
        refine lv_iload_n hx hb dX2_blockTotal_11 rfl (lv_at hl 0 rfl) ?_
        refine cl_Vi (b := (a 0)) (As := [.int (nI w)]) (rest := []) (wc := SW a cI cG V) (wsN := fun (_ : Unit) => SW a cI cG V) F hK hA hP hD hS (c_X2_hasBlock R hz) (cwV 1 hts gX2_blockTotal_X2_hasBlock rfl rfl rfl (by decide +kernel) ⟨Nat.le_of_ble_eq_true rfl, Nat.le_of_ble_eq_true rfl⟩) [0, 1, 2, 3, 4, 5, 6, 7] [] [0, 1, 2, 3, 4, 5, 6, 7] ([]) rfl rfl (fun _ => rfl) (by decide) (by decide) 0 rfl rfl rfl hl.1 rfl (Nat.le_of_ble_eq_true rfl) ⟨Nat.zero_le _, Nat.zero_le _⟩ dX2_blockTotal_12 (fun r_2 _ H locs hw_1 hP hD hS => ?_)
        try dsimp only at hw_1 hP hD
        obtain rfl : r_2 = (bI (isB f (nI w))) := hw_1
        refine lv_if_eq (tgt := 21) hx hb dX2_blockTotal_15 (by decide) (fun c15 => ?_) (fun c15 => ?_)
        · skip
          replace c15 : (bI (isB f (nI w))) = nI 0 := c15
          refine lv_iinc (v := (nI (w + 1))) (lv' := [(2, .int (nI (w + 1))), (1, .int (nI n)), (0, .ref (a 0))]) hx hb dX2_blockTotal_21 hl (k := 0) rfl (n_inc1 _) (by decide) rfl (fun ls hl => ?_)
          refine lv_goto (tgt := 4) hx hb dX2_blockTotal_24 (by decide) ?_
          exact ih4 (w + 1) n _ _ _ (by omega) (by rw [hn]; unfold blN; rw [fb_ct_succ]; first | (rw [bI_cf c15]; rfl) | (rw [bI_ct c15]; rfl)) (by omega) hP hD hS (lv_sub hl [0, 1, 2] rfl)
        · skip
          replace c15 : ¬ (bI (isB f (nI w))) = nI 0 := c15
          refine lv_iinc (v := (nI (n + 1))) (lv' := [(1, .int (nI (n + 1))), (2, .int (nI w)), (0, .ref (a 0))]) hx hb dX2_blockTotal_18 hl (k := 1) rfl (n_inc1 _) (by decide) rfl (fun ls hl => ?_)
          refine lv_iinc (v := (nI (w + 1))) (lv' := [(2, .int (nI (w + 1))), (1, .int (nI (n + 1))), (0, .ref (a 0))]) hx hb dX2_blockTotal_21 hl (k := 1) rfl (n_inc1 _) (by decide) rfl (fun ls hl => ?_)
          refine lv_goto (tgt := 4) hx hb dX2_blockTotal_24 (by decide) ?_
          exact ih4 (w + 1) (n + 1) _ _ _ (by omega) (by rw [hn]; unfold blN; rw [fb_ct_succ]; first | (rw [bI_cf c15]; rfl) | (rw [bI_ct c15]; rfl)) (by omega) hP hD hS (lv_sub hl [0, 1, 2] rfl)
  exact LP4 _ 0 0 _ _ _ (by omega) (rfl) (Nat.lt_succ_self _) hP hD hS (lv_sub hl [0, 1, 2] rfl)
set_option maxHeartbeats 4000000 in
set_option maxRecDepth 100000 in
theorem c_X2_firstUnusedBlock {l : Launch} {D : va_G} {cI cG cC cR : ClassId} {a : Nat → Nat} {f : Nat → Int32} {V : Nat → Nat → Int32} (R : RepZ f V) (hz : BZ f) : CtI l yX2_firstUnusedBlock wsX2_firstUnusedBlock { frames := 1, cells := 0, slots := 0, locals := 21 } D (TY cI cG cC cR) [.ref (a 0)] (SW a cI cG V) (fun (_ : Unit) => SW a cI cG V) (fun (r : Int32) (_ : Unit) => r = oI (ub f)) := by
  refine CtI.of (cc := cX2_firstUnusedBlock) (maxL := 2) (ty := .int) (by decide) rfl (Nat.le_of_ble_eq_true rfl) ?_
  intro P0 e0 s0 m0 a0 b0 t0 c0 A0 Q0 ls F hK hP hD hA RETN hl
  obtain ⟨hx, hb, hml, hown, hts⟩ := id F
  have hS : va_S A0 s0.heap s0.heap [] := va_S.rf
  have hl : lv_has ls 2 [(0, .ref (a 0))] := hl
  refine lv_iconst (v := (nI 0)) hx hb dX2_firstUnusedBlock_0 (by decide) ?_
  refine lv_istore_n (lv' := [(1, .int (nI 0)), (0, .ref (a 0))]) hx hb dX2_firstUnusedBlock_1 rfl hl (by decide) rfl (fun ls hl => ?_)
  have LP2 : ∀ (nn : Nat) (kb : Nat) (H : Heap) (locs : List Loc) (ls : Array Slot), (kb ≤ 8) → (ub f = ls1 (fun k => decide (¬ 0 < f (650 + 2 * k + 1))) (8 - kb) kb) → 8 - kb < nn → va_P D vwCl (SW a cI cG V) H → va_D A0 (SW a cI cG V) → va_S A0 s0.heap H locs → lv_has ls 2 [(1, .int (nI kb)), (0, .ref (a 0))] → W P0 l e0 { frames := 1, cells := 0, slots := 0, locals := 21 } s0 m0 a0 b0 t0 c0 H locs 0 0 Q0 (F0 m0 2 ls []) := by
    intro nn
    induction nn with
    | zero => intro kb H locs ls hkb ha hmu; exact absurd hmu (Nat.not_lt_zero _)
    | succ nn ih2 =>
      intro kb H locs ls hkb ha hmu2 hP hD hS hl
      refine lv_iload_n hx hb dX2_firstUnusedBlock_2 rfl (lv_at hl 0 rfl) ?_
      refine lv_bipush (v := (nI 8)) hx hb dX2_firstUnusedBlock_3 (by decide) ?_
      refine lv_icmp_ge (tgt := 24) hx hb dX2_firstUnusedBlock_5 (by decide) (fun c5 => ?_) (fun c5 => ?_)
      · skip
        replace c5 : 8 ≤ kb := by rw [nI_leI (by omega) (by omega)] at c5; exact c5
        refine lv_bipush (v := (-9)) hx hb dX2_firstUnusedBlock_24 (by decide) ?_
        exact RETN _ _ (-9) () _ _ dX2_firstUnusedBlock_26 (rfl) (by rw [ha, ls1_end _ (by omega)]; rfl) hP hD hS
      · skip
        replace c5 : ¬ (8 ≤ kb) := by rw [nI_leI (by omega) (by omega)] at c5; exact c5
        refine lv_aload_n hx hb dX2_firstUnusedBlock_8 rfl (lv_at hl 1 rfl) ?_
        refine lv_iload_n hx hb dX2_firstUnusedBlock_9 rfl (lv_at hl 0 rfl) ?_
        refine cl_Vi (b := (a 0)) (As := [.int (nI kb)]) (rest := []) (wc := SW a cI cG V) (wsN := fun (_ : Unit) => SW a cI cG V) F hK hA hP hD hS (c_X2_hasBlock R hz) (cwV 1 hts gX2_firstUnusedBlock_X2_hasBlock rfl rfl rfl (by decide +kernel) ⟨Nat.le_of_ble_eq_true rfl, Nat.le_of_ble_eq_true rfl⟩) [0, 1, 2, 3, 4, 5, 6, 7] [] [0, 1, 2, 3, 4, 5, 6, 7] ([]) rfl rfl (fun _ => rfl) (by decide) (by decide) 0 rfl rfl rfl hl.1 rfl (Nat.le_of_ble_eq_true rfl) ⟨Nat.zero_le _, Nat.zero_le _⟩ dX2_firstUnusedBlock_10 (fun r_2 _ H locs hw_1 hP hD hS => ?_)
        try dsimp only at hw_1 hP hD
        obtain rfl : r_2 = (bI (isB f (nI kb))) := hw_1
        refine lv_if_ne (tgt := 18) hx hb dX2_firstUnusedBlock_13 (by decide) (fun c13 => ?_) (fun c13 => ?_)
        · skip
          replace c13 : ¬ (bI (isB f (nI kb))) = nI 0 := c13
          have hb1 := bI_ct c13
          rw [isB_k (by omega)] at hb1
          refine lv_iinc (v := (nI (kb + 1))) (lv' := [(1, .int (nI (kb + 1))), (0, .ref (a 0))]) hx hb dX2_firstUnusedBlock_18 hl (k := 0) rfl (n_inc1 _) (by decide) rfl (fun ls hl => ?_)
          refine lv_goto (tgt := 2) hx hb dX2_firstUnusedBlock_21 (by decide) ?_
          exact ih2 (kb + 1) _ _ _ (by omega) (by rw [ha, ls1_no (by omega) (decide_eq_false (fun q => q (of_decide_eq_true hb1)))]) (by omega) hP hD hS (lv_sub hl [0, 1] rfl)
        · skip
          replace c13 : (bI (isB f (nI kb))) = nI 0 := c13
          have hb0 := bI_cf c13
          rw [isB_k (by omega)] at hb0
          refine lv_iload_n hx hb dX2_firstUnusedBlock_16 rfl (lv_at hl 0 rfl) ?_
          exact RETN _ _ (nI kb) () _ _ dX2_firstUnusedBlock_17 (rfl) (by rw [ha, ls1_yes (by omega) (decide_eq_true (of_decide_eq_false hb0))]; rfl) hP hD hS
  exact LP2 _ 0 _ _ _ (by omega) (rfl) (Nat.lt_succ_self _) hP hD hS (lv_sub hl [0, 1] rfl)
