/-! THE CLASS'S SLOTS: the world of one, and what its cells say of the map f -/
/-- the rows of bits, one a kind -/
def gr (a : Nat → Nat) : Nat → Option Nat := fun i => if i < 4 then some (a (4 + i)) else none
/-- the cells of one Slots: V 0 to V 3 the bits of the kinds, V 4 the blocks' first slots, V 5 their sizes, V 6 the summary and the looks -/
abbrev SW (a : Nat → Nat) (cI cG : ClassId) (V : Nat → Nat → Int32) : va_W :=
  [(a 0, .inr (2, [.ref (a 1), .ref (a 2), .ref (a 3), .int (V 6 0), .int (V 6 1)])), (a 1, .inl (cG, 4, .inr (.inr (.inr (.inr (gr a)))))), (a 2, .inl (cI, 8, .inl (V 4))), (a 3, .inl (cI, 8, .inl (V 5))), (a 4, .inl (cI, 10, .inl (V 0))), (a 5, .inl (cI, 10, .inl (V 1))), (a 6, .inl (cI, 10, .inl (V 2))), (a 7, .inl (cI, 10, .inl (V 3)))]
def vset (V : Nat → Nat → Int32) (k : Nat) (g : Nat → Int32) : Nat → Nat → Int32 := fun j => if j = k then g else V j
theorem vset_s (V : Nat → Nat → Int32) (k : Nat) (g : Nat → Int32) : vset V k g k = g := if_pos rfl
theorem vset_n (V : Nat → Nat → Int32) {k j : Nat} (g : Nat → Int32) (h : j ≠ k) : vset V k g j = V j := if_neg h
theorem sw_at {a : Nat → Nat} {cI cG : ClassId} {V : Nat → Nat → Int32} {k : Nat} (h : k < 4) : (SW a cI cG V)[4 + k]? = some (a (4 + k), .inl (cI, 10, .inl (V k))) := by
  rcases (show k = 0 ∨ k = 1 ∨ k = 2 ∨ k = 3 by omega) with rfl | rfl | rfl | rfl <;> rfl
theorem sw_set {a : Nat → Nat} {cI cG : ClassId} {V : Nat → Nat → Int32} {k : Nat} {g : Nat → Int32} (h : k < 4) : (SW a cI cG V).set (4 + k) (a (4 + k), .inl (cI, 10, .inl g)) = SW a cI cG (vset V k g) := by
  rcases (show k = 0 ∨ k = 1 ∨ k = 2 ∨ k = 3 by omega) with rfl | rfl | rfl | rfl <;> rfl
/-- the kinds of the slots, as bits -/
def RepK (f : Nat → Int32) (V : Nat → Nat → Int32) : Prop := ∀ k w i, k < 4 → w < 10 → i < 32 → bt (V k w) i = decide (f (32 * w + i) = nI k)
/-- the summary -/
def RepB (f : Nat → Int32) (V : Nat → Nat → Int32) : Prop := (∀ w, w < 10 → bt (V 6 0) w = decide (f (640 + w) = nI 1)) ∧ ∀ i, 10 ≤ i → bt (V 6 0) i = false
/-- the blocks -/
def RepZ (f : Nat → Int32) (V : Nat → Nat → Int32) : Prop := ∀ b, b < 8 → V 5 b = f (650 + 2 * b + 1) ∧ (∃ p, p < 320 ∧ V 4 b = nI p) ∧ (¬ V 5 b = nI 0 → V 4 b = f (650 + 2 * b))
/-- V holds the map f -/
def RepS (f : Nat → Int32) (V : Nat → Nat → Int32) : Prop := RepK f V ∧ RepB f V ∧ V 6 1 = f 666 ∧ RepZ f V
theorem rep_zero {f : Nat → Int32} {V : Nat → Nat → Int32} (R : RepK f V) {k w : Nat} (hk : k < 4) (hw : w < 10) : V k w = nI 0 ↔ cw f w (nI k) = 0 := by
  unfold cw
  rw [fb_ct_zero]
  constructor
  · intro h i hi
    rw [← R k w i hk hw hi, h]
    exact b_0 i
  · intro h
    refine b_ext (fun i hi => ?_)
    rw [R k w i hk hw hi, h i hi]
    exact (b_0 i).symm
theorem rep_pc {f : Nat → Int32} {V : Nat → Nat → Int32} (R : RepK f V) {k w : Nat} (hk : k < 4) (hw : w < 10) : pc (V k w) = cw f w (nI k) := fb_ct_cong (fun i hi => R k w i hk hw hi)
/-- the lowest bit, by the class's way -/
def lw (x : Int32) : Nat := pc ((x ^^^ (-1)) &&& (x - nI 1))
theorem rep_low {f : Nat → Int32} {V : Nat → Nat → Int32} (R : RepK f V) {k w s : Nat} (hk : k < 4) (hw : w < 10) (h : ls1 (fun s => decide (f s = nI k)) 32 (32 * w) = some s) : lw (V k w) = s - 32 * w ∧ 32 * w ≤ s ∧ s < 32 * w + 32 := by
  obtain ⟨h1, h2, h3, h4⟩ := ls1_some h
  refine ⟨low_pc (by omega) ?_ (fun j hj => ?_), h1, h2⟩
  · rw [R k w _ hk hw (by omega), show 32 * w + (s - 32 * w) = s by omega]
    exact h3
  · rw [R k w _ hk hw (by omega)]
    exact h4 (32 * w + j) (by omega) (by omega)
def b1 (i : Nat) : Int32 := nI 1 <<< (nI i &&& 31)
theorem bt_1 : ∀ i, i < 32 → bt (nI 1) i = decide (i = 0) := by decide +kernel
theorem b1_bt {i j : Nat} (hi : i < 32) (hj : j < 32) : bt (b1 i) j = decide (j = i) := by
  unfold b1
  rw [b_shl i hi _ hj]
  by_cases e : j = i
  · rw [e, Nat.sub_self, bt_1 0 (by decide)]; simp
  · by_cases e2 : i ≤ j
    · rw [bt_1 _ (by omega)]
      simp [e2, e]
      omega
    · simp [e2, e]
theorem sum_bit {x : Int32} {w : Nat} (hw : w < 31) : (x >>> (nI w &&& 31)) &&& nI 1 = bI (bt x w) := by
  refine b_ext (fun i hi => ?_)
  rw [b_and, b_sshr w (by omega) x hi, bt_1 i hi]
  by_cases e : i = 0
  · rw [e, if_pos (by omega)]
    cases h : bt x w <;> simp [h, bI] <;> decide
  · have h0 : bt (bI (bt x w)) i = false := by
      unfold bI
      split
      · rw [show (1 : Int32) = nI 1 from rfl, bt_1 i hi]; simp [e]
      · exact b_0 i
    rw [h0]
    simp [e]
/-- the slots of word w that are bits of m -/
def mP (w : Nat) (m : Int32) : Nat → Bool := fun j => decide (j / 32 = w) && bt m (j % 32)
theorem mP_at {w i : Nat} {m : Int32} (hi : i < 32) : mP w m (32 * w + i) = bt m i := by
  unfold mP
  rw [show (32 * w + i) / 32 = w by omega, show (32 * w + i) % 32 = i by omega]
  simp
theorem mP_out {w x i : Nat} {m : Int32} (hi : i < 32) (h : x ≠ w) : mP w m (32 * x + i) = false := by
  unfold mP
  rw [show (32 * x + i) / 32 = x by omega]
  simp [h]
theorem mP_any {w x : Nat} {m : Int32} (hm : ¬ m = nI 0) : anyB (mP w m) x = decide (x = w) := by
  by_cases e : x = w
  · rw [e, decide_eq_true rfl, anyB_iff]
    have : 0 < fb_ct (bt m) 32 := by
      rcases Nat.eq_zero_or_pos (fb_ct (bt m) 32) with q | q
      · rw [fb_ct_zero] at q
        exact absurd (b_ext (fun i hi => by rw [q i hi]; exact (b_0 i).symm)) hm
      · exact q
    obtain ⟨i, h1, h2⟩ := fb_ct_pos.mp this
    exact ⟨i, h1, by rw [mP_at h1]; exact h2⟩
  · rw [decide_eq_false e]
    exact anyB_none (fun i hi => mP_out hi e)
theorem mP_0 {w j : Nat} : mP w (nI 0) j = false := by
  unfold mP
  rw [show bt (nI 0) (j % 32) = false from b_0 _]
  simp
/-- a change of one word's slots m, from kind fk to kind tk: the bits behind -/
theorem ch_K {f : Nat → Int32} {V V1 V2 : Nat → Nat → Int32} {w fk tk : Nat} {m : Int32} (R : RepK f V) (hw : w < 10) (hf : fk < 4) (ht : tk < 4) (hft : fk ≠ tk) (hm : ∀ i, i < 32 → bt m i = true → f (32 * w + i) = nI fk)
    (h1 : V1 = vset V fk (upd (V fk) w (V fk w &&& (m ^^^ (-1))))) (h2 : V2 = vset V1 tk (upd (V1 tk) w (V1 tk w ||| m))) : RepK (bec f (mP w m) (fun _ => nI tk)) V2 := by
  intro k x i hk hx hi
  rw [bec_slot (by omega)]
  have hne : ∀ c d : Nat, c < 4 → d < 4 → (nI c = nI d ↔ c = d) := fun c d hc hd => nI_eq (by omega) (by omega)
  by_cases ex : x = w
  · subst ex
    rw [mP_at hi]
    have hV1 : ∀ k, k ≠ fk → V1 k = V k := fun k e => by rw [h1, vset_n _ _ e]
    by_cases ek : k = tk
    · subst ek
      rw [h2, vset_s, upd_s, hV1 _ (Ne.symm hft), b_or, R k x i hk hx hi]
      cases e : bt m i <;> simp
    · rw [h2, vset_n _ _ ek]
      by_cases ef : k = fk
      · subst ef
        rw [h1, vset_s, upd_s, b_and, b_xor, b_m1 i hi, R k x i hk hx hi]
        cases e : bt m i with
        | false => simp
        | true => simp [hne tk k ht hk]; intro q; exact ek q.symm
      · rw [hV1 _ ef, R k x i hk hx hi]
        cases e : bt m i with
        | false => simp
        | true =>
          simp only [if_true]
          rw [hm i hi e]
          simp [hne fk k hf hk, hne tk k ht hk, Ne.symm ef, Ne.symm ek]
  · rw [mP_out hi ex]
    have e2 : V2 k x = V k x := by
      rw [h2]
      by_cases ek : k = tk
      · rw [ek, vset_s, upd_n _ _ ex, h1, vset_n _ _ (Ne.symm hft)]
      · rw [vset_n _ _ ek, h1]
        by_cases ef : k = fk
        · rw [ef, vset_s, upd_n _ _ ex]
        · rw [vset_n _ _ ef]
    rw [e2, R k x i hk hx hi]
    simp
/-- what stands beside the bits of the kinds -/
def sameZ (V W : Nat → Nat → Int32) : Prop := W 4 = V 4 ∧ W 5 = V 5 ∧ W 6 = V 6
theorem ch_Z {V V1 V2 : Nat → Nat → Int32} {fk tk : Nat} {g1 g2 : Nat → Int32} (hf : fk < 4) (ht : tk < 4) (h1 : V1 = vset V fk g1) (h2 : V2 = vset V1 tk g2) : sameZ V V2 := by
  refine ⟨?_, ?_, ?_⟩ <;> rw [h2, vset_n _ _ (by omega), h1, vset_n _ _ (by omega)]
theorem RepZ_of {f g : Nat → Int32} {V W : Nat → Nat → Int32} (h4 : W 4 = V 4) (h5 : W 5 = V 5) (hg : ∀ j, 650 ≤ j → j < 666 → g j = f j) (R : RepZ f V) : RepZ g W := by
  intro b hb
  rw [h4, h5, hg _ (by omega) (by omega), hg _ (by omega) (by omega)]
  exact R b hb
/-- the whole of a change -/
theorem ch_S {f : Nat → Int32} {V V2 V3 : Nat → Nat → Int32} {w tk : Nat} {m x : Int32} (R : RepS f V) (hw : w < 10) (hz : sameZ V V2) (hm0 : ¬ m = nI 0) (K : RepK (bec f (mP w m) (fun _ => nI tk)) V2) (h3 : V3 = vset V2 6 (upd (V2 6) 0 x))
    (hx : ∀ i, i < 32 → bt x i = if i = w then decide (rt (bec f (mP w m) (fun _ => nI tk)) w = nI 1) else bt (V 6 0) i) : RepS (bec f (mP w m) (fun _ => nI tk)) V3 := by
  obtain ⟨-, ⟨rb1, rb2⟩, rl, rz⟩ := R
  have e6 : V3 6 0 = x := by rw [h3, vset_s, upd_s]
  refine ⟨fun k y i hk hy hi => ?_, ⟨fun y hy => ?_, fun i hi => ?_⟩, ?_, ?_⟩
  · rw [h3, vset_n _ _ (by omega)]
    exact K k y i hk hy hi
  · rw [e6, hx y (by omega)]
    by_cases e : y = w
    · have er : rt (bec f (mP w m) (fun _ => nI tk)) w = rt (chg f (mP w m) (fun _ => nI tk)) w := rt_cong (fun i hi => by rw [bec_slot (by omega), chg_slot (by omega)])
      rw [if_pos e, e, bec_bit hw, mP_any hm0, decide_eq_true rfl, if_pos rfl, er]
    · rw [if_neg e, bec_bit hy, mP_any hm0, decide_eq_false e, if_neg (by decide)]
      exact rb1 y hy
  · rw [e6]
    by_cases h32 : i < 32
    · rw [hx i h32, if_neg (by omega)]
      exact rb2 i hi
    · exact b_big (by omega)
  · rw [h3, vset_s, upd_n _ _ (by decide), hz.2.2, rl, bec_own (by decide) (by decide)]
  · exact RepZ_of (by rw [h3, vset_n _ _ (by decide), hz.1]) (by rw [h3, vset_n _ _ (by decide), hz.2.1]) (fun j h1 h2 => bec_own (by omega) (by omega)) rz
theorem or_bit {x : Int32} {w i : Nat} (hw : w < 32) (hi : i < 32) : bt (x ||| b1 w) i = if i = w then true else bt x i := by
  rw [b_or, b1_bt hw hi]
  by_cases e : i = w <;> simp [e]
theorem and_bit {x : Int32} {w i : Nat} (hw : w < 32) (hi : i < 32) : bt (x &&& (b1 w ^^^ (-1))) i = if i = w then false else bt x i := by
  rw [b_and, b_xor, b1_bt hw hi, b_m1 i hi]
  by_cases e : i = w <;> simp [e]
theorem RepS.zero {f : Nat → Int32} {V : Nat → Nat → Int32} {w : Nat} {v : Nat → Int32} (R : RepS f V) : RepS (bec f (mP w (nI 0)) v) V := by
  rw [bec_none (fun _ _ => mP_0)]
  exact R
theorem rt_bI (f : Nat → Int32) (w : Nat) : rt f w = bI (decide (cw f w (nI 0) = 0)) := rfl
theorem rt_1 {f : Nat → Int32} {w : Nat} (h : ¬ rt f w = nI 0) : rt f w = nI 1 := (rt_01 f w).resolve_left h
set_option maxHeartbeats 4000000 in
set_option maxRecDepth 100000 in
theorem c_J6_bitCount_0f7a4 {l : Launch} {D : va_G} {cI cG cC cR : ClassId} {x : Int32} : CtI l yJ6_bitCount_0f7a4 wsJ6_bitCount_0f7a4 { frames := 0, cells := 0, slots := 0, locals := 0 } D (TY cI cG cC cR) [.int x] ([]) (fun (_ : Unit) => []) (fun (r : Int32) (_ : Unit) => r = nI (pc x)) := by
  refine CtI.of (cc := cJ6_bitCount_0f7a4) (maxL := 1) (ty := .int) (by decide) rfl (Nat.le_of_ble_eq_true rfl) ?_
  intro P0 e0 s0 m0 a0 b0 t0 c0 A0 Q0 ls F hK hP hD hA RETN hl
  obtain ⟨hx, hb, hml, hown, hts⟩ := id F
  have hS : va_S A0 s0.heap s0.heap [] := va_S.rf
  have hl : lv_has ls 1 [(0, .int x)] := hl
  obtain ⟨n, n1, n2, n3, n4, rfl, hn, h1, h1b, hn1, h2, hn2, h3, hn3, h4, hn4, hr⟩ := swar (x := x)
  refine lv_iload_n hx hb dJ6_bitCount_0f7a4_0 rfl (lv_at hl 0 rfl) ?_
  refine lv_iload_n hx hb dJ6_bitCount_0f7a4_1 rfl (lv_at hl 0 rfl) ?_
  refine lv_iconst (v := (nI 1)) hx hb dJ6_bitCount_0f7a4_2 (by decide) ?_
  refine lv_iushr (v := ((((nI n) : Int32).toUInt32 >>> (((nI 1) : Int32).toUInt32 &&& Int32.toUInt32 31)).toInt32)) hx hb dJ6_bitCount_0f7a4_3 rfl ?_
  refine n_as (x' := (nI (n / 2))) (ush hn 1 2 (by decide) rfl) ?_
  refine lv_ldcw (v := 1431655765) hx hb hown (hts (.constant RJ6 265 (1431655765)) (by decide +kernel)) dJ6_bitCount_0f7a4_4 ?_
  refine n_as (x' := (nI 1431655765)) (rfl) ?_
  refine lv_iand hx hb dJ6_bitCount_0f7a4_7 ?_
  refine n_as (x' := (nI (n / 2 &&& 1431655765))) (nb_and _ _) ?_
  refine lv_isub hx hb dJ6_bitCount_0f7a4_8 ?_
  refine n_as (x' := (nI n1)) (by rw [pk_sub h1b, ← h1]) ?_
  refine lv_istore_n (lv' := [(0, .int (nI n1))]) hx hb dJ6_bitCount_0f7a4_9 rfl hl (by decide) rfl (fun ls hl => ?_)
  refine lv_iload_n hx hb dJ6_bitCount_0f7a4_10 rfl (lv_at hl 0 rfl) ?_
  refine lv_ldcw (v := 858993459) hx hb hown (hts (.constant RJ6 266 (858993459)) (by decide +kernel)) dJ6_bitCount_0f7a4_11 ?_
  refine n_as (x' := (nI 858993459)) (rfl) ?_
  refine lv_iand hx hb dJ6_bitCount_0f7a4_14 ?_
  refine n_as (x' := (nI (n1 &&& 858993459))) (nb_and _ _) ?_
  refine lv_iload_n hx hb dJ6_bitCount_0f7a4_15 rfl (lv_at hl 0 rfl) ?_
  refine lv_iconst (v := (nI 2)) hx hb dJ6_bitCount_0f7a4_16 (by decide) ?_
  refine lv_iushr (v := ((((nI n1) : Int32).toUInt32 >>> (((nI 2) : Int32).toUInt32 &&& Int32.toUInt32 31)).toInt32)) hx hb dJ6_bitCount_0f7a4_17 rfl ?_
  refine n_as (x' := (nI (n1 / 4))) (ush hn1 2 4 (by decide) rfl) ?_
  refine lv_ldcw (v := 858993459) hx hb hown (hts (.constant RJ6 266 (858993459)) (by decide +kernel)) dJ6_bitCount_0f7a4_18 ?_
  refine n_as (x' := (nI 858993459)) (rfl) ?_
  refine lv_iand hx hb dJ6_bitCount_0f7a4_21 ?_
  refine n_as (x' := (nI (n1 / 4 &&& 858993459))) (nb_and _ _) ?_
  refine lv_iadd hx hb dJ6_bitCount_0f7a4_22 ?_
  refine n_as (x' := (nI n2)) (by rw [nI_add, ← h2]) ?_
  refine lv_istore_n (lv' := [(0, .int (nI n2))]) hx hb dJ6_bitCount_0f7a4_23 rfl hl (by decide) rfl (fun ls hl => ?_)
  refine lv_iload_n hx hb dJ6_bitCount_0f7a4_24 rfl (lv_at hl 0 rfl) ?_
  refine lv_iload_n hx hb dJ6_bitCount_0f7a4_25 rfl (lv_at hl 0 rfl) ?_
  refine lv_iconst (v := (nI 4)) hx hb dJ6_bitCount_0f7a4_26 (by decide) ?_
  refine lv_iushr (v := ((((nI n2) : Int32).toUInt32 >>> (((nI 4) : Int32).toUInt32 &&& Int32.toUInt32 31)).toInt32)) hx hb dJ6_bitCount_0f7a4_27 rfl ?_
  refine n_as (x' := (nI (n2 / 16))) (ush hn2 4 16 (by decide) rfl) ?_
  refine lv_iadd hx hb dJ6_bitCount_0f7a4_28 ?_
  refine n_as (x' := (nI (n2 + n2 / 16))) (nI_add _ _) ?_
  refine lv_ldcw (v := 252645135) hx hb hown (hts (.constant RJ6 267 (252645135)) (by decide +kernel)) dJ6_bitCount_0f7a4_29 ?_
  refine n_as (x' := (nI 252645135)) (rfl) ?_
  refine lv_iand hx hb dJ6_bitCount_0f7a4_32 ?_
  refine n_as (x' := (nI n3)) (by rw [nb_and, ← h3]) ?_
  refine lv_istore_n (lv' := [(0, .int (nI n3))]) hx hb dJ6_bitCount_0f7a4_33 rfl hl (by decide) rfl (fun ls hl => ?_)
  refine lv_iload_n hx hb dJ6_bitCount_0f7a4_34 rfl (lv_at hl 0 rfl) ?_
  refine lv_iload_n hx hb dJ6_bitCount_0f7a4_35 rfl (lv_at hl 0 rfl) ?_
  refine lv_bipush (v := (nI 8)) hx hb dJ6_bitCount_0f7a4_36 (by decide) ?_
  refine lv_iushr (v := ((((nI n3) : Int32).toUInt32 >>> (((nI 8) : Int32).toUInt32 &&& Int32.toUInt32 31)).toInt32)) hx hb dJ6_bitCount_0f7a4_38 rfl ?_
  refine n_as (x' := (nI (n3 / 256))) (ush hn3 8 256 (by decide) rfl) ?_
  refine lv_iadd hx hb dJ6_bitCount_0f7a4_39 ?_
  refine n_as (x' := (nI n4)) (by rw [nI_add, ← h4]) ?_
  refine lv_istore_n (lv' := [(0, .int (nI n4))]) hx hb dJ6_bitCount_0f7a4_40 rfl hl (by decide) rfl (fun ls hl => ?_)
  refine lv_iload_n hx hb dJ6_bitCount_0f7a4_41 rfl (lv_at hl 0 rfl) ?_
  refine lv_iload_n hx hb dJ6_bitCount_0f7a4_42 rfl (lv_at hl 0 rfl) ?_
  refine lv_bipush (v := (nI 16)) hx hb dJ6_bitCount_0f7a4_43 (by decide) ?_
  refine lv_iushr (v := ((((nI n4) : Int32).toUInt32 >>> (((nI 16) : Int32).toUInt32 &&& Int32.toUInt32 31)).toInt32)) hx hb dJ6_bitCount_0f7a4_45 rfl ?_
  refine n_as (x' := (nI (n4 / 65536))) (ush hn4 16 65536 (by decide) rfl) ?_
  refine lv_iadd hx hb dJ6_bitCount_0f7a4_46 ?_
  refine n_as (x' := (nI (n4 + n4 / 65536))) (nI_add _ _) ?_
  refine lv_istore_n (lv' := [(0, .int (nI (n4 + n4 / 65536)))]) hx hb dJ6_bitCount_0f7a4_47 rfl hl (by decide) rfl (fun ls hl => ?_)
  refine lv_iload_n hx hb dJ6_bitCount_0f7a4_48 rfl (lv_at hl 0 rfl) ?_
  refine lv_bipush (v := (nI 63)) hx hb dJ6_bitCount_0f7a4_49 (by decide) ?_
  refine lv_iand hx hb dJ6_bitCount_0f7a4_51 ?_
  refine n_as (x' := (nI (pc (nI n)))) (by rw [nb_and, show (63 : Nat) = 2 ^ 6 - 1 from rfl, Nat.and_two_pow_sub_one_eq_mod]; exact congrArg nI hr) ?_
  exact RETN _ _ (nI (pc (nI n))) () _ _ dJ6_bitCount_0f7a4_52 (rfl) (rfl) hP hD hS
set_option maxHeartbeats 4000000 in
set_option maxRecDepth 100000 in
theorem c_X3_isRunLength {l : Launch} {D : va_G} {cI cG cC cR : ClassId} {v : Int32} : CtI l yX3_isRunLength wsX3_isRunLength { frames := 0, cells := 0, slots := 0, locals := 0 } D (TY cI cG cC cR) [.int v] ([]) (fun (_ : Unit) => []) (fun (r : Int32) (_ : Unit) => r = bI (inB v (nI 1) (nI 64))) := by
  refine CtI.of (cc := cX3_isRunLength) (maxL := 1) (ty := .boolean) (by decide) rfl (Nat.le_of_ble_eq_true rfl) ?_
  intro P0 e0 s0 m0 a0 b0 t0 c0 A0 Q0 ls F hK hP hD hA RETN hl
  obtain ⟨hx, hb, hml, hown, hts⟩ := id F
  have hS : va_S A0 s0.heap s0.heap [] := va_S.rf
  have hl : lv_has ls 1 [(0, .int v)] := hl
  refine lv_iload_n hx hb dX3_isRunLength_0 rfl (lv_at hl 0 rfl) ?_
  refine lv_iconst (v := (nI 1)) hx hb dX3_isRunLength_1 (by decide) ?_
  refine lv_icmp_lt (tgt := 15) hx hb dX3_isRunLength_2 (by decide) (fun c2 => ?_) (fun c2 => ?_)
  · skip
    refine lv_iconst (v := (nI 0)) hx hb dX3_isRunLength_15 (by decide) ?_
    exact RETN _ _ (nI 0) () _ _ dX3_isRunLength_16 (rfl) (bI_f (inB_f1 c2)) hP hD hS
  · skip
    refine lv_iload_n hx hb dX3_isRunLength_5 rfl (lv_at hl 0 rfl) ?_
    refine lv_bipush (v := (nI 64)) hx hb dX3_isRunLength_6 (by decide) ?_
    refine lv_icmp_gt (tgt := 15) hx hb dX3_isRunLength_8 (by decide) (fun c8 => ?_) (fun c8 => ?_)
    · skip
      refine lv_iconst (v := (nI 0)) hx hb dX3_isRunLength_15 (by decide) ?_
      exact RETN _ _ (nI 0) () _ _ dX3_isRunLength_16 (rfl) (bI_f (inB_f2 c8)) hP hD hS
    · skip
      refine lv_iconst (v := (nI 1)) hx hb dX3_isRunLength_11 (by decide) ?_
      refine lv_goto (tgt := 16) hx hb dX3_isRunLength_12 (by decide) ?_
      exact RETN _ _ (nI 1) () _ _ dX3_isRunLength_16 (rfl) (bI_t (inB_t c2 c8)) hP hD hS
set_option maxHeartbeats 4000000 in
set_option maxRecDepth 100000 in
theorem c_X3_isBlockSize {l : Launch} {D : va_G} {cI cG cC cR : ClassId} {v : Int32} : CtI l yX3_isBlockSize wsX3_isBlockSize { frames := 0, cells := 0, slots := 0, locals := 0 } D (TY cI cG cC cR) [.int v] ([]) (fun (_ : Unit) => []) (fun (r : Int32) (_ : Unit) => r = bI (szB v)) := by
  refine CtI.of (cc := cX3_isBlockSize) (maxL := 1) (ty := .boolean) (by decide) rfl (Nat.le_of_ble_eq_true rfl) ?_
  intro P0 e0 s0 m0 a0 b0 t0 c0 A0 Q0 ls F hK hP hD hA RETN hl
  obtain ⟨hx, hb, hml, hown, hts⟩ := id F
  have hS : va_S A0 s0.heap s0.heap [] := va_S.rf
  have hl : lv_has ls 1 [(0, .int v)] := hl
  refine lv_iload_n hx hb dX3_isBlockSize_0 rfl (lv_at hl 0 rfl) ?_
  refine lv_iconst (v := (nI 4)) hx hb dX3_isBlockSize_1 (by decide) ?_
  refine lv_icmp_eq (tgt := 23) hx hb dX3_isBlockSize_2 (by decide) (fun c2 => ?_) (fun c2 => ?_)
  · skip
    refine lv_iconst (v := (nI 1)) hx hb dX3_isBlockSize_23 (by decide) ?_
    refine lv_goto (tgt := 28) hx hb dX3_isBlockSize_24 (by decide) ?_
    exact RETN _ _ (nI 1) () _ _ dX3_isBlockSize_28 (rfl) (bI_t (by simp [szB, c2])) hP hD hS
  · skip
    refine lv_iload_n hx hb dX3_isBlockSize_5 rfl (lv_at hl 0 rfl) ?_
    refine lv_bipush (v := (nI 8)) hx hb dX3_isBlockSize_6 (by decide) ?_
    refine lv_icmp_eq (tgt := 23) hx hb dX3_isBlockSize_8 (by decide) (fun c8 => ?_) (fun c8 => ?_)
    · skip
      refine lv_iconst (v := (nI 1)) hx hb dX3_isBlockSize_23 (by decide) ?_
      refine lv_goto (tgt := 28) hx hb dX3_isBlockSize_24 (by decide) ?_
      exact RETN _ _ (nI 1) () _ _ dX3_isBlockSize_28 (rfl) (bI_t (by simp [szB, c8])) hP hD hS
    · skip
      refine lv_iload_n hx hb dX3_isBlockSize_11 rfl (lv_at hl 0 rfl) ?_
      refine lv_bipush (v := (nI 16)) hx hb dX3_isBlockSize_12 (by decide) ?_
      refine lv_icmp_eq (tgt := 23) hx hb dX3_isBlockSize_14 (by decide) (fun c14 => ?_) (fun c14 => ?_)
      · skip
        refine lv_iconst (v := (nI 1)) hx hb dX3_isBlockSize_23 (by decide) ?_
        refine lv_goto (tgt := 28) hx hb dX3_isBlockSize_24 (by decide) ?_
        exact RETN _ _ (nI 1) () _ _ dX3_isBlockSize_28 (rfl) (bI_t (by simp [szB, c14])) hP hD hS
      · skip
        refine lv_iload_n hx hb dX3_isBlockSize_17 rfl (lv_at hl 0 rfl) ?_
        refine lv_bipush (v := (nI 32)) hx hb dX3_isBlockSize_18 (by decide) ?_
        refine lv_icmp_ne (tgt := 27) hx hb dX3_isBlockSize_20 (by decide) (fun c20 => ?_) (fun c20 => ?_)
        · skip
          refine lv_iconst (v := (nI 0)) hx hb dX3_isBlockSize_27 (by decide) ?_
          exact RETN _ _ (nI 0) () _ _ dX3_isBlockSize_28 (rfl) (bI_f (by simp [szB, c2, c8, c14, c20])) hP hD hS
        · skip
          refine lv_iconst (v := (nI 1)) hx hb dX3_isBlockSize_23 (by decide) ?_
          refine lv_goto (tgt := 28) hx hb dX3_isBlockSize_24 (by decide) ?_
          exact RETN _ _ (nI 1) () _ _ dX3_isBlockSize_28 (rfl) (bI_t (by simp [szB, c20])) hP hD hS
set_option maxHeartbeats 4000000 in
set_option maxRecDepth 100000 in
theorem c_X3_wordOf {l : Launch} {D : va_G} {cI cG cC cR : ClassId} {sl : Nat} (hs : sl < 1000) : CtI l yX3_wordOf wsX3_wordOf { frames := 0, cells := 0, slots := 0, locals := 0 } D (TY cI cG cC cR) [.int (nI sl)] ([]) (fun (_ : Unit) => []) (fun (r : Int32) (_ : Unit) => r = nI (sl / 32)) := by
  refine CtI.of (cc := cX3_wordOf) (maxL := 1) (ty := .int) (by decide) rfl (Nat.le_of_ble_eq_true rfl) ?_
  intro P0 e0 s0 m0 a0 b0 t0 c0 A0 Q0 ls F hK hP hD hA RETN hl
  obtain ⟨hx, hb, hml, hown, hts⟩ := id F
  have hS : va_S A0 s0.heap s0.heap [] := va_S.rf
  have hl : lv_has ls 1 [(0, .int (nI sl))] := hl
  refine lv_iload_n hx hb dX3_wordOf_0 rfl (lv_at hl 0 rfl) ?_
  refine lv_bipush (v := (nI 32)) hx hb dX3_wordOf_1 (by decide) ?_
  refine lv_idiv hx hb dX3_wordOf_3 (nI_ne0 (by omega) (by omega)) ?_
  refine n_as (x' := nI (sl / 32)) (pk_div (by omega) (by omega) (by omega)) ?_
  exact RETN _ _ (nI (sl / 32)) () _ _ dX3_wordOf_4 (rfl) (rfl) hP hD hS
set_option maxHeartbeats 4000000 in
set_option maxRecDepth 100000 in
theorem c_X3_bitOf {l : Launch} {D : va_G} {cI cG cC cR : ClassId} {sl : Nat} (hs : sl < 1000) : CtI l yX3_bitOf wsX3_bitOf { frames := 0, cells := 0, slots := 0, locals := 0 } D (TY cI cG cC cR) [.int (nI sl)] ([]) (fun (_ : Unit) => []) (fun (r : Int32) (_ : Unit) => r = b1 (sl % 32)) := by
  refine CtI.of (cc := cX3_bitOf) (maxL := 1) (ty := .int) (by decide) rfl (Nat.le_of_ble_eq_true rfl) ?_
  intro P0 e0 s0 m0 a0 b0 t0 c0 A0 Q0 ls F hK hP hD hA RETN hl
  obtain ⟨hx, hb, hml, hown, hts⟩ := id F
  have hS : va_S A0 s0.heap s0.heap [] := va_S.rf
  have hl : lv_has ls 1 [(0, .int (nI sl))] := hl
  refine lv_iconst (v := (nI 1)) hx hb dX3_bitOf_0 (by decide) ?_
  refine lv_iload_n hx hb dX3_bitOf_1 rfl (lv_at hl 0 rfl) ?_
  refine lv_bipush (v := (nI 32)) hx hb dX3_bitOf_2 (by decide) ?_
  refine lv_irem hx hb dX3_bitOf_4 (nI_ne0 (by omega) (by omega)) ?_
  refine n_as (x' := nI (sl % 32)) (pk_rem (by omega) (by omega) (by omega)) ?_
  refine lv_ishl hx hb dX3_bitOf_5 ?_
  exact RETN _ _ ((nI 1) <<< ((nI (sl % 32)) &&& 31)) () _ _ dX3_bitOf_6 (rfl) (rfl) hP hD hS
set_option maxHeartbeats 4000000 in
set_option maxRecDepth 100000 in
theorem c_X3_lowestBit {l : Launch} {D : va_G} {cI cG cC cR : ClassId} {x : Int32} : CtI l yX3_lowestBit wsX3_lowestBit { frames := 1, cells := 0, slots := 0, locals := 20 } D (TY cI cG cC cR) [.int x] ([]) (fun (_ : Unit) => []) (fun (r : Int32) (_ : Unit) => r = nI (lw x)) := by
  refine CtI.of (cc := cX3_lowestBit) (maxL := 1) (ty := .int) (by decide) rfl (Nat.le_of_ble_eq_true rfl) ?_
  intro P0 e0 s0 m0 a0 b0 t0 c0 A0 Q0 ls F hK hP hD hA RETN hl
  obtain ⟨hx, hb, hml, hown, hts⟩ := id F
  have hS : va_S A0 s0.heap s0.heap [] := va_S.rf
  have hl : lv_has ls 1 [(0, .int x)] := hl
  refine lv_iload_n hx hb dX3_lowestBit_0 rfl (lv_at hl 0 rfl) ?_
  refine lv_iconst (v := (-1)) hx hb dX3_lowestBit_1 (by decide) ?_
  refine lv_ixor hx hb dX3_lowestBit_2 ?_
  refine lv_iload_n hx hb dX3_lowestBit_3 rfl (lv_at hl 0 rfl) ?_
  refine lv_iconst (v := (nI 1)) hx hb dX3_lowestBit_4 (by decide) ?_
  refine lv_isub hx hb dX3_lowestBit_5 ?_
  refine lv_iand hx hb dX3_lowestBit_6 ?_
  refine cl_S0 (As := [.int ((x ^^^ (-1)) &&& (x - (nI 1)))]) (rest := []) F hK hA hP hD hS (c_J6_bitCount_0f7a4) (va_cwS 1 hts gX3_lowestBit_J6_bitCount_0f7a4 rfl rfl rfl (by decide +kernel) ⟨Nat.le_of_ble_eq_true rfl, Nat.le_of_ble_eq_true rfl⟩) rfl hl.1 rfl (Nat.le_of_ble_eq_true rfl) ⟨Nat.zero_le _, Nat.zero_le _⟩ dX3_lowestBit_7 (fun r_1 H locs hw_2 hP hS => ?_)
  try dsimp only at hw_2
  obtain rfl : r_1 = (nI (lw x)) := hw_2
  exact RETN _ _ (nI (lw x)) () _ _ dX3_lowestBit_10 (rfl) (rfl) hP hD hS
set_option maxHeartbeats 4000000 in
set_option maxRecDepth 100000 in
theorem c_X3_rangeBits {l : Launch} {D : va_G} {cI cG cC cR : ClassId} {w a e : Nat} (hw : w < 100) (ha : a < 1000) (he : e < 1000) : CtI l yX3_rangeBits wsX3_rangeBits { frames := 1, cells := 0, slots := 0, locals := 24 } D (TY cI cG cC cR) [.int (nI w), .int (nI a), .int (dn e)] ([]) (fun (_ : Unit) => []) (fun (r : Int32) (_ : Unit) => ∀ i, i < 32 → bt r i = decide (a ≤ 32 * w + i ∧ 32 * w + i < e)) := by
  refine CtI.of (cc := cX3_rangeBits) (maxL := 5) (ty := .int) (by decide) rfl (Nat.le_of_ble_eq_true rfl) ?_
  intro P0 e0 s0 m0 a0 b0 t0 c0 A0 Q0 ls F hK hP hD hA RETN hl
  obtain ⟨hx, hb, hml, hown, hts⟩ := id F
  have hS : va_S A0 s0.heap s0.heap [] := va_S.rf
  have hl : lv_has ls 5 [(0, .int (nI w)), (1, .int (nI a)), (2, .int (dn e))] := hl
  refine lv_iload_n hx hb dX3_rangeBits_0 rfl (lv_at hl 1 rfl) ?_
  refine lv_iload_n hx hb dX3_rangeBits_1 rfl (lv_at hl 0 rfl) ?_
  refine lv_bipush (v := (nI 32)) hx hb dX3_rangeBits_2 (by decide) ?_
  refine lv_imul hx hb dX3_rangeBits_4 ?_
  refine n_as (x' := nI (w * 32)) (pk_mul _ _) ?_
  refine lv_isub hx hb dX3_rangeBits_5 ?_
  refine lv_iconst (v := (nI 0)) hx hb dX3_rangeBits_6 (by decide) ?_
  refine va_mmax hx hb (hml.trans hl.1.symm) hown (hts (.methodLink RX3 175 Lib.Math.max.name) (by decide +kernel)) (hts (.static Lib.Math.max.name) (by decide +kernel)) (hts (.initialized "java/lang/Math") (by decide +kernel)) (hts (.code Lib.Math.max.name Lib.Math.max.code 2 (some .int)) (by decide +kernel)) (Nat.le_of_ble_eq_true rfl) (Nat.le_of_ble_eq_true rfl) (Nat.zero_le _) (Nat.zero_le _) dX3_rangeBits_7 ?_
  refine n_as (x' := (nI (a - w * 32))) (mx0 (by omega) (by omega)) ?_
  refine lv_istore_n (lv' := [(3, .int (nI (a - w * 32))), (0, .int (nI w)), (1, .int (nI a)), (2, .int (dn e))]) hx hb dX3_rangeBits_10 rfl hl (by decide) rfl (fun ls hl => ?_)
  refine lv_iload_n hx hb dX3_rangeBits_11 rfl (lv_at hl 3 rfl) ?_
  refine lv_iload_n hx hb dX3_rangeBits_12 rfl (lv_at hl 1 rfl) ?_
  refine lv_bipush (v := (nI 32)) hx hb dX3_rangeBits_13 (by decide) ?_
  refine lv_imul hx hb dX3_rangeBits_15 ?_
  refine n_as (x' := nI (w * 32)) (pk_mul _ _) ?_
  refine lv_isub hx hb dX3_rangeBits_16 ?_
  refine lv_bipush (v := (nI 31)) hx hb dX3_rangeBits_17 (by decide) ?_
  refine va_mmin hx hb (hml.trans hl.1.symm) hown (hts (.methodLink RX3 180 Lib.Math.min.name) (by decide +kernel)) (hts (.static Lib.Math.min.name) (by decide +kernel)) (hts (.initialized "java/lang/Math") (by decide +kernel)) (hts (.code Lib.Math.min.name Lib.Math.min.code 2 (some .int)) (by decide +kernel)) (Nat.le_of_ble_eq_true rfl) (Nat.le_of_ble_eq_true rfl) (Nat.zero_le _) (Nat.zero_le _) dX3_rangeBits_19 ?_
  refine n_as (x' := (hiE e (w * 32))) (rfl) ?_
  refine lv_istore (lv' := [(4, .int (hiE e (w * 32))), (3, .int (nI (a - w * 32))), (0, .int (nI w)), (1, .int (nI a)), (2, .int (dn e))]) hx hb dX3_rangeBits_22 hl (by decide) rfl (fun ls hl => ?_)
  refine lv_iload_n hx hb dX3_rangeBits_24 rfl (lv_at hl 1 rfl) ?_
  refine lv_iload hx hb dX3_rangeBits_25 (lv_at hl 0 rfl) ?_
  refine lv_icmp_le (tgt := 34) hx hb dX3_rangeBits_27 (by decide) (fun c27 => ?_) (fun c27 => ?_)
  · skip
    obtain ⟨h9, hh1, hh2, hh3, hh4⟩ := hiE_nat (e := e) (b := w * 32) (lo := a - w * 32) (by omega) (by omega) (by omega) c27
    rw [hh3] at hl
    refine lv_iconst (v := (-1)) hx hb dX3_rangeBits_34 (by decide) ?_
    refine lv_iload_n hx hb dX3_rangeBits_35 rfl (lv_at hl 1 rfl) ?_
    refine lv_ishl hx hb dX3_rangeBits_36 ?_
    refine lv_iconst (v := (-1)) hx hb dX3_rangeBits_37 (by decide) ?_
    refine lv_bipush (v := (nI 31)) hx hb dX3_rangeBits_38 (by decide) ?_
    refine lv_iload hx hb dX3_rangeBits_40 (lv_at hl 0 rfl) ?_
    refine lv_isub hx hb dX3_rangeBits_42 ?_
    refine n_as (x' := nI (31 - h9)) (pk_sub (by omega)) ?_
    refine lv_iushr (v := ((((-1) : Int32).toUInt32 >>> (((nI (31 - h9)) : Int32).toUInt32 &&& Int32.toUInt32 31)).toInt32)) hx hb dX3_rangeBits_43 rfl ?_
    refine lv_iand hx hb dX3_rangeBits_44 ?_
    exact RETN _ _ (((-1) <<< ((nI (a - w * 32)) &&& 31)) &&& ((((-1) : Int32).toUInt32 >>> (((nI (31 - h9)) : Int32).toUInt32 &&& Int32.toUInt32 31)).toInt32)) () _ _ dX3_rangeBits_45 (rfl) (fun i hi => by rw [b_and, rb_shl (by omega) hi, rb_shr (by omega) hi]; rw [Bool.eq_iff_iff, Bool.and_eq_true, decide_eq_true_iff, decide_eq_true_iff, decide_eq_true_iff]; have := hh4 i hi; omega) hP hD hS
  · skip
    refine lv_iconst (v := (nI 0)) hx hb dX3_rangeBits_30 (by decide) ?_
    refine lv_goto (tgt := 45) hx hb dX3_rangeBits_31 (by decide) ?_
    exact RETN _ _ (nI 0) () _ _ dX3_rangeBits_45 (rfl) (fun i hi => by rw [show bt (nI 0) i = false from b_0 i]; exact (decide_eq_false (fun q => hiE_out (e := e) (b := w * 32) (lo := a - w * 32) (by omega) (by omega) (by omega) c27 i hi (by omega))).symm) hP hD hS
set_option maxHeartbeats 4000000 in
set_option maxRecDepth 100000 in
theorem c_X2_isFull {l : Launch} {D : va_G} {cI cG cC cR : ClassId} {a : Nat → Nat} {f : Nat → Int32} {V : Nat → Nat → Int32} {w : Nat} (R : RepK f V) (hw : w < 10) : CtI l yX2_isFull wsX2_isFull { frames := 0, cells := 0, slots := 0, locals := 0 } D (TY cI cG cC cR) [.ref (a 0), .int (nI w)] (SW a cI cG V) (fun (_ : Unit) => SW a cI cG V) (fun (r : Int32) (_ : Unit) => r = rt f w) := by
  refine CtI.of (cc := cX2_isFull) (maxL := 2) (ty := .boolean) (by decide) rfl (Nat.le_of_ble_eq_true rfl) ?_
  intro P0 e0 s0 m0 a0 b0 t0 c0 A0 Q0 ls F hK hP hD hA RETN hl
  obtain ⟨hx, hb, hml, hown, hts⟩ := id F
  have hS : va_S A0 s0.heap s0.heap [] := va_S.rf
  have hl : lv_has ls 2 [(0, .ref (a 0)), (1, .int (nI w))] := hl
  have hz := rep_zero R (k := 0) (by decide) hw
  have lk11 := hts (.fieldLink RX2 11 "SlotMaps$Slots" "bits" "[[I") (by decide +kernel)
  have hI2 : ∀ w ∈ u_ws RX2 TX2 5, w ∈ wsX2_isFull := by decide +kernel
  refine lv_aload_n hx hb dX2_isFull_0 rfl (lv_at hl 0 rfl) ?_
  refine va_get (D := D) (ci := 2) (v := .ref (a 1)) (C := RX2) (T := TX2) (N := 5) hx hb hts hI2 hown hK.1 hP 0 rfl rfl 0 (by decide) lk11 (fun _ h9 => h9) rfl dX2_isFull_1 ?_
  refine lv_iconst (v := (nI 0)) hx hb dX2_isFull_4 (by decide) ?_
  refine n_aald (b := a 4) hx hb hK hP 1 1 rfl rfl (by decide) (by decide) rfl dX2_isFull_5 ?_
  refine lv_iload_n hx hb dX2_isFull_6 rfl (lv_at hl 1 rfl) ?_
  refine n_iald hx hb hK hP 4 0 rfl rfl (by decide) (by omega) dX2_isFull_7 ?_
  refine lv_if_ne (tgt := 15) hx hb dX2_isFull_8 (by decide) (fun c8 => ?_) (fun c8 => ?_)
  · skip
    replace c8 : ¬ ((V 0) w) = nI 0 := c8
    refine lv_iconst (v := (nI 0)) hx hb dX2_isFull_15 (by decide) ?_
    exact RETN _ _ (nI 0) () _ _ dX2_isFull_16 (rfl) (bI_f (decide_eq_false (fun q => c8 (hz.mpr q)))) hP hD hS
  · skip
    replace c8 : ((V 0) w) = nI 0 := c8
    refine lv_iconst (v := (nI 1)) hx hb dX2_isFull_11 (by decide) ?_
    refine lv_goto (tgt := 16) hx hb dX2_isFull_12 (by decide) ?_
    exact RETN _ _ (nI 1) () _ _ dX2_isFull_16 (rfl) (bI_t (decide_eq_true (hz.mp c8))) hP hD hS
set_option maxHeartbeats 4000000 in
set_option maxRecDepth 100000 in
theorem c_X2_summaryBit {l : Launch} {D : va_G} {cI cG cC cR : ClassId} {a : Nat → Nat} {V : Nat → Nat → Int32} {w : Nat} (hw : w < 10) : CtI l yX2_summaryBit wsX2_summaryBit { frames := 0, cells := 0, slots := 0, locals := 0 } D (TY cI cG cC cR) [.ref (a 0), .int (nI w)] (SW a cI cG V) (fun (_ : Unit) => SW a cI cG V) (fun (r : Int32) (_ : Unit) => r = bI (bt (V 6 0) w)) := by
  refine CtI.of (cc := cX2_summaryBit) (maxL := 2) (ty := .int) (by decide) rfl (Nat.le_of_ble_eq_true rfl) ?_
  intro P0 e0 s0 m0 a0 b0 t0 c0 A0 Q0 ls F hK hP hD hA RETN hl
  obtain ⟨hx, hb, hml, hown, hts⟩ := id F
  have hS : va_S A0 s0.heap s0.heap [] := va_S.rf
  have hl : lv_has ls 2 [(0, .ref (a 0)), (1, .int (nI w))] := hl
  have lk23 := hts (.fieldLink RX2 23 "SlotMaps$Slots" "summary" "I") (by decide +kernel)
  have hI2 : ∀ w ∈ u_ws RX2 TX2 5, w ∈ wsX2_summaryBit := by decide +kernel
  refine lv_aload_n hx hb dX2_summaryBit_0 rfl (lv_at hl 0 rfl) ?_
  refine va_get (D := D) (ci := 2) (v := .int (V 6 0)) (C := RX2) (T := TX2) (N := 5) hx hb hts hI2 hown hK.1 hP 0 rfl rfl 3 (by decide) lk23 (fun _ h9 => h9) rfl dX2_summaryBit_1 ?_
  refine lv_iload_n hx hb dX2_summaryBit_4 rfl (lv_at hl 1 rfl) ?_
  refine lv_ishr hx hb dX2_summaryBit_5 ?_
  refine lv_iconst (v := (nI 1)) hx hb dX2_summaryBit_6 (by decide) ?_
  refine lv_iand hx hb dX2_summaryBit_7 ?_
  exact RETN _ _ (((V 6 0) >>> ((nI w) &&& 31)) &&& (nI 1)) () _ _ dX2_summaryBit_8 (rfl) (sum_bit (by omega)) hP hD hS
set_option maxHeartbeats 4000000 in
set_option maxRecDepth 100000 in
theorem c_X2_change {l : Launch} {D : va_G} {cI cG cC cR : ClassId} {a : Nat → Nat} {f : Nat → Int32} {V : Nat → Nat → Int32} {w fk tk : Nat} {m : Int32} (R : RepS f V) (hw : w < 10) (hf : fk < 4) (ht : tk < 4) (hft : fk ≠ tk) (hm : ∀ i, i < 32 → bt m i = true → f (32 * w + i) = nI fk) : CtV l yX2_change wsX2_change { frames := 1, cells := 0, slots := 0, locals := 21 } D (TY cI cG cC cR) [.ref (a 0), .int (nI w), .int m, .int (nI fk), .int (nI tk)] (SW a cI cG V) (fun (u : Nat → Nat → Int32) => SW a cI cG u) (fun (u : Nat → Nat → Int32) => RepS (bec f (mP w m) (fun _ => nI tk)) u) := by
  refine CtV.of (cc := cX2_change) (maxL := 5) (by decide) rfl (Nat.le_of_ble_eq_true rfl) ?_
  intro P0 e0 s0 m0 a0 b0 t0 c0 A0 Q0 ls F hK hP hD hA RETN hl
  obtain ⟨hx, hb, hml, hown, hts⟩ := id F
  have hS : va_S A0 s0.heap s0.heap [] := va_S.rf
  have hl : lv_has ls 5 [(0, .ref (a 0)), (1, .int (nI w)), (2, .int m), (3, .int (nI fk)), (4, .int (nI tk))] := hl
  have lk11 := hts (.fieldLink RX2 11 "SlotMaps$Slots" "bits" "[[I") (by decide +kernel)
  have lk23 := hts (.fieldLink RX2 23 "SlotMaps$Slots" "summary" "I") (by decide +kernel)
  have hI2 : ∀ w ∈ u_ws RX2 TX2 5, w ∈ wsX2_change := by decide +kernel
  refine lv_iload_n hx hb dX2_change_0 rfl (lv_at hl 2 rfl) ?_
  refine lv_if_ne (tgt := 5) hx hb dX2_change_1 (by decide) (fun c1 => ?_) (fun c1 => ?_)
  · skip
    replace c1 : ¬ m = nI 0 := c1
    refine lv_aload_n hx hb dX2_change_5 rfl (lv_at hl 0 rfl) ?_
    refine va_get (D := D) (ci := 2) (v := .ref (a 1)) (C := RX2) (T := TX2) (N := 5) hx hb hts hI2 hown hK.1 hP 0 rfl rfl 0 (by decide) lk11 (fun _ h9 => h9) rfl dX2_change_6 ?_
    refine lv_iload_n hx hb dX2_change_9 rfl (lv_at hl 3 rfl) ?_
    refine n_aald (b := a (4 + fk)) hx hb hK hP 1 1 rfl rfl (by decide) (by omega) (if_pos (by omega)) dX2_change_10 ?_
    refine lv_iload_n hx hb dX2_change_11 rfl (lv_at hl 1 rfl) ?_
    refine lv_dup2_11 hx hb dX2_change_12 rfl rfl ?_
    refine n_iald hx hb hK hP (4 + fk) 0 (sw_at (by omega)) rfl (by decide) (by omega) dX2_change_13 ?_
    refine lv_iload_n hx hb dX2_change_14 rfl (lv_at hl 2 rfl) ?_
    refine lv_iconst (v := (-1)) hx hb dX2_change_15 (by decide) ?_
    refine lv_ixor hx hb dX2_change_16 ?_
    refine lv_iand hx hb dX2_change_17 ?_
    refine n_iast hx hb hK hP hD hS (4 + fk) 0 (sw_at (by omega)) rfl (by decide) (by omega) dX2_change_18 (wsN := SW a cI cG (vset V fk (upd (V fk) w ((V fk w) &&& (m ^^^ (-1)))))) (sw_set (by omega)) (fun H locs hP hD hS => ?_)
    obtain ⟨V_1, hV_1⟩ : ∃ z, z = vset V fk (upd (V fk) w ((V fk w) &&& (m ^^^ (-1)))) := ⟨_, rfl⟩
    rw [← hV_1] at hP hD
    refine lv_aload_n hx hb dX2_change_19 rfl (lv_at hl 0 rfl) ?_
    refine va_get (D := D) (ci := 2) (v := .ref (a 1)) (C := RX2) (T := TX2) (N := 5) hx hb hts hI2 hown hK.1 hP 0 rfl rfl 0 (by decide) lk11 (fun _ h9 => h9) rfl dX2_change_20 ?_
    refine lv_iload hx hb dX2_change_23 (lv_at hl 4 rfl) ?_
    refine n_aald (b := a (4 + tk)) hx hb hK hP 1 1 rfl rfl (by decide) (by omega) (if_pos (by omega)) dX2_change_25 ?_
    refine lv_iload_n hx hb dX2_change_26 rfl (lv_at hl 1 rfl) ?_
    refine lv_dup2_11 hx hb dX2_change_27 rfl rfl ?_
    refine n_iald hx hb hK hP (4 + tk) 0 (sw_at (by omega)) rfl (by decide) (by omega) dX2_change_28 ?_
    refine lv_iload_n hx hb dX2_change_29 rfl (lv_at hl 2 rfl) ?_
    refine lv_ior hx hb dX2_change_30 ?_
    refine n_iast hx hb hK hP hD hS (4 + tk) 0 (sw_at (by omega)) rfl (by decide) (by omega) dX2_change_31 (wsN := SW a cI cG (vset V_1 tk (upd (V_1 tk) w ((V_1 tk w) ||| m)))) (sw_set (by omega)) (fun H locs hP hD hS => ?_)
    obtain ⟨V_2, hV_2⟩ : ∃ z, z = vset V_1 tk (upd (V_1 tk) w ((V_1 tk w) ||| m)) := ⟨_, rfl⟩
    rw [← hV_2] at hP hD
    have K : RepK (bec f (mP w m) (fun _ => nI tk)) V_2 := ch_K R.1 hw hf ht hft hm hV_1 hV_2
    refine lv_aload_n hx hb dX2_change_32 rfl (lv_at hl 0 rfl) ?_
    refine lv_iload_n hx hb dX2_change_33 rfl (lv_at hl 1 rfl) ?_
    refine cl_Vi (b := (a 0)) (As := [.int (nI w)]) (rest := []) (wc := SW a cI cG V_2) (wsN := fun (_ : Unit) => SW a cI cG V_2) F hK hA hP hD hS (c_X2_isFull K hw) (cwV 1 hts gX2_change_X2_isFull rfl rfl rfl (by decide +kernel) ⟨Nat.le_of_ble_eq_true rfl, Nat.le_of_ble_eq_true rfl⟩) [0, 1, 2, 3, 4, 5, 6, 7] [] [0, 1, 2, 3, 4, 5, 6, 7] ([]) rfl rfl (fun _ => rfl) (by decide) (by decide) 0 rfl rfl rfl hl.1 rfl (Nat.le_of_ble_eq_true rfl) ⟨Nat.zero_le _, Nat.zero_le _⟩ dX2_change_34 (fun r_4 _ H locs hw_3 hP hD hS => ?_)
    try dsimp only at hw_3 hP hD
    obtain rfl : r_4 = (rt (bec f (mP w m) (fun _ => nI tk)) w) := hw_3
    refine lv_if_eq (tgt := 55) hx hb dX2_change_37 (by decide) (fun c37 => ?_) (fun c37 => ?_)
    · skip
      replace c37 : (rt (bec f (mP w m) (fun _ => nI tk)) w) = nI 0 := c37
      refine lv_aload_n hx hb dX2_change_55 rfl (lv_at hl 0 rfl) ?_
      refine lv_dup hx hb dX2_change_56 rfl ?_
      refine va_get (D := D) (ci := 2) (v := .int (V_2 6 0)) (C := RX2) (T := TX2) (N := 5) hx hb hts hI2 hown hK.1 hP 0 rfl rfl 3 (by decide) lk23 (fun _ h9 => h9) rfl dX2_change_57 ?_
      refine lv_iconst (v := (nI 1)) hx hb dX2_change_60 (by decide) ?_
      refine lv_iload_n hx hb dX2_change_61 rfl (lv_at hl 1 rfl) ?_
      refine lv_ishl hx hb dX2_change_62 ?_
      refine lv_iconst (v := (-1)) hx hb dX2_change_63 (by decide) ?_
      refine lv_ixor hx hb dX2_change_64 ?_
      refine lv_iand hx hb dX2_change_65 ?_
      refine va_put (D := D) (ci := 2) (v := .int ((V_2 6 0) &&& (((nI 1) <<< ((nI w) &&& 31)) ^^^ (-1)))) (ty := .int) (C := RX2) (T := TX2) (N := 5) hx hb hts hI2 tyX2 tyX2_ok nmX2 hown hK.1 hP hD hS 0 rfl rfl 3 (by decide) lk23 (fun _ h9 => h9) rfl (by decide +kernel) rfl rfl (Nat.le_of_ble_eq_true rfl) dX2_change_66 (fun H locs hP hD hS => ?_)
      have hP : va_P D vwCl (SW a cI cG (vset V_2 6 (upd (V_2 6) 0 ((V_2 6 0) &&& (((nI 1) <<< ((nI w) &&& 31)) ^^^ (-1)))))) H := hP
      have hD : va_D A0 (SW a cI cG (vset V_2 6 (upd (V_2 6) 0 ((V_2 6 0) &&& (((nI 1) <<< ((nI w) &&& 31)) ^^^ (-1)))))) := hD
      obtain ⟨V_5, hV_5⟩ : ∃ z, z = (vset V_2 6 (upd (V_2 6) 0 ((V_2 6 0) &&& (((nI 1) <<< ((nI w) &&& 31)) ^^^ (-1))))) := ⟨_, rfl⟩
      rw [← hV_5] at hP hD
      exact RETN _ _ V_5 _ _ dX2_change_69 (ch_S R hw (ch_Z hf ht hV_1 hV_2) c1 K hV_5 (fun i hi => by rw [c37]; show bt (V_2 6 0 &&& (b1 w ^^^ (-1))) i = _; rw [and_bit (by omega) hi, (ch_Z hf ht hV_1 hV_2).2.2]; rfl)) hP hD hS
    · skip
      replace c37 : ¬ (rt (bec f (mP w m) (fun _ => nI tk)) w) = nI 0 := c37
      have hr1 := rt_1 c37
      refine lv_aload_n hx hb dX2_change_40 rfl (lv_at hl 0 rfl) ?_
      refine lv_dup hx hb dX2_change_41 rfl ?_
      refine va_get (D := D) (ci := 2) (v := .int (V_2 6 0)) (C := RX2) (T := TX2) (N := 5) hx hb hts hI2 hown hK.1 hP 0 rfl rfl 3 (by decide) lk23 (fun _ h9 => h9) rfl dX2_change_42 ?_
      refine lv_iconst (v := (nI 1)) hx hb dX2_change_45 (by decide) ?_
      refine lv_iload_n hx hb dX2_change_46 rfl (lv_at hl 1 rfl) ?_
      refine lv_ishl hx hb dX2_change_47 ?_
      refine lv_ior hx hb dX2_change_48 ?_
      refine va_put (D := D) (ci := 2) (v := .int ((V_2 6 0) ||| ((nI 1) <<< ((nI w) &&& 31)))) (ty := .int) (C := RX2) (T := TX2) (N := 5) hx hb hts hI2 tyX2 tyX2_ok nmX2 hown hK.1 hP hD hS 0 rfl rfl 3 (by decide) lk23 (fun _ h9 => h9) rfl (by decide +kernel) rfl rfl (Nat.le_of_ble_eq_true rfl) dX2_change_49 (fun H locs hP hD hS => ?_)
      have hP : va_P D vwCl (SW a cI cG (vset V_2 6 (upd (V_2 6) 0 ((V_2 6 0) ||| ((nI 1) <<< ((nI w) &&& 31)))))) H := hP
      have hD : va_D A0 (SW a cI cG (vset V_2 6 (upd (V_2 6) 0 ((V_2 6 0) ||| ((nI 1) <<< ((nI w) &&& 31)))))) := hD
      obtain ⟨V_6, hV_6⟩ : ∃ z, z = (vset V_2 6 (upd (V_2 6) 0 ((V_2 6 0) ||| ((nI 1) <<< ((nI w) &&& 31))))) := ⟨_, rfl⟩
      rw [← hV_6] at hP hD
      refine lv_goto (tgt := 69) hx hb dX2_change_52 (by decide) ?_
      exact RETN _ _ V_6 _ _ dX2_change_69 (ch_S R hw (ch_Z hf ht hV_1 hV_2) c1 K hV_6 (fun i hi => by rw [hr1]; show bt (V_2 6 0 ||| b1 w) i = _; rw [or_bit (by omega) hi, (ch_Z hf ht hV_1 hV_2).2.2]; rfl)) hP hD hS
  · skip
    replace c1 : m = nI 0 := c1
    exact RETN _ _ V _ _ dX2_change_4 (by rw [c1]; exact R.zero) hP hD hS
set_option maxHeartbeats 4000000 in
set_option maxRecDepth 100000 in
theorem c_X2_total {l : Launch} {D : va_G} {cI cG cC cR : ClassId} {a : Nat → Nat} {f : Nat → Int32} {V : Nat → Nat → Int32} {k : Nat} (R : RepK f V) (hk : k < 4) : CtI l yX2_total wsX2_total { frames := 1, cells := 0, slots := 0, locals := 20 } D (TY cI cG cC cR) [.ref (a 0), .int (nI k)] (SW a cI cG V) (fun (_ : Unit) => SW a cI cG V) (fun (r : Int32) (_ : Unit) => r = nI (tot f (nI k))) := by
  refine CtI.of (cc := cX2_total) (maxL := 4) (ty := .int) (by decide) rfl (Nat.le_of_ble_eq_true rfl) ?_
  intro P0 e0 s0 m0 a0 b0 t0 c0 A0 Q0 ls F hK hP hD hA RETN hl
  obtain ⟨hx, hb, hml, hown, hts⟩ := id F
  have hS : va_S A0 s0.heap s0.heap [] := va_S.rf
  have hl : lv_has ls 4 [(0, .ref (a 0)), (1, .int (nI k))] := hl
  have lk11 := hts (.fieldLink RX2 11 "SlotMaps$Slots" "bits" "[[I") (by decide +kernel)
  have hI2 : ∀ w ∈ u_ws RX2 TX2 5, w ∈ wsX2_total := by decide +kernel
  refine lv_iconst (v := (nI 0)) hx hb dX2_total_0 (by decide) ?_
  refine lv_istore_n (lv' := [(2, .int (nI 0)), (0, .ref (a 0)), (1, .int (nI k))]) hx hb dX2_total_1 rfl hl (by decide) rfl (fun ls hl => ?_)
  refine lv_iconst (v := (nI 0)) hx hb dX2_total_2 (by decide) ?_
  refine lv_istore_n (lv' := [(3, .int (nI 0)), (2, .int (nI 0)), (0, .ref (a 0)), (1, .int (nI k))]) hx hb dX2_total_3 rfl hl (by decide) rfl (fun ls hl => ?_)
  have LP4 : ∀ (nn : Nat) (w : Nat) (n : Nat) (H : Heap) (locs : List Loc) (ls : Array Slot), w ≤ 10 → n = fb_sm (fun w => cw f w (nI k)) w → 10 - w < nn → va_P D vwCl (SW a cI cG V) H → va_D A0 (SW a cI cG V) → va_S A0 s0.heap H locs → lv_has ls 4 [(3, .int (nI w)), (2, .int (nI n)), (0, .ref (a 0)), (1, .int (nI k))] → W P0 l e0 { frames := 1, cells := 0, slots := 0, locals := 20 } s0 m0 a0 b0 t0 c0 H locs 0 0 Q0 (F0 m0 4 ls []) := by
    intro nn
    induction nn with
    | zero => intro w n H locs ls hw hn hmu; exact absurd hmu (Nat.not_lt_zero _)
    | succ nn ih4 =>
      intro w n H locs ls hw hn hmu4 hP hD hS hl
      have hnl := tot_le f (nI k) w hw
      refine lv_iload_n hx hb dX2_total_4 rfl (lv_at hl 0 rfl) ?_
      refine lv_bipush (v := (nI 10)) hx hb dX2_total_5 (by decide) ?_
      refine lv_icmp_ge (tgt := 30) hx hb dX2_total_7 (by decide) (fun c7 => ?_) (fun c7 => ?_)
      · skip
        replace c7 : 10 ≤ w := by rw [nI_leI (by omega) (by omega)] at c7; exact c7
        refine lv_iload_n hx hb dX2_total_30 rfl (lv_at hl 1 rfl) ?_
        exact RETN _ _ (nI n) () _ _ dX2_total_31 (rfl) (by rw [hn, show w = 10 by omega]; rfl) hP hD hS
      · skip
        replace c7 : ¬ (10 ≤ w) := by rw [nI_leI (by omega) (by omega)] at c7; exact c7
        refine lv_iload_n hx hb dX2_total_10 rfl (lv_at hl 1 rfl) ?_
        refine lv_aload_n hx hb dX2_total_11 rfl (lv_at hl 2 rfl) ?_
        refine va_get (D := D) (ci := 2) (v := .ref (a 1)) (C := RX2) (T := TX2) (N := 5) hx hb hts hI2 hown hK.1 hP 0 rfl rfl 0 (by decide) lk11 (fun _ h9 => h9) rfl dX2_total_12 ?_
        refine lv_iload_n hx hb dX2_total_15 rfl (lv_at hl 3 rfl) ?_
        refine n_aald (b := a (4 + k)) hx hb hK hP 1 1 rfl rfl (by decide) (by omega) (if_pos (by omega)) dX2_total_16 ?_
        refine lv_iload_n hx hb dX2_total_17 rfl (lv_at hl 0 rfl) ?_
        refine n_iald hx hb hK hP (4 + k) 0 (sw_at (by omega)) rfl (by decide) (by omega) dX2_total_18 ?_
        have hc := cw_le f w (nI k)
        refine cl_S0 (As := [.int (V k w)]) (rest := [.int (nI n)]) F hK hA hP hD hS (c_J6_bitCount_0f7a4) (va_cwS 1 hts gX2_total_J6_bitCount_0f7a4 rfl rfl rfl (by decide +kernel) ⟨Nat.le_of_ble_eq_true rfl, Nat.le_of_ble_eq_true rfl⟩) rfl hl.1 rfl (Nat.le_of_ble_eq_true rfl) ⟨Nat.zero_le _, Nat.zero_le _⟩ dX2_total_19 (fun r_1 H locs hw_2 hP hS => ?_)
        try dsimp only at hw_2
        obtain rfl : r_1 = (nI (cw f w (nI k))) := by rw [hw_2, rep_pc R hk (by omega)]
        refine lv_iadd hx hb dX2_total_22 ?_
        refine n_as (x' := nI (n + (cw f w (nI k)))) (nI_add _ _) ?_
        refine lv_istore_n (lv' := [(2, .int (nI (n + (cw f w (nI k))))), (3, .int (nI w)), (0, .ref (a 0)), (1, .int (nI k))]) hx hb dX2_total_23 rfl hl (by decide) rfl (fun ls hl => ?_)
        refine lv_iinc (v := (nI (w + 1))) (lv' := [(3, .int (nI (w + 1))), (2, .int (nI (n + (cw f w (nI k))))), (0, .ref (a 0)), (1, .int (nI k))]) hx hb dX2_total_24 hl (k := 1) rfl (n_inc1 _) (by decide) rfl (fun ls hl => ?_)
        refine lv_goto (tgt := 4) hx hb dX2_total_27 (by decide) ?_
        exact ih4 (w + 1) (n + (cw f w (nI k))) _ _ _ (by omega) (by rw [fb_sm_succ, ← hn]) (by omega) hP hD hS (lv_sub hl [0, 1, 2, 3] rfl)
  exact LP4 _ 0 0 _ _ _ (by omega) (rfl) (Nat.lt_succ_self _) hP hD hS (lv_sub hl [0, 1, 2, 3] rfl)
