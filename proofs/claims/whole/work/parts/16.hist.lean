/-! the copies of a Slots, and the history of six -/
set_option maxHeartbeats 4000000 in
set_option maxRecDepth 100000 in
theorem c_X2_copyFrom {l : Launch} {D : va_G} {cI cG cC cR : ClassId} {a c : Nat → Nat} {V U : Nat → Nat → Int32} : CtV l yX2_copyFrom wsX2_copyFrom { frames := 1, cells := 0, slots := 0, locals := 24 } D (TY cI cG cC cR) [.ref (a 0), .ref (c 0)] (SW a cI cG V ++ SW c cI cG U) (fun (_ : Unit) => SW a cI cG U ++ SW c cI cG U) (fun (_ : Unit) => True) := by
  refine CtV.of (cc := cX2_copyFrom) (maxL := 3) (by decide) rfl (Nat.le_of_ble_eq_true rfl) ?_
  intro P0 e0 s0 m0 a0 b0 t0 c0 A0 Q0 ls F hK hP hD hA RETN hl
  obtain ⟨hx, hb, hml, hown, hts⟩ := id F
  have hS : va_S A0 s0.heap s0.heap [] := va_S.rf
  have hl : lv_has ls 3 [(0, .ref (a 0)), (1, .ref (c 0))] := hl
  have lk11 := hts (.fieldLink RX2 11 "SlotMaps$Slots" "bits" "[[I") (by decide +kernel)
  have lk16 := hts (.fieldLink RX2 16 "SlotMaps$Slots" "blockFirst" "[I") (by decide +kernel)
  have lk20 := hts (.fieldLink RX2 20 "SlotMaps$Slots" "blockSize" "[I") (by decide +kernel)
  have lk23 := hts (.fieldLink RX2 23 "SlotMaps$Slots" "summary" "I") (by decide +kernel)
  have lk27 := hts (.fieldLink RX2 27 "SlotMaps$Slots" "looks" "I") (by decide +kernel)
  have hI2 : ∀ w ∈ u_ws RX2 TX2 5, w ∈ wsX2_copyFrom := by decide +kernel
  refine lv_iconst (v := (nI 0)) hx hb dX2_copyFrom_0 (by decide) ?_
  refine lv_istore_n (lv' := [(2, .int (nI 0)), (0, .ref (a 0)), (1, .ref (c 0))]) hx hb dX2_copyFrom_1 rfl hl (by decide) rfl (fun ls hl => ?_)
  refine lv_iload_n hx hb dX2_copyFrom_2 rfl (lv_at hl 0 rfl) ?_
  refine lv_iconst (v := (nI 4)) hx hb dX2_copyFrom_3 (by decide) ?_
  refine lv_icmp_ge (tgt := 32) hx hb dX2_copyFrom_4 (by decide) (fun c4 => ?_) (fun c4 => ?_)
  · skip
    exfalso
    exact absurd c4 (by decide)
  · skip
    refine lv_aload_n hx hb dX2_copyFrom_7 rfl (lv_at hl 2 rfl) ?_
    refine va_get (D := D) (ci := 2) (v := .ref (c 1)) (C := RX2) (T := TX2) (N := 5) hx hb hts hI2 hown hK.1 hP 8 rfl rfl 0 (by decide) lk11 (fun _ h9 => h9) rfl dX2_copyFrom_8 ?_
    refine lv_iload_n hx hb dX2_copyFrom_11 rfl (lv_at hl 0 rfl) ?_
    refine n_aald (b := c 4) hx hb hK hP 9 1 rfl rfl (by decide) (by decide) rfl dX2_copyFrom_12 ?_
    refine lv_iconst (v := (nI 0)) hx hb dX2_copyFrom_13 (by decide) ?_
    refine lv_aload_n hx hb dX2_copyFrom_14 rfl (lv_at hl 1 rfl) ?_
    refine va_get (D := D) (ci := 2) (v := .ref (a 1)) (C := RX2) (T := TX2) (N := 5) hx hb hts hI2 hown hK.1 hP 0 rfl rfl 0 (by decide) lk11 (fun _ h9 => h9) rfl dX2_copyFrom_15 ?_
    refine lv_iload_n hx hb dX2_copyFrom_18 rfl (lv_at hl 0 rfl) ?_
    refine n_aald (b := a 4) hx hb hK hP 1 1 rfl rfl (by decide) (by decide) rfl dX2_copyFrom_19 ?_
    refine lv_iconst (v := (nI 0)) hx hb dX2_copyFrom_20 (by decide) ?_
    refine lv_bipush (v := (nI 10)) hx hb dX2_copyFrom_21 (by decide) ?_
    refine n_copy F hK hP hD hS (hts (.methodLink RX2 30 arraycopyName) (by decide +kernel)) (hts (.native arraycopyName) (by decide +kernel)) (hts (.static arraycopyName) (by decide +kernel)) (hts (.initialized "java/lang/System") (by decide +kernel)) 12 4 0 rfl rfl rfl (by decide) hl.1 (Nat.le_of_ble_eq_true rfl) (Nat.le_of_ble_eq_true rfl) dX2_copyFrom_23 (wsN := SW a cI cG (vset V 0 (U 0)) ++ SW c cI cG U) rfl (fun H locs hP hD hS => ?_)
    refine lv_iinc (v := (nI 1)) (lv' := [(2, .int (nI 1)), (0, .ref (a 0)), (1, .ref (c 0))]) hx hb dX2_copyFrom_26 hl (k := 0) rfl (n_inc1 _) (by decide) rfl (fun ls hl => ?_)
    refine lv_goto (tgt := 2) hx hb dX2_copyFrom_29 (by decide) ?_
    refine lv_iload_n hx hb dX2_copyFrom_2 rfl (lv_at hl 0 rfl) ?_
    refine lv_iconst (v := (nI 4)) hx hb dX2_copyFrom_3 (by decide) ?_
    refine lv_icmp_ge (tgt := 32) hx hb dX2_copyFrom_4 (by decide) (fun c4 => ?_) (fun c4 => ?_)
    · skip
      exfalso
      exact absurd c4 (by decide)
    · skip
      refine lv_aload_n hx hb dX2_copyFrom_7 rfl (lv_at hl 2 rfl) ?_
      refine va_get (D := D) (ci := 2) (v := .ref (c 1)) (C := RX2) (T := TX2) (N := 5) hx hb hts hI2 hown hK.1 hP 8 rfl rfl 0 (by decide) lk11 (fun _ h9 => h9) rfl dX2_copyFrom_8 ?_
      refine lv_iload_n hx hb dX2_copyFrom_11 rfl (lv_at hl 0 rfl) ?_
      refine n_aald (b := c 5) hx hb hK hP 9 1 rfl rfl (by decide) (by decide) rfl dX2_copyFrom_12 ?_
      refine lv_iconst (v := (nI 0)) hx hb dX2_copyFrom_13 (by decide) ?_
      refine lv_aload_n hx hb dX2_copyFrom_14 rfl (lv_at hl 1 rfl) ?_
      refine va_get (D := D) (ci := 2) (v := .ref (a 1)) (C := RX2) (T := TX2) (N := 5) hx hb hts hI2 hown hK.1 hP 0 rfl rfl 0 (by decide) lk11 (fun _ h9 => h9) rfl dX2_copyFrom_15 ?_
      refine lv_iload_n hx hb dX2_copyFrom_18 rfl (lv_at hl 0 rfl) ?_
      refine n_aald (b := a 5) hx hb hK hP 1 1 rfl rfl (by decide) (by decide) rfl dX2_copyFrom_19 ?_
      refine lv_iconst (v := (nI 0)) hx hb dX2_copyFrom_20 (by decide) ?_
      refine lv_bipush (v := (nI 10)) hx hb dX2_copyFrom_21 (by decide) ?_
      refine n_copy F hK hP hD hS (hts (.methodLink RX2 30 arraycopyName) (by decide +kernel)) (hts (.native arraycopyName) (by decide +kernel)) (hts (.static arraycopyName) (by decide +kernel)) (hts (.initialized "java/lang/System") (by decide +kernel)) 13 5 0 rfl rfl rfl (by decide) hl.1 (Nat.le_of_ble_eq_true rfl) (Nat.le_of_ble_eq_true rfl) dX2_copyFrom_23 (wsN := SW a cI cG (vset (vset V 0 (U 0)) 1 (U 1)) ++ SW c cI cG U) rfl (fun H locs hP hD hS => ?_)
      refine lv_iinc (v := (nI 2)) (lv' := [(2, .int (nI 2)), (0, .ref (a 0)), (1, .ref (c 0))]) hx hb dX2_copyFrom_26 hl (k := 0) rfl (n_inc1 _) (by decide) rfl (fun ls hl => ?_)
      refine lv_goto (tgt := 2) hx hb dX2_copyFrom_29 (by decide) ?_
      refine lv_iload_n hx hb dX2_copyFrom_2 rfl (lv_at hl 0 rfl) ?_
      refine lv_iconst (v := (nI 4)) hx hb dX2_copyFrom_3 (by decide) ?_
      refine lv_icmp_ge (tgt := 32) hx hb dX2_copyFrom_4 (by decide) (fun c4 => ?_) (fun c4 => ?_)
      · skip
        exfalso
        exact absurd c4 (by decide)
      · skip
        refine lv_aload_n hx hb dX2_copyFrom_7 rfl (lv_at hl 2 rfl) ?_
        refine va_get (D := D) (ci := 2) (v := .ref (c 1)) (C := RX2) (T := TX2) (N := 5) hx hb hts hI2 hown hK.1 hP 8 rfl rfl 0 (by decide) lk11 (fun _ h9 => h9) rfl dX2_copyFrom_8 ?_
        refine lv_iload_n hx hb dX2_copyFrom_11 rfl (lv_at hl 0 rfl) ?_
        refine n_aald (b := c 6) hx hb hK hP 9 1 rfl rfl (by decide) (by decide) rfl dX2_copyFrom_12 ?_
        refine lv_iconst (v := (nI 0)) hx hb dX2_copyFrom_13 (by decide) ?_
        refine lv_aload_n hx hb dX2_copyFrom_14 rfl (lv_at hl 1 rfl) ?_
        refine va_get (D := D) (ci := 2) (v := .ref (a 1)) (C := RX2) (T := TX2) (N := 5) hx hb hts hI2 hown hK.1 hP 0 rfl rfl 0 (by decide) lk11 (fun _ h9 => h9) rfl dX2_copyFrom_15 ?_
        refine lv_iload_n hx hb dX2_copyFrom_18 rfl (lv_at hl 0 rfl) ?_
        refine n_aald (b := a 6) hx hb hK hP 1 1 rfl rfl (by decide) (by decide) rfl dX2_copyFrom_19 ?_
        refine lv_iconst (v := (nI 0)) hx hb dX2_copyFrom_20 (by decide) ?_
        refine lv_bipush (v := (nI 10)) hx hb dX2_copyFrom_21 (by decide) ?_
        refine n_copy F hK hP hD hS (hts (.methodLink RX2 30 arraycopyName) (by decide +kernel)) (hts (.native arraycopyName) (by decide +kernel)) (hts (.static arraycopyName) (by decide +kernel)) (hts (.initialized "java/lang/System") (by decide +kernel)) 14 6 0 rfl rfl rfl (by decide) hl.1 (Nat.le_of_ble_eq_true rfl) (Nat.le_of_ble_eq_true rfl) dX2_copyFrom_23 (wsN := SW a cI cG (vset (vset (vset V 0 (U 0)) 1 (U 1)) 2 (U 2)) ++ SW c cI cG U) rfl (fun H locs hP hD hS => ?_)
        refine lv_iinc (v := (nI 3)) (lv' := [(2, .int (nI 3)), (0, .ref (a 0)), (1, .ref (c 0))]) hx hb dX2_copyFrom_26 hl (k := 0) rfl (n_inc1 _) (by decide) rfl (fun ls hl => ?_)
        refine lv_goto (tgt := 2) hx hb dX2_copyFrom_29 (by decide) ?_
        refine lv_iload_n hx hb dX2_copyFrom_2 rfl (lv_at hl 0 rfl) ?_
        refine lv_iconst (v := (nI 4)) hx hb dX2_copyFrom_3 (by decide) ?_
        refine lv_icmp_ge (tgt := 32) hx hb dX2_copyFrom_4 (by decide) (fun c4 => ?_) (fun c4 => ?_)
        · skip
          exfalso
          exact absurd c4 (by decide)
        · skip
          refine lv_aload_n hx hb dX2_copyFrom_7 rfl (lv_at hl 2 rfl) ?_
          refine va_get (D := D) (ci := 2) (v := .ref (c 1)) (C := RX2) (T := TX2) (N := 5) hx hb hts hI2 hown hK.1 hP 8 rfl rfl 0 (by decide) lk11 (fun _ h9 => h9) rfl dX2_copyFrom_8 ?_
          refine lv_iload_n hx hb dX2_copyFrom_11 rfl (lv_at hl 0 rfl) ?_
          refine n_aald (b := c 7) hx hb hK hP 9 1 rfl rfl (by decide) (by decide) rfl dX2_copyFrom_12 ?_
          refine lv_iconst (v := (nI 0)) hx hb dX2_copyFrom_13 (by decide) ?_
          refine lv_aload_n hx hb dX2_copyFrom_14 rfl (lv_at hl 1 rfl) ?_
          refine va_get (D := D) (ci := 2) (v := .ref (a 1)) (C := RX2) (T := TX2) (N := 5) hx hb hts hI2 hown hK.1 hP 0 rfl rfl 0 (by decide) lk11 (fun _ h9 => h9) rfl dX2_copyFrom_15 ?_
          refine lv_iload_n hx hb dX2_copyFrom_18 rfl (lv_at hl 0 rfl) ?_
          refine n_aald (b := a 7) hx hb hK hP 1 1 rfl rfl (by decide) (by decide) rfl dX2_copyFrom_19 ?_
          refine lv_iconst (v := (nI 0)) hx hb dX2_copyFrom_20 (by decide) ?_
          refine lv_bipush (v := (nI 10)) hx hb dX2_copyFrom_21 (by decide) ?_
          refine n_copy F hK hP hD hS (hts (.methodLink RX2 30 arraycopyName) (by decide +kernel)) (hts (.native arraycopyName) (by decide +kernel)) (hts (.static arraycopyName) (by decide +kernel)) (hts (.initialized "java/lang/System") (by decide +kernel)) 15 7 0 rfl rfl rfl (by decide) hl.1 (Nat.le_of_ble_eq_true rfl) (Nat.le_of_ble_eq_true rfl) dX2_copyFrom_23 (wsN := SW a cI cG (vset (vset (vset (vset V 0 (U 0)) 1 (U 1)) 2 (U 2)) 3 (U 3)) ++ SW c cI cG U) rfl (fun H locs hP hD hS => ?_)
          refine lv_iinc (v := (nI 4)) (lv' := [(2, .int (nI 4)), (0, .ref (a 0)), (1, .ref (c 0))]) hx hb dX2_copyFrom_26 hl (k := 0) rfl (n_inc1 _) (by decide) rfl (fun ls hl => ?_)
          refine lv_goto (tgt := 2) hx hb dX2_copyFrom_29 (by decide) ?_
          refine lv_iload_n hx hb dX2_copyFrom_2 rfl (lv_at hl 0 rfl) ?_
          refine lv_iconst (v := (nI 4)) hx hb dX2_copyFrom_3 (by decide) ?_
          refine lv_icmp_ge (tgt := 32) hx hb dX2_copyFrom_4 (by decide) (fun c4 => ?_) (fun c4 => ?_)
          · skip
            refine lv_aload_n hx hb dX2_copyFrom_32 rfl (lv_at hl 2 rfl) ?_
            refine va_get (D := D) (ci := 2) (v := .ref (c 2)) (C := RX2) (T := TX2) (N := 5) hx hb hts hI2 hown hK.1 hP 8 rfl rfl 1 (by decide) lk16 (fun _ h9 => h9) rfl dX2_copyFrom_33 ?_
            refine lv_iconst (v := (nI 0)) hx hb dX2_copyFrom_36 (by decide) ?_
            refine lv_aload_n hx hb dX2_copyFrom_37 rfl (lv_at hl 1 rfl) ?_
            refine va_get (D := D) (ci := 2) (v := .ref (a 2)) (C := RX2) (T := TX2) (N := 5) hx hb hts hI2 hown hK.1 hP 0 rfl rfl 1 (by decide) lk16 (fun _ h9 => h9) rfl dX2_copyFrom_38 ?_
            refine lv_iconst (v := (nI 0)) hx hb dX2_copyFrom_41 (by decide) ?_
            refine lv_bipush (v := (nI 8)) hx hb dX2_copyFrom_42 (by decide) ?_
            refine n_copy F hK hP hD hS (hts (.methodLink RX2 30 arraycopyName) (by decide +kernel)) (hts (.native arraycopyName) (by decide +kernel)) (hts (.static arraycopyName) (by decide +kernel)) (hts (.initialized "java/lang/System") (by decide +kernel)) 10 2 0 rfl rfl rfl (by decide) hl.1 (Nat.le_of_ble_eq_true rfl) (Nat.le_of_ble_eq_true rfl) dX2_copyFrom_44 (wsN := SW a cI cG (vset (vset (vset (vset (vset V 4 (U 4)) 0 (U 0)) 1 (U 1)) 2 (U 2)) 3 (U 3)) ++ SW c cI cG U) rfl (fun H locs hP hD hS => ?_)
            refine lv_aload_n hx hb dX2_copyFrom_47 rfl (lv_at hl 2 rfl) ?_
            refine va_get (D := D) (ci := 2) (v := .ref (c 3)) (C := RX2) (T := TX2) (N := 5) hx hb hts hI2 hown hK.1 hP 8 rfl rfl 2 (by decide) lk20 (fun _ h9 => h9) rfl dX2_copyFrom_48 ?_
            refine lv_iconst (v := (nI 0)) hx hb dX2_copyFrom_51 (by decide) ?_
            refine lv_aload_n hx hb dX2_copyFrom_52 rfl (lv_at hl 1 rfl) ?_
            refine va_get (D := D) (ci := 2) (v := .ref (a 3)) (C := RX2) (T := TX2) (N := 5) hx hb hts hI2 hown hK.1 hP 0 rfl rfl 2 (by decide) lk20 (fun _ h9 => h9) rfl dX2_copyFrom_53 ?_
            refine lv_iconst (v := (nI 0)) hx hb dX2_copyFrom_56 (by decide) ?_
            refine lv_bipush (v := (nI 8)) hx hb dX2_copyFrom_57 (by decide) ?_
            refine n_copy F hK hP hD hS (hts (.methodLink RX2 30 arraycopyName) (by decide +kernel)) (hts (.native arraycopyName) (by decide +kernel)) (hts (.static arraycopyName) (by decide +kernel)) (hts (.initialized "java/lang/System") (by decide +kernel)) 11 3 0 rfl rfl rfl (by decide) hl.1 (Nat.le_of_ble_eq_true rfl) (Nat.le_of_ble_eq_true rfl) dX2_copyFrom_59 (wsN := SW a cI cG (vset (vset (vset (vset (vset (vset V 4 (U 4)) 5 (U 5)) 0 (U 0)) 1 (U 1)) 2 (U 2)) 3 (U 3)) ++ SW c cI cG U) rfl (fun H locs hP hD hS => ?_)
            refine lv_aload_n hx hb dX2_copyFrom_62 rfl (lv_at hl 1 rfl) ?_
            refine lv_aload_n hx hb dX2_copyFrom_63 rfl (lv_at hl 2 rfl) ?_
            refine va_get (D := D) (ci := 2) (v := .int (U 6 0)) (C := RX2) (T := TX2) (N := 5) hx hb hts hI2 hown hK.1 hP 8 rfl rfl 3 (by decide) lk23 (fun _ h9 => h9) rfl dX2_copyFrom_64 ?_
            refine va_put (D := D) (ci := 2) (v := .int (U 6 0)) (ty := .int) (C := RX2) (T := TX2) (N := 5) hx hb hts hI2 tyX2 tyX2_ok nmX2 hown hK.1 hP hD hS 0 rfl rfl 3 (by decide) lk23 (fun _ h9 => h9) rfl (by decide +kernel) rfl rfl (Nat.le_of_ble_eq_true rfl) dX2_copyFrom_67 (fun H locs hP hD hS => ?_)
            have hP : va_P D vwCl (SW a cI cG (vset (vset (vset (vset (vset (vset (vset V 4 (U 4)) 5 (U 5)) 0 (U 0)) 1 (U 1)) 2 (U 2)) 3 (U 3)) 6 (upd ((vset (vset (vset (vset (vset (vset V 4 (U 4)) 5 (U 5)) 0 (U 0)) 1 (U 1)) 2 (U 2)) 3 (U 3)) 6) 0 (U 6 0))) ++ SW c cI cG U) H := hP
            have hD : va_D A0 (SW a cI cG (vset (vset (vset (vset (vset (vset (vset V 4 (U 4)) 5 (U 5)) 0 (U 0)) 1 (U 1)) 2 (U 2)) 3 (U 3)) 6 (upd ((vset (vset (vset (vset (vset (vset V 4 (U 4)) 5 (U 5)) 0 (U 0)) 1 (U 1)) 2 (U 2)) 3 (U 3)) 6) 0 (U 6 0))) ++ SW c cI cG U) := hD
            refine lv_aload_n hx hb dX2_copyFrom_70 rfl (lv_at hl 1 rfl) ?_
            refine lv_aload_n hx hb dX2_copyFrom_71 rfl (lv_at hl 2 rfl) ?_
            refine va_get (D := D) (ci := 2) (v := .int (U 6 1)) (C := RX2) (T := TX2) (N := 5) hx hb hts hI2 hown hK.1 hP 8 rfl rfl 4 (by decide) lk27 (fun _ h9 => h9) rfl dX2_copyFrom_72 ?_
            refine va_put (D := D) (ci := 2) (v := .int (U 6 1)) (ty := .int) (C := RX2) (T := TX2) (N := 5) hx hb hts hI2 tyX2 tyX2_ok nmX2 hown hK.1 hP hD hS 0 rfl rfl 4 (by decide) lk27 (fun _ h9 => h9) rfl (by decide +kernel) rfl rfl (Nat.le_of_ble_eq_true rfl) dX2_copyFrom_75 (fun H locs hP hD hS => ?_)
            have hP : va_P D vwCl (SW a cI cG (vset (vset (vset (vset (vset (vset (vset (vset V 4 (U 4)) 5 (U 5)) 0 (U 0)) 1 (U 1)) 2 (U 2)) 3 (U 3)) 6 (upd ((vset (vset (vset (vset (vset (vset V 4 (U 4)) 5 (U 5)) 0 (U 0)) 1 (U 1)) 2 (U 2)) 3 (U 3)) 6) 0 (U 6 0))) 6 (upd ((vset (vset (vset (vset (vset (vset (vset V 4 (U 4)) 5 (U 5)) 0 (U 0)) 1 (U 1)) 2 (U 2)) 3 (U 3)) 6 (upd ((vset (vset (vset (vset (vset (vset V 4 (U 4)) 5 (U 5)) 0 (U 0)) 1 (U 1)) 2 (U 2)) 3 (U 3)) 6) 0 (U 6 0))) 6) 1 (U 6 1))) ++ SW c cI cG U) H := hP
            have hD : va_D A0 (SW a cI cG (vset (vset (vset (vset (vset (vset (vset (vset V 4 (U 4)) 5 (U 5)) 0 (U 0)) 1 (U 1)) 2 (U 2)) 3 (U 3)) 6 (upd ((vset (vset (vset (vset (vset (vset V 4 (U 4)) 5 (U 5)) 0 (U 0)) 1 (U 1)) 2 (U 2)) 3 (U 3)) 6) 0 (U 6 0))) 6 (upd ((vset (vset (vset (vset (vset (vset (vset V 4 (U 4)) 5 (U 5)) 0 (U 0)) 1 (U 1)) 2 (U 2)) 3 (U 3)) 6 (upd ((vset (vset (vset (vset (vset (vset V 4 (U 4)) 5 (U 5)) 0 (U 0)) 1 (U 1)) 2 (U 2)) 3 (U 3)) 6) 0 (U 6 0))) 6) 1 (U 6 1))) ++ SW c cI cG U) := hD
            exact RETN _ _ () _ _ dX2_copyFrom_78 (trivial) hP hD hS
          · skip
            exfalso
            exact absurd c4 (by decide)
